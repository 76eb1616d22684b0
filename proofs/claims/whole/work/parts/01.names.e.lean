theorem dX7_product_31 : decode cX7_product 31 = .ok (.bipush 37, 2) := by decide +kernel
theorem dX7_product_33 : decode cX7_product 33 = .ok (.if_icmp .ne 36, 3) := by decide +kernel
theorem dX7_product_36 : decode cX7_product 36 = .ok (.aload_n 0, 1) := by decide +kernel
theorem dX7_product_37 : decode cX7_product 37 = .ok (.invokevirtual 163, 3) := by decide +kernel
theorem dX7_product_40 : decode cX7_product 40 = .ok (.istore_n 1, 1) := by decide +kernel
theorem dX7_product_41 : decode cX7_product 41 = .ok (.aload_n 0, 1) := by decide +kernel
theorem dX7_product_42 : decode cX7_product 42 = .ok (.dup, 1) := by decide +kernel
theorem dX7_product_43 : decode cX7_product 43 = .ok (.getfield 151, 3) := by decide +kernel
theorem dX7_product_46 : decode cX7_product 46 = .ok (.iconst 1, 1) := by decide +kernel
theorem dX7_product_47 : decode cX7_product 47 = .ok (.iadd, 1) := by decide +kernel
theorem dX7_product_48 : decode cX7_product 48 = .ok (.putfield 151, 3) := by decide +kernel
theorem dX7_product_51 : decode cX7_product 51 = .ok (.aload_n 0, 1) := by decide +kernel
theorem dX7_product_52 : decode cX7_product 52 = .ok (.invokevirtual 179, 3) := by decide +kernel
theorem dX7_product_55 : decode cX7_product 55 = .ok (.ifCond .ne 5, 3) := by decide +kernel
theorem dX7_product_58 : decode cX7_product 58 = .ok (.iconst 0, 1) := by decide +kernel
theorem dX7_product_59 : decode cX7_product 59 = .ok (.ireturn, 1) := by decide +kernel
theorem dX7_product_60 : decode cX7_product 60 = .ok (.aload_n 0, 1) := by decide +kernel
theorem dX7_product_61 : decode cX7_product 61 = .ok (.iconst 3, 1) := by decide +kernel
theorem dX7_product_62 : decode cX7_product 62 = .ok (.iload_n 1, 1) := by decide +kernel
theorem dX7_product_63 : decode cX7_product 63 = .ok (.invokevirtual 166, 3) := by decide +kernel
theorem dX7_product_66 : decode cX7_product 66 = .ok (.goto (-57), 3) := by decide +kernel
theorem dX7_product_69 : decode cX7_product 69 = .ok (.iconst 1, 1) := by decide +kernel
theorem dX7_product_70 : decode cX7_product 70 = .ok (.ireturn, 1) := by decide +kernel
theorem dX7_opens_0 : decode cX7_opens 0 = .ok (.aload_n 0, 1) := by decide +kernel
theorem dX7_opens_1 : decode cX7_opens 1 = .ok (.getfield 182, 3) := by decide +kernel
theorem dX7_opens_4 : decode cX7_opens 4 = .ok (.iconst 5, 1) := by decide +kernel
theorem dX7_opens_5 : decode cX7_opens 5 = .ok (.if_icmp .ne 5, 3) := by decide +kernel
theorem dX7_opens_8 : decode cX7_opens 8 = .ok (.iconst 0, 1) := by decide +kernel
theorem dX7_opens_9 : decode cX7_opens 9 = .ok (.ireturn, 1) := by decide +kernel
theorem dX7_opens_10 : decode cX7_opens 10 = .ok (.aload_n 0, 1) := by decide +kernel
theorem dX7_opens_11 : decode cX7_opens 11 = .ok (.dup, 1) := by decide +kernel
theorem dX7_opens_12 : decode cX7_opens 12 = .ok (.getfield 182, 3) := by decide +kernel
theorem dX7_opens_15 : decode cX7_opens 15 = .ok (.iconst 1, 1) := by decide +kernel
theorem dX7_opens_16 : decode cX7_opens 16 = .ok (.iadd, 1) := by decide +kernel
theorem dX7_opens_17 : decode cX7_opens 17 = .ok (.putfield 182, 3) := by decide +kernel
theorem dX7_opens_20 : decode cX7_opens 20 = .ok (.aload_n 0, 1) := by decide +kernel
theorem dX7_opens_21 : decode cX7_opens 21 = .ok (.dup, 1) := by decide +kernel
theorem dX7_opens_22 : decode cX7_opens 22 = .ok (.getfield 151, 3) := by decide +kernel
theorem dX7_opens_25 : decode cX7_opens 25 = .ok (.iconst 1, 1) := by decide +kernel
theorem dX7_opens_26 : decode cX7_opens 26 = .ok (.iadd, 1) := by decide +kernel
theorem dX7_opens_27 : decode cX7_opens 27 = .ok (.putfield 151, 3) := by decide +kernel
theorem dX7_opens_30 : decode cX7_opens 30 = .ok (.iconst 1, 1) := by decide +kernel
theorem dX7_opens_31 : decode cX7_opens 31 = .ok (.ireturn, 1) := by decide +kernel
set_option maxRecDepth 20000 in
theorem ggX7_one_X7_look : GoodIn wsX7_one wsX7_look := goodIn_r _ [7, 1, 8, 50, 51, 52, 53, 54, 55, 56, 57, 58, 59, 60, 61, 62, 63, 64, 65, 66, 67, 68, 69, 70, 71, 72, 73] rfl (by decide +kernel)
set_option maxRecDepth 20000 in
theorem gX7_one_X7_look : GoodIn wsX7_one (wsV RX7 163 RX7 yX7_look wsX7_look) := goodIn_app (goodIn_r _ [3, 4, 5, 6] rfl (by decide +kernel)) ggX7_one_X7_look
set_option maxRecDepth 20000 in
theorem ggX7_one_X7_isName : GoodIn wsX7_one wsX7_isName := goodIn_r _ [12, 13, 50, 51, 52, 53, 54, 55, 56, 57, 58, 59, 60, 61, 62, 63, 64, 65, 66, 67, 68, 69, 70, 71, 72, 73] rfl (by decide +kernel)
set_option maxRecDepth 20000 in
theorem gX7_one_X7_isName : GoodIn wsX7_one (wsV RX7 185 RX7 yX7_isName wsX7_isName) := goodIn_app (goodIn_r _ [9, 10, 11, 6] rfl (by decide +kernel)) ggX7_one_X7_isName
set_option maxRecDepth 20000 in
theorem ggX7_one_X7_lay : GoodIn wsX7_one wsX7_lay := goodIn_r _ [17, 18, 19, 50, 51, 52, 53, 54, 55, 56, 57, 58, 59, 60, 61, 62, 63, 64, 65, 66, 67, 68, 69, 70, 71, 72, 73] rfl (by decide +kernel)
set_option maxRecDepth 20000 in
theorem gX7_one_X7_lay : GoodIn wsX7_one (wsV RX7 166 RX7 yX7_lay wsX7_lay) := goodIn_app (goodIn_r _ [14, 15, 16, 6] rfl (by decide +kernel)) ggX7_one_X7_lay
set_option maxRecDepth 20000 in
theorem ggX7_one_X7_in : GoodIn wsX7_one wsX7_in := goodIn_r _ [22] rfl (by decide +kernel)
set_option maxRecDepth 20000 in
theorem gX7_one_X7_in : GoodIn wsX7_one (va_wsS RX7 56 yX7_in wsX7_in) := goodIn_app (goodIn_r _ [20, 21, 6] rfl (by decide +kernel)) ggX7_one_X7_in
set_option maxRecDepth 20000 in
theorem ggX7_one_X7_opens : GoodIn wsX7_one wsX7_opens := goodIn_r _ [26, 2, 1, 50, 51, 52, 53, 54, 55, 56, 57, 58, 59, 60, 61, 62, 63, 64, 65, 66, 67, 68, 69, 70, 71, 72, 73] rfl (by decide +kernel)
set_option maxRecDepth 20000 in
theorem gX7_one_X7_opens : GoodIn wsX7_one (wsV RX7 188 RX7 yX7_opens wsX7_opens) := goodIn_app (goodIn_r _ [23, 24, 25, 6] rfl (by decide +kernel)) ggX7_one_X7_opens
set_option maxRecDepth 20000 in
theorem ggX7_one_X7_one : GoodIn wsX7_one wsX7_one := goodIn_r _ [0, 1, 2, 3, 4, 5, 6, 7, 8, 9, 10, 11, 12, 13, 14, 15, 16, 17, 18, 19, 20, 21, 22, 23, 24, 25, 26, 27, 28, 29, 30, 31, 32, 33, 34, 35, 36, 37, 38, 39, 40, 41, 42, 43, 44, 45, 46, 47, 48, 49, 50, 51, 52, 53, 54, 55, 56, 57, 58, 59, 60, 61, 62, 63, 64, 65, 66, 67, 68, 69, 70, 71, 72, 73] rfl (by decide +kernel)
set_option maxRecDepth 20000 in
theorem gX7_one_X7_one : GoodIn wsX7_one (wsV RX7 179 RX7 yX7_one wsX7_one) := goodIn_app (goodIn_r _ [27, 28, 29, 6] rfl (by decide +kernel)) ggX7_one_X7_one
set_option maxRecDepth 20000 in
theorem ggX7_one_X7_whole : GoodIn wsX7_one wsX7_whole := goodIn_r _ [46, 1, 47, 48, 49, 6, 3, 4, 5, 7, 8, 14, 15, 16, 17, 18, 19, 33, 34, 35, 36, 37, 38, 39, 40, 0, 2, 9, 10, 11, 12, 13, 20, 21, 22, 23, 24, 25, 26, 27, 28, 29, 30, 31, 32, 41, 42, 43, 44, 45, 50, 51, 52, 53, 54, 55, 56, 57, 58, 59, 60, 61, 62, 63, 64, 65, 66, 67, 68, 69, 70, 71, 72, 73] rfl (by decide +kernel)
set_option maxRecDepth 20000 in
theorem gX7_one_X7_whole : GoodIn wsX7_one (wsV RX7 191 RX7 yX7_whole wsX7_whole) := goodIn_app (goodIn_r _ [30, 31, 32, 6] rfl (by decide +kernel)) ggX7_one_X7_whole
theorem dX7_one_0 : decode cX7_one 0 = .ok (.aload_n 0, 1) := by decide +kernel
theorem dX7_one_1 : decode cX7_one 1 = .ok (.invokevirtual 163, 3) := by decide +kernel
theorem dX7_one_4 : decode cX7_one 4 = .ok (.istore_n 1, 1) := by decide +kernel
theorem dX7_one_5 : decode cX7_one 5 = .ok (.aload_n 0, 1) := by decide +kernel
theorem dX7_one_6 : decode cX7_one 6 = .ok (.iload_n 1, 1) := by decide +kernel
theorem dX7_one_7 : decode cX7_one 7 = .ok (.invokevirtual 185, 3) := by decide +kernel
theorem dX7_one_10 : decode cX7_one 10 = .ok (.ifCond .eq 21, 3) := by decide +kernel
theorem dX7_one_13 : decode cX7_one 13 = .ok (.aload_n 0, 1) := by decide +kernel
theorem dX7_one_14 : decode cX7_one 14 = .ok (.dup, 1) := by decide +kernel
theorem dX7_one_15 : decode cX7_one 15 = .ok (.getfield 151, 3) := by decide +kernel
theorem dX7_one_18 : decode cX7_one 18 = .ok (.iconst 1, 1) := by decide +kernel
theorem dX7_one_19 : decode cX7_one 19 = .ok (.iadd, 1) := by decide +kernel
theorem dX7_one_20 : decode cX7_one 20 = .ok (.putfield 151, 3) := by decide +kernel
theorem dX7_one_23 : decode cX7_one 23 = .ok (.aload_n 0, 1) := by decide +kernel
theorem dX7_one_24 : decode cX7_one 24 = .ok (.iconst 1, 1) := by decide +kernel
theorem dX7_one_25 : decode cX7_one 25 = .ok (.iload_n 1, 1) := by decide +kernel
theorem dX7_one_26 : decode cX7_one 26 = .ok (.invokevirtual 166, 3) := by decide +kernel
theorem dX7_one_29 : decode cX7_one 29 = .ok (.iconst 1, 1) := by decide +kernel
theorem dX7_one_30 : decode cX7_one 30 = .ok (.ireturn, 1) := by decide +kernel
theorem dX7_one_31 : decode cX7_one 31 = .ok (.iload_n 1, 1) := by decide +kernel
theorem dX7_one_32 : decode cX7_one 32 = .ok (.bipush 48, 2) := by decide +kernel
theorem dX7_one_34 : decode cX7_one 34 = .ok (.bipush 57, 2) := by decide +kernel
theorem dX7_one_36 : decode cX7_one 36 = .ok (.invokestatic 56, 3) := by decide +kernel
theorem dX7_one_39 : decode cX7_one 39 = .ok (.ifCond .eq 63, 3) := by decide +kernel
theorem dX7_one_42 : decode cX7_one 42 = .ok (.iconst 0, 1) := by decide +kernel
theorem dX7_one_43 : decode cX7_one 43 = .ok (.istore_n 2, 1) := by decide +kernel
theorem dX7_one_44 : decode cX7_one 44 = .ok (.iconst 0, 1) := by decide +kernel
theorem dX7_one_45 : decode cX7_one 45 = .ok (.istore_n 3, 1) := by decide +kernel
theorem dX7_one_46 : decode cX7_one 46 = .ok (.iload_n 3, 1) := by decide +kernel
theorem dX7_one_47 : decode cX7_one 47 = .ok (.iconst 4, 1) := by decide +kernel
theorem dX7_one_48 : decode cX7_one 48 = .ok (.if_icmp .ge 46, 3) := by decide +kernel
theorem dX7_one_51 : decode cX7_one 51 = .ok (.aload_n 0, 1) := by decide +kernel
theorem dX7_one_52 : decode cX7_one 52 = .ok (.invokevirtual 163, 3) := by decide +kernel
theorem dX7_one_55 : decode cX7_one 55 = .ok (.bipush 48, 2) := by decide +kernel
theorem dX7_one_57 : decode cX7_one 57 = .ok (.bipush 57, 2) := by decide +kernel
theorem dX7_one_59 : decode cX7_one 59 = .ok (.invokestatic 56, 3) := by decide +kernel
theorem dX7_one_62 : decode cX7_one 62 = .ok (.ifCond .eq 32, 3) := by decide +kernel
theorem dX7_one_65 : decode cX7_one 65 = .ok (.bipush 10, 2) := by decide +kernel
theorem dX7_one_67 : decode cX7_one 67 = .ok (.iload_n 2, 1) := by decide +kernel
theorem dX7_one_68 : decode cX7_one 68 = .ok (.imul, 1) := by decide +kernel
theorem dX7_one_69 : decode cX7_one 69 = .ok (.aload_n 0, 1) := by decide +kernel
theorem dX7_one_70 : decode cX7_one 70 = .ok (.invokevirtual 163, 3) := by decide +kernel
theorem dX7_one_73 : decode cX7_one 73 = .ok (.iadd, 1) := by decide +kernel
theorem dX7_one_74 : decode cX7_one 74 = .ok (.bipush 48, 2) := by decide +kernel
theorem dX7_one_76 : decode cX7_one 76 = .ok (.isub, 1) := by decide +kernel
theorem dX7_one_77 : decode cX7_one 77 = .ok (.istore_n 2, 1) := by decide +kernel
theorem dX7_one_78 : decode cX7_one 78 = .ok (.aload_n 0, 1) := by decide +kernel
theorem dX7_one_79 : decode cX7_one 79 = .ok (.dup, 1) := by decide +kernel
theorem dX7_one_80 : decode cX7_one 80 = .ok (.getfield 151, 3) := by decide +kernel
theorem dX7_one_83 : decode cX7_one 83 = .ok (.iconst 1, 1) := by decide +kernel
theorem dX7_one_84 : decode cX7_one 84 = .ok (.iadd, 1) := by decide +kernel
theorem dX7_one_85 : decode cX7_one 85 = .ok (.putfield 151, 3) := by decide +kernel
theorem dX7_one_88 : decode cX7_one 88 = .ok (.iinc 3 1, 3) := by decide +kernel
theorem dX7_one_91 : decode cX7_one 91 = .ok (.goto (-45), 3) := by decide +kernel
theorem dX7_one_94 : decode cX7_one 94 = .ok (.aload_n 0, 1) := by decide +kernel
theorem dX7_one_95 : decode cX7_one 95 = .ok (.iconst 0, 1) := by decide +kernel
theorem dX7_one_96 : decode cX7_one 96 = .ok (.iload_n 2, 1) := by decide +kernel
theorem dX7_one_97 : decode cX7_one 97 = .ok (.invokevirtual 166, 3) := by decide +kernel
theorem dX7_one_100 : decode cX7_one 100 = .ok (.iconst 1, 1) := by decide +kernel
theorem dX7_one_101 : decode cX7_one 101 = .ok (.ireturn, 1) := by decide +kernel
theorem dX7_one_102 : decode cX7_one 102 = .ok (.iload_n 1, 1) := by decide +kernel
theorem dX7_one_103 : decode cX7_one 103 = .ok (.bipush 33, 2) := by decide +kernel
theorem dX7_one_105 : decode cX7_one 105 = .ok (.if_icmp .ne 37, 3) := by decide +kernel
theorem dX7_one_108 : decode cX7_one 108 = .ok (.aload_n 0, 1) := by decide +kernel
theorem dX7_one_109 : decode cX7_one 109 = .ok (.invokevirtual 188, 3) := by decide +kernel
theorem dX7_one_112 : decode cX7_one 112 = .ok (.ifCond .eq 10, 3) := by decide +kernel
theorem dX7_one_115 : decode cX7_one 115 = .ok (.aload_n 0, 1) := by decide +kernel
theorem dX7_one_116 : decode cX7_one 116 = .ok (.invokevirtual 179, 3) := by decide +kernel
theorem dX7_one_119 : decode cX7_one 119 = .ok (.ifCond .ne 5, 3) := by decide +kernel
theorem dX7_one_122 : decode cX7_one 122 = .ok (.iconst 0, 1) := by decide +kernel
theorem dX7_one_123 : decode cX7_one 123 = .ok (.ireturn, 1) := by decide +kernel
theorem dX7_one_124 : decode cX7_one 124 = .ok (.aload_n 0, 1) := by decide +kernel
theorem dX7_one_125 : decode cX7_one 125 = .ok (.dup, 1) := by decide +kernel
theorem dX7_one_126 : decode cX7_one 126 = .ok (.getfield 182, 3) := by decide +kernel
theorem dX7_one_129 : decode cX7_one 129 = .ok (.iconst 1, 1) := by decide +kernel
theorem dX7_one_130 : decode cX7_one 130 = .ok (.isub, 1) := by decide +kernel
theorem dX7_one_131 : decode cX7_one 131 = .ok (.putfield 182, 3) := by decide +kernel
theorem dX7_one_134 : decode cX7_one 134 = .ok (.aload_n 0, 1) := by decide +kernel
theorem dX7_one_135 : decode cX7_one 135 = .ok (.iconst 2, 1) := by decide +kernel
theorem dX7_one_136 : decode cX7_one 136 = .ok (.iconst 0, 1) := by decide +kernel
theorem dX7_one_137 : decode cX7_one 137 = .ok (.invokevirtual 166, 3) := by decide +kernel
theorem dX7_one_140 : decode cX7_one 140 = .ok (.iconst 1, 1) := by decide +kernel
theorem dX7_one_141 : decode cX7_one 141 = .ok (.ireturn, 1) := by decide +kernel
theorem dX7_one_142 : decode cX7_one 142 = .ok (.iload_n 1, 1) := by decide +kernel
theorem dX7_one_143 : decode cX7_one 143 = .ok (.bipush 40, 2) := by decide +kernel
theorem dX7_one_145 : decode cX7_one 145 = .ok (.if_icmp .ne 26, 3) := by decide +kernel
theorem dX7_one_148 : decode cX7_one 148 = .ok (.aload_n 0, 1) := by decide +kernel
theorem dX7_one_149 : decode cX7_one 149 = .ok (.invokevirtual 188, 3) := by decide +kernel
theorem dX7_one_152 : decode cX7_one 152 = .ok (.ifCond .eq 19, 3) := by decide +kernel
theorem dX7_one_155 : decode cX7_one 155 = .ok (.aload_n 0, 1) := by decide +kernel
theorem dX7_one_156 : decode cX7_one 156 = .ok (.invokevirtual 191, 3) := by decide +kernel
theorem dX7_one_159 : decode cX7_one 159 = .ok (.ifCond .eq 12, 3) := by decide +kernel
theorem dX7_one_162 : decode cX7_one 162 = .ok (.aload_n 0, 1) := by decide +kernel
theorem dX7_one_163 : decode cX7_one 163 = .ok (.invokevirtual 163, 3) := by decide +kernel
theorem dX7_one_166 : decode cX7_one 166 = .ok (.bipush 41, 2) := by decide +kernel
theorem dX7_one_168 : decode cX7_one 168 = .ok (.if_icmp .eq 5, 3) := by decide +kernel
theorem dX7_one_171 : decode cX7_one 171 = .ok (.iconst 0, 1) := by decide +kernel
theorem dX7_one_172 : decode cX7_one 172 = .ok (.ireturn, 1) := by decide +kernel
theorem dX7_one_173 : decode cX7_one 173 = .ok (.aload_n 0, 1) := by decide +kernel
theorem dX7_one_174 : decode cX7_one 174 = .ok (.dup, 1) := by decide +kernel
theorem dX7_one_175 : decode cX7_one 175 = .ok (.getfield 151, 3) := by decide +kernel
theorem dX7_one_178 : decode cX7_one 178 = .ok (.iconst 1, 1) := by decide +kernel
theorem dX7_one_179 : decode cX7_one 179 = .ok (.iadd, 1) := by decide +kernel
theorem dX7_one_180 : decode cX7_one 180 = .ok (.putfield 151, 3) := by decide +kernel
theorem dX7_one_183 : decode cX7_one 183 = .ok (.aload_n 0, 1) := by decide +kernel
theorem dX7_one_184 : decode cX7_one 184 = .ok (.dup, 1) := by decide +kernel
theorem dX7_one_185 : decode cX7_one 185 = .ok (.getfield 182, 3) := by decide +kernel
theorem dX7_one_188 : decode cX7_one 188 = .ok (.iconst 1, 1) := by decide +kernel
theorem dX7_one_189 : decode cX7_one 189 = .ok (.isub, 1) := by decide +kernel
theorem dX7_one_190 : decode cX7_one 190 = .ok (.putfield 182, 3) := by decide +kernel
theorem dX7_one_193 : decode cX7_one 193 = .ok (.iconst 1, 1) := by decide +kernel
theorem dX7_one_194 : decode cX7_one 194 = .ok (.ireturn, 1) := by decide +kernel
theorem dX7_hasText_0 : decode cX7_hasText 0 = .ok (.aload_n 0, 1) := by decide +kernel
theorem dX7_hasText_1 : decode cX7_hasText 1 = .ok (.getfield 7, 3) := by decide +kernel
theorem dX7_hasText_4 : decode cX7_hasText 4 = .ok (.sipush 2890, 3) := by decide +kernel
theorem dX7_hasText_7 : decode cX7_hasText 7 = .ok (.bipush 125, 2) := by decide +kernel
theorem dX7_hasText_9 : decode cX7_hasText 9 = .ok (.iload_n 1, 1) := by decide +kernel
theorem dX7_hasText_10 : decode cX7_hasText 10 = .ok (.imul, 1) := by decide +kernel
theorem dX7_hasText_11 : decode cX7_hasText 11 = .ok (.iadd, 1) := by decide +kernel
theorem dX7_hasText_12 : decode cX7_hasText 12 = .ok (.iaload, 1) := by decide +kernel
theorem dX7_hasText_13 : decode cX7_hasText 13 = .ok (.ifCond .le 7, 3) := by decide +kernel
theorem dX7_hasText_16 : decode cX7_hasText 16 = .ok (.iconst 1, 1) := by decide +kernel
theorem dX7_hasText_17 : decode cX7_hasText 17 = .ok (.goto 4, 3) := by decide +kernel
theorem dX7_hasText_20 : decode cX7_hasText 20 = .ok (.iconst 0, 1) := by decide +kernel
theorem dX7_hasText_21 : decode cX7_hasText 21 = .ok (.ireturn, 1) := by decide +kernel
set_option maxRecDepth 20000 in
theorem ggX7_text_X7_in : GoodIn wsX7_text wsX7_in := goodIn_r _ [10] rfl (by decide +kernel)
set_option maxRecDepth 20000 in
theorem gX7_text_X7_in : GoodIn wsX7_text (va_wsS RX7 56 yX7_in wsX7_in) := goodIn_app (goodIn_r _ [7, 8, 9] rfl (by decide +kernel)) ggX7_text_X7_in
set_option maxRecDepth 20000 in
theorem ggX7_text_X7_error : GoodIn wsX7_text wsX7_error := goodIn_r _ [14, 15, 16, 57, 58, 59, 60, 61, 62, 63, 64, 65, 66, 67, 68, 69, 70, 71, 72, 73, 74, 75, 76, 77, 78, 79, 80] rfl (by decide +kernel)
set_option maxRecDepth 20000 in
theorem gX7_text_X7_error : GoodIn wsX7_text (wsV RX7 64 RX7 yX7_error wsX7_error) := goodIn_app (goodIn_r _ [11, 12, 13, 9] rfl (by decide +kernel)) ggX7_text_X7_error
set_option maxRecDepth 20000 in
theorem ggX7_text_X7_whole : GoodIn wsX7_text wsX7_whole := goodIn_r _ [20, 2, 21, 22, 23, 9, 24, 25, 26, 27, 5, 28, 29, 30, 31, 6, 4, 32, 33, 34, 35, 36, 37, 38, 39, 40, 3, 41, 42, 43, 44, 1, 7, 8, 10, 45, 46, 47, 48, 49, 50, 51, 17, 18, 19, 52, 53, 54, 55, 56, 57, 58, 59, 60, 61, 62, 63, 64, 65, 66, 67, 68, 69, 70, 71, 72, 73, 74, 75, 76, 77, 78, 79, 80] rfl (by decide +kernel)
set_option maxRecDepth 20000 in
theorem gX7_text_X7_whole : GoodIn wsX7_text (wsV RX7 191 RX7 yX7_whole wsX7_whole) := goodIn_app (goodIn_r _ [17, 18, 19, 9] rfl (by decide +kernel)) ggX7_text_X7_whole
theorem dX7_text_0 : decode cX7_text 0 = .ok (.iload_n 1, 1) := by decide +kernel
theorem dX7_text_1 : decode cX7_text 1 = .ok (.iconst 0, 1) := by decide +kernel
theorem dX7_text_2 : decode cX7_text 2 = .ok (.bipush 7, 2) := by decide +kernel
theorem dX7_text_4 : decode cX7_text 4 = .ok (.invokestatic 56, 3) := by decide +kernel
theorem dX7_text_7 : decode cX7_text 7 = .ok (.ifCond .ne 9, 3) := by decide +kernel
theorem dX7_text_10 : decode cX7_text 10 = .ok (.aload_n 0, 1) := by decide +kernel
theorem dX7_text_11 : decode cX7_text 11 = .ok (.iconst 1, 1) := by decide +kernel
theorem dX7_text_12 : decode cX7_text 12 = .ok (.invokevirtual 64, 3) := by decide +kernel
theorem dX7_text_15 : decode cX7_text 15 = .ok (.ireturn, 1) := by decide +kernel
theorem dX7_text_16 : decode cX7_text 16 = .ok (.aload_n 0, 1) := by decide +kernel
theorem dX7_text_17 : decode cX7_text 17 = .ok (.iload_n 1, 1) := by decide +kernel
theorem dX7_text_18 : decode cX7_text 18 = .ok (.putfield 154, 3) := by decide +kernel
theorem dX7_text_21 : decode cX7_text 21 = .ok (.aload_n 0, 1) := by decide +kernel
theorem dX7_text_22 : decode cX7_text 22 = .ok (.iconst 0, 1) := by decide +kernel
theorem dX7_text_23 : decode cX7_text 23 = .ok (.putfield 151, 3) := by decide +kernel
theorem dX7_text_26 : decode cX7_text 26 = .ok (.aload_n 0, 1) := by decide +kernel
theorem dX7_text_27 : decode cX7_text 27 = .ok (.iconst 0, 1) := by decide +kernel
theorem dX7_text_28 : decode cX7_text 28 = .ok (.putfield 182, 3) := by decide +kernel
theorem dX7_text_31 : decode cX7_text 31 = .ok (.aload_n 0, 1) := by decide +kernel
theorem dX7_text_32 : decode cX7_text 32 = .ok (.iconst 0, 1) := by decide +kernel
theorem dX7_text_33 : decode cX7_text 33 = .ok (.putfield 157, 3) := by decide +kernel
theorem dX7_text_36 : decode cX7_text 36 = .ok (.aload_n 0, 1) := by decide +kernel
theorem dX7_text_37 : decode cX7_text 37 = .ok (.invokevirtual 191, 3) := by decide +kernel
theorem dX7_text_40 : decode cX7_text 40 = .ok (.ifCond .eq 20, 3) := by decide +kernel
theorem dX7_text_43 : decode cX7_text 43 = .ok (.aload_n 0, 1) := by decide +kernel
theorem dX7_text_44 : decode cX7_text 44 = .ok (.getfield 151, 3) := by decide +kernel
theorem dX7_text_47 : decode cX7_text 47 = .ok (.aload_n 0, 1) := by decide +kernel
theorem dX7_text_48 : decode cX7_text 48 = .ok (.getfield 7, 3) := by decide +kernel
theorem dX7_text_51 : decode cX7_text 51 = .ok (.iconst 4, 1) := by decide +kernel
theorem dX7_text_52 : decode cX7_text 52 = .ok (.iaload, 1) := by decide +kernel
theorem dX7_text_53 : decode cX7_text 53 = .ok (.if_icmp .ne 7, 3) := by decide +kernel
theorem dX7_text_56 : decode cX7_text 56 = .ok (.iconst 1, 1) := by decide +kernel
theorem dX7_text_57 : decode cX7_text 57 = .ok (.goto 4, 3) := by decide +kernel
theorem dX7_text_60 : decode cX7_text 60 = .ok (.iconst 0, 1) := by decide +kernel
theorem dX7_text_61 : decode cX7_text 61 = .ok (.istore_n 2, 1) := by decide +kernel
theorem dX7_text_62 : decode cX7_text 62 = .ok (.aload_n 0, 1) := by decide +kernel
theorem dX7_text_63 : decode cX7_text 63 = .ok (.getfield 7, 3) := by decide +kernel
theorem dX7_text_66 : decode cX7_text 66 = .ok (.iconst 4, 1) := by decide +kernel
theorem dX7_text_67 : decode cX7_text 67 = .ok (.iconst 0, 1) := by decide +kernel
theorem dX7_text_68 : decode cX7_text 68 = .ok (.iastore, 1) := by decide +kernel
theorem dX7_text_69 : decode cX7_text 69 = .ok (.iload_n 2, 1) := by decide +kernel
theorem dX7_text_70 : decode cX7_text 70 = .ok (.ifCond .ne 11, 3) := by decide +kernel
theorem dX7_text_73 : decode cX7_text 73 = .ok (.bipush (-10), 2) := by decide +kernel
theorem dX7_text_75 : decode cX7_text 75 = .ok (.aload_n 0, 1) := by decide +kernel
theorem dX7_text_76 : decode cX7_text 76 = .ok (.getfield 151, 3) := by decide +kernel
theorem dX7_text_79 : decode cX7_text 79 = .ok (.isub, 1) := by decide +kernel
theorem dX7_text_80 : decode cX7_text 80 = .ok (.ireturn, 1) := by decide +kernel
theorem dX7_text_81 : decode cX7_text 81 = .ok (.sipush 2890, 3) := by decide +kernel
theorem dX7_text_84 : decode cX7_text 84 = .ok (.bipush 125, 2) := by decide +kernel
theorem dX7_text_86 : decode cX7_text 86 = .ok (.iload_n 1, 1) := by decide +kernel
theorem dX7_text_87 : decode cX7_text 87 = .ok (.imul, 1) := by decide +kernel
theorem dX7_text_88 : decode cX7_text 88 = .ok (.iadd, 1) := by decide +kernel
theorem dX7_text_89 : decode cX7_text 89 = .ok (.istore_n 3, 1) := by decide +kernel
theorem dX7_text_90 : decode cX7_text 90 = .ok (.aload_n 0, 1) := by decide +kernel
theorem dX7_text_91 : decode cX7_text 91 = .ok (.getfield 7, 3) := by decide +kernel
theorem dX7_text_94 : decode cX7_text 94 = .ok (.iload_n 3, 1) := by decide +kernel
theorem dX7_text_95 : decode cX7_text 95 = .ok (.aload_n 0, 1) := by decide +kernel
theorem dX7_text_96 : decode cX7_text 96 = .ok (.getfield 157, 3) := by decide +kernel
theorem dX7_text_99 : decode cX7_text 99 = .ok (.iastore, 1) := by decide +kernel
theorem dX7_text_100 : decode cX7_text 100 = .ok (.iconst 0, 1) := by decide +kernel
theorem dX7_text_101 : decode cX7_text 101 = .ok (.istore 4, 2) := by decide +kernel
theorem dX7_text_103 : decode cX7_text 103 = .ok (.iload 4, 2) := by decide +kernel
theorem dX7_text_105 : decode cX7_text 105 = .ok (.iconst 2, 1) := by decide +kernel
theorem dX7_text_106 : decode cX7_text 106 = .ok (.aload_n 0, 1) := by decide +kernel
theorem dX7_text_107 : decode cX7_text 107 = .ok (.getfield 157, 3) := by decide +kernel
theorem dX7_text_110 : decode cX7_text 110 = .ok (.imul, 1) := by decide +kernel
theorem dX7_text_111 : decode cX7_text 111 = .ok (.if_icmp .ge 27, 3) := by decide +kernel
theorem dX7_text_114 : decode cX7_text 114 = .ok (.aload_n 0, 1) := by decide +kernel
theorem dX7_text_115 : decode cX7_text 115 = .ok (.getfield 7, 3) := by decide +kernel
theorem dX7_text_118 : decode cX7_text 118 = .ok (.iload_n 3, 1) := by decide +kernel
theorem dX7_text_119 : decode cX7_text 119 = .ok (.iconst 1, 1) := by decide +kernel
theorem dX7_text_120 : decode cX7_text 120 = .ok (.iadd, 1) := by decide +kernel
theorem dX7_text_121 : decode cX7_text 121 = .ok (.iload 4, 2) := by decide +kernel
theorem dX7_text_123 : decode cX7_text 123 = .ok (.iadd, 1) := by decide +kernel
theorem dX7_text_124 : decode cX7_text 124 = .ok (.aload_n 0, 1) := by decide +kernel
theorem dX7_text_125 : decode cX7_text 125 = .ok (.getfield 25, 3) := by decide +kernel
theorem dX7_text_128 : decode cX7_text 128 = .ok (.iload 4, 2) := by decide +kernel
theorem dX7_text_130 : decode cX7_text 130 = .ok (.iaload, 1) := by decide +kernel
theorem dX7_text_131 : decode cX7_text 131 = .ok (.iastore, 1) := by decide +kernel
theorem dX7_text_132 : decode cX7_text 132 = .ok (.iinc 4 1, 3) := by decide +kernel
theorem dX7_text_135 : decode cX7_text 135 = .ok (.goto (-32), 3) := by decide +kernel
theorem dX7_text_138 : decode cX7_text 138 = .ok (.iconst 1, 1) := by decide +kernel
theorem dX7_text_139 : decode cX7_text 139 = .ok (.ireturn, 1) := by decide +kernel
set_option maxRecDepth 20000 in
theorem ggX7_untell_X7_in : GoodIn wsX7_untell wsX7_in := goodIn_r _ [5] rfl (by decide +kernel)
set_option maxRecDepth 20000 in
theorem gX7_untell_X7_in : GoodIn wsX7_untell (va_wsS RX7 56 yX7_in wsX7_in) := goodIn_app (goodIn_r _ [2, 3, 4] rfl (by decide +kernel)) ggX7_untell_X7_in
set_option maxRecDepth 20000 in
theorem ggX7_untell_X7_error : GoodIn wsX7_untell wsX7_error := goodIn_r _ [9, 10, 11, 16, 17, 18, 19, 20, 21, 22, 23, 24, 25, 26, 27, 28, 29, 30, 31, 32, 33, 34, 35, 36, 37, 38, 39] rfl (by decide +kernel)
set_option maxRecDepth 20000 in
theorem gX7_untell_X7_error : GoodIn wsX7_untell (wsV RX7 64 RX7 yX7_error wsX7_error) := goodIn_app (goodIn_r _ [6, 7, 8, 4] rfl (by decide +kernel)) ggX7_untell_X7_error
set_option maxRecDepth 20000 in
theorem ggX7_untell_X7_hasText : GoodIn wsX7_untell wsX7_hasText := goodIn_r _ [15, 1, 16, 17, 18, 19, 20, 21, 22, 23, 24, 25, 26, 27, 28, 29, 30, 31, 32, 33, 34, 35, 36, 37, 38, 39] rfl (by decide +kernel)
set_option maxRecDepth 20000 in
theorem gX7_untell_X7_hasText : GoodIn wsX7_untell (wsV RX7 75 RX7 yX7_hasText wsX7_hasText) := goodIn_app (goodIn_r _ [12, 13, 14, 4] rfl (by decide +kernel)) ggX7_untell_X7_hasText
theorem dX7_untell_0 : decode cX7_untell 0 = .ok (.iload_n 1, 1) := by decide +kernel
theorem dX7_untell_1 : decode cX7_untell 1 = .ok (.iconst 0, 1) := by decide +kernel
theorem dX7_untell_2 : decode cX7_untell 2 = .ok (.bipush 7, 2) := by decide +kernel
theorem dX7_untell_4 : decode cX7_untell 4 = .ok (.invokestatic 56, 3) := by decide +kernel
theorem dX7_untell_7 : decode cX7_untell 7 = .ok (.ifCond .ne 9, 3) := by decide +kernel
theorem dX7_untell_10 : decode cX7_untell 10 = .ok (.aload_n 0, 1) := by decide +kernel
theorem dX7_untell_11 : decode cX7_untell 11 = .ok (.iconst 1, 1) := by decide +kernel
theorem dX7_untell_12 : decode cX7_untell 12 = .ok (.invokevirtual 64, 3) := by decide +kernel
theorem dX7_untell_15 : decode cX7_untell 15 = .ok (.ireturn, 1) := by decide +kernel
theorem dX7_untell_16 : decode cX7_untell 16 = .ok (.aload_n 0, 1) := by decide +kernel
theorem dX7_untell_17 : decode cX7_untell 17 = .ok (.iload_n 1, 1) := by decide +kernel
theorem dX7_untell_18 : decode cX7_untell 18 = .ok (.invokevirtual 75, 3) := by decide +kernel
theorem dX7_untell_21 : decode cX7_untell 21 = .ok (.ifCond .eq 7, 3) := by decide +kernel
theorem dX7_untell_24 : decode cX7_untell 24 = .ok (.iconst 1, 1) := by decide +kernel
theorem dX7_untell_25 : decode cX7_untell 25 = .ok (.goto 4, 3) := by decide +kernel
theorem dX7_untell_28 : decode cX7_untell 28 = .ok (.iconst 0, 1) := by decide +kernel
theorem dX7_untell_29 : decode cX7_untell 29 = .ok (.istore_n 2, 1) := by decide +kernel
theorem dX7_untell_30 : decode cX7_untell 30 = .ok (.aload_n 0, 1) := by decide +kernel
theorem dX7_untell_31 : decode cX7_untell 31 = .ok (.getfield 7, 3) := by decide +kernel
theorem dX7_untell_34 : decode cX7_untell 34 = .ok (.sipush 2890, 3) := by decide +kernel
theorem dX7_untell_37 : decode cX7_untell 37 = .ok (.bipush 125, 2) := by decide +kernel
theorem dX7_untell_39 : decode cX7_untell 39 = .ok (.iload_n 1, 1) := by decide +kernel
theorem dX7_untell_40 : decode cX7_untell 40 = .ok (.imul, 1) := by decide +kernel
theorem dX7_untell_41 : decode cX7_untell 41 = .ok (.iadd, 1) := by decide +kernel
theorem dX7_untell_42 : decode cX7_untell 42 = .ok (.iconst 0, 1) := by decide +kernel
theorem dX7_untell_43 : decode cX7_untell 43 = .ok (.iastore, 1) := by decide +kernel
theorem dX7_untell_44 : decode cX7_untell 44 = .ok (.iload_n 2, 1) := by decide +kernel
theorem dX7_untell_45 : decode cX7_untell 45 = .ok (.ireturn, 1) := by decide +kernel
theorem dX7_joined_0 : decode cX7_joined 0 = .ok (.iload_n 0, 1) := by decide +kernel
theorem dX7_joined_1 : decode cX7_joined 1 = .ok (.tableswitch 217 37 62 #[153, 203, 217, 217, 217, 127, 119, 217, 123, 217, 131, 217, 217, 217, 217, 217, 217, 217, 217, 217, 217, 217, 217, 170, 192, 181], 119) := by decide +kernel
theorem dX7_joined_120 : decode cX7_joined 120 = .ok (.iload_n 1, 1) := by decide +kernel
theorem dX7_joined_121 : decode cX7_joined 121 = .ok (.iload_n 2, 1) := by decide +kernel
theorem dX7_joined_122 : decode cX7_joined 122 = .ok (.iadd, 1) := by decide +kernel
theorem dX7_joined_123 : decode cX7_joined 123 = .ok (.ireturn, 1) := by decide +kernel
theorem dX7_joined_124 : decode cX7_joined 124 = .ok (.iload_n 1, 1) := by decide +kernel
theorem dX7_joined_125 : decode cX7_joined 125 = .ok (.iload_n 2, 1) := by decide +kernel
theorem dX7_joined_126 : decode cX7_joined 126 = .ok (.isub, 1) := by decide +kernel
theorem dX7_joined_127 : decode cX7_joined 127 = .ok (.ireturn, 1) := by decide +kernel
theorem dX7_joined_128 : decode cX7_joined 128 = .ok (.iload_n 1, 1) := by decide +kernel
theorem dX7_joined_129 : decode cX7_joined 129 = .ok (.iload_n 2, 1) := by decide +kernel
theorem dX7_joined_130 : decode cX7_joined 130 = .ok (.imul, 1) := by decide +kernel
theorem dX7_joined_131 : decode cX7_joined 131 = .ok (.ireturn, 1) := by decide +kernel
theorem dX7_joined_132 : decode cX7_joined 132 = .ok (.iload_n 2, 1) := by decide +kernel
theorem dX7_joined_133 : decode cX7_joined 133 = .ok (.ifCond .ne 7, 3) := by decide +kernel
theorem dX7_joined_136 : decode cX7_joined 136 = .ok (.iconst 0, 1) := by decide +kernel
theorem dX7_joined_137 : decode cX7_joined 137 = .ok (.goto 16, 3) := by decide +kernel
theorem dX7_joined_140 : decode cX7_joined 140 = .ok (.iload_n 2, 1) := by decide +kernel
theorem dX7_joined_141 : decode cX7_joined 141 = .ok (.iconst (-1), 1) := by decide +kernel
theorem dX7_joined_142 : decode cX7_joined 142 = .ok (.if_icmp .ne 8, 3) := by decide +kernel
theorem dX7_joined_145 : decode cX7_joined 145 = .ok (.iload_n 1, 1) := by decide +kernel
theorem dX7_joined_146 : decode cX7_joined 146 = .ok (.ineg, 1) := by decide +kernel
theorem dX7_joined_147 : decode cX7_joined 147 = .ok (.goto 6, 3) := by decide +kernel
theorem dX7_joined_150 : decode cX7_joined 150 = .ok (.iload_n 1, 1) := by decide +kernel
theorem dX7_joined_151 : decode cX7_joined 151 = .ok (.iload_n 2, 1) := by decide +kernel
theorem dX7_joined_152 : decode cX7_joined 152 = .ok (.idiv, 1) := by decide +kernel
theorem dX7_joined_153 : decode cX7_joined 153 = .ok (.ireturn, 1) := by decide +kernel
theorem dX7_joined_154 : decode cX7_joined 154 = .ok (.iload_n 2, 1) := by decide +kernel
theorem dX7_joined_155 : decode cX7_joined 155 = .ok (.ifCond .eq 8, 3) := by decide +kernel
theorem dX7_joined_158 : decode cX7_joined 158 = .ok (.iload_n 2, 1) := by decide +kernel
theorem dX7_joined_159 : decode cX7_joined 159 = .ok (.iconst (-1), 1) := by decide +kernel
theorem dX7_joined_160 : decode cX7_joined 160 = .ok (.if_icmp .ne 7, 3) := by decide +kernel
theorem dX7_joined_163 : decode cX7_joined 163 = .ok (.iconst 0, 1) := by decide +kernel
theorem dX7_joined_164 : decode cX7_joined 164 = .ok (.goto 6, 3) := by decide +kernel
theorem dX7_joined_167 : decode cX7_joined 167 = .ok (.iload_n 1, 1) := by decide +kernel
theorem dX7_joined_168 : decode cX7_joined 168 = .ok (.iload_n 2, 1) := by decide +kernel
theorem dX7_joined_169 : decode cX7_joined 169 = .ok (.irem, 1) := by decide +kernel
theorem dX7_joined_170 : decode cX7_joined 170 = .ok (.ireturn, 1) := by decide +kernel
theorem dX7_joined_171 : decode cX7_joined 171 = .ok (.iload_n 1, 1) := by decide +kernel
theorem dX7_joined_172 : decode cX7_joined 172 = .ok (.iload_n 2, 1) := by decide +kernel
theorem dX7_joined_173 : decode cX7_joined 173 = .ok (.if_icmp .ge 7, 3) := by decide +kernel
theorem dX7_joined_176 : decode cX7_joined 176 = .ok (.iconst 1, 1) := by decide +kernel
theorem dX7_joined_177 : decode cX7_joined 177 = .ok (.goto 4, 3) := by decide +kernel
theorem dX7_joined_180 : decode cX7_joined 180 = .ok (.iconst 0, 1) := by decide +kernel
theorem dX7_joined_181 : decode cX7_joined 181 = .ok (.ireturn, 1) := by decide +kernel
theorem dX7_joined_182 : decode cX7_joined 182 = .ok (.iload_n 1, 1) := by decide +kernel
theorem dX7_joined_183 : decode cX7_joined 183 = .ok (.iload_n 2, 1) := by decide +kernel
theorem dX7_joined_184 : decode cX7_joined 184 = .ok (.if_icmp .le 7, 3) := by decide +kernel
theorem dX7_joined_187 : decode cX7_joined 187 = .ok (.iconst 1, 1) := by decide +kernel
theorem dX7_joined_188 : decode cX7_joined 188 = .ok (.goto 4, 3) := by decide +kernel
theorem dX7_joined_191 : decode cX7_joined 191 = .ok (.iconst 0, 1) := by decide +kernel
theorem dX7_joined_192 : decode cX7_joined 192 = .ok (.ireturn, 1) := by decide +kernel
theorem dX7_joined_193 : decode cX7_joined 193 = .ok (.iload_n 1, 1) := by decide +kernel
theorem dX7_joined_194 : decode cX7_joined 194 = .ok (.iload_n 2, 1) := by decide +kernel
theorem dX7_joined_195 : decode cX7_joined 195 = .ok (.if_icmp .ne 7, 3) := by decide +kernel
theorem dX7_joined_198 : decode cX7_joined 198 = .ok (.iconst 1, 1) := by decide +kernel
theorem dX7_joined_199 : decode cX7_joined 199 = .ok (.goto 4, 3) := by decide +kernel
theorem dX7_joined_202 : decode cX7_joined 202 = .ok (.iconst 0, 1) := by decide +kernel
theorem dX7_joined_203 : decode cX7_joined 203 = .ok (.ireturn, 1) := by decide +kernel
theorem dX7_joined_204 : decode cX7_joined 204 = .ok (.iload_n 1, 1) := by decide +kernel
theorem dX7_joined_205 : decode cX7_joined 205 = .ok (.ifCond .eq 11, 3) := by decide +kernel
theorem dX7_joined_208 : decode cX7_joined 208 = .ok (.iload_n 2, 1) := by decide +kernel
theorem dX7_joined_209 : decode cX7_joined 209 = .ok (.ifCond .eq 7, 3) := by decide +kernel
theorem dX7_joined_212 : decode cX7_joined 212 = .ok (.iconst 1, 1) := by decide +kernel
theorem dX7_joined_213 : decode cX7_joined 213 = .ok (.goto 4, 3) := by decide +kernel
theorem dX7_joined_216 : decode cX7_joined 216 = .ok (.iconst 0, 1) := by decide +kernel
theorem dX7_joined_217 : decode cX7_joined 217 = .ok (.ireturn, 1) := by decide +kernel
theorem dX7_joined_218 : decode cX7_joined 218 = .ok (.iload_n 1, 1) := by decide +kernel
theorem dX7_joined_219 : decode cX7_joined 219 = .ok (.ifCond .ne 7, 3) := by decide +kernel
theorem dX7_joined_222 : decode cX7_joined 222 = .ok (.iload_n 2, 1) := by decide +kernel
theorem dX7_joined_223 : decode cX7_joined 223 = .ok (.ifCond .eq 7, 3) := by decide +kernel
theorem dX7_joined_226 : decode cX7_joined 226 = .ok (.iconst 1, 1) := by decide +kernel
theorem dX7_joined_227 : decode cX7_joined 227 = .ok (.goto 4, 3) := by decide +kernel
theorem dX7_joined_230 : decode cX7_joined 230 = .ok (.iconst 0, 1) := by decide +kernel
theorem dX7_joined_231 : decode cX7_joined 231 = .ok (.ireturn, 1) := by decide +kernel
set_option maxRecDepth 20000 in
theorem ggX7_worked_X7_joined : GoodIn wsX7_worked wsX7_joined := goodIn_r _ [7] rfl (by decide +kernel)
set_option maxRecDepth 20000 in
theorem gX7_worked_X7_joined : GoodIn wsX7_worked (va_wsS RX7 194 yX7_joined wsX7_joined) := goodIn_app (goodIn_r _ [4, 5, 6] rfl (by decide +kernel)) ggX7_worked_X7_joined
theorem dX7_worked_0 : decode cX7_worked 0 = .ok (.sipush 2890, 3) := by decide +kernel
theorem dX7_worked_3 : decode cX7_worked 3 = .ok (.bipush 125, 2) := by decide +kernel
theorem dX7_worked_5 : decode cX7_worked 5 = .ok (.iload_n 1, 1) := by decide +kernel
theorem dX7_worked_6 : decode cX7_worked 6 = .ok (.imul, 1) := by decide +kernel
theorem dX7_worked_7 : decode cX7_worked 7 = .ok (.iadd, 1) := by decide +kernel
theorem dX7_worked_8 : decode cX7_worked 8 = .ok (.istore_n 2, 1) := by decide +kernel
theorem dX7_worked_9 : decode cX7_worked 9 = .ok (.iconst 0, 1) := by decide +kernel
theorem dX7_worked_10 : decode cX7_worked 10 = .ok (.istore_n 3, 1) := by decide +kernel
theorem dX7_worked_11 : decode cX7_worked 11 = .ok (.iconst 0, 1) := by decide +kernel
theorem dX7_worked_12 : decode cX7_worked 12 = .ok (.istore 4, 2) := by decide +kernel
theorem dX7_worked_14 : decode cX7_worked 14 = .ok (.iload 4, 2) := by decide +kernel
theorem dX7_worked_16 : decode cX7_worked 16 = .ok (.aload_n 0, 1) := by decide +kernel
theorem dX7_worked_17 : decode cX7_worked 17 = .ok (.getfield 7, 3) := by decide +kernel
theorem dX7_worked_20 : decode cX7_worked 20 = .ok (.iload_n 2, 1) := by decide +kernel
theorem dX7_worked_21 : decode cX7_worked 21 = .ok (.iaload, 1) := by decide +kernel
theorem dX7_worked_22 : decode cX7_worked 22 = .ok (.if_icmp .ge 142, 3) := by decide +kernel
theorem dX7_worked_25 : decode cX7_worked 25 = .ok (.aload_n 0, 1) := by decide +kernel
theorem dX7_worked_26 : decode cX7_worked 26 = .ok (.getfield 7, 3) := by decide +kernel
theorem dX7_worked_29 : decode cX7_worked 29 = .ok (.iload_n 2, 1) := by decide +kernel
theorem dX7_worked_30 : decode cX7_worked 30 = .ok (.iconst 1, 1) := by decide +kernel
theorem dX7_worked_31 : decode cX7_worked 31 = .ok (.iadd, 1) := by decide +kernel
theorem dX7_worked_32 : decode cX7_worked 32 = .ok (.iconst 2, 1) := by decide +kernel
theorem dX7_worked_33 : decode cX7_worked 33 = .ok (.iload 4, 2) := by decide +kernel
theorem dX7_worked_35 : decode cX7_worked 35 = .ok (.imul, 1) := by decide +kernel
theorem dX7_worked_36 : decode cX7_worked 36 = .ok (.iadd, 1) := by decide +kernel
theorem dX7_worked_37 : decode cX7_worked 37 = .ok (.iaload, 1) := by decide +kernel
theorem dX7_worked_38 : decode cX7_worked 38 = .ok (.istore 5, 2) := by decide +kernel
theorem dX7_worked_40 : decode cX7_worked 40 = .ok (.aload_n 0, 1) := by decide +kernel
theorem dX7_worked_41 : decode cX7_worked 41 = .ok (.getfield 7, 3) := by decide +kernel
theorem dX7_worked_44 : decode cX7_worked 44 = .ok (.iload_n 2, 1) := by decide +kernel
theorem dX7_worked_45 : decode cX7_worked 45 = .ok (.iconst 2, 1) := by decide +kernel
theorem dX7_worked_46 : decode cX7_worked 46 = .ok (.iadd, 1) := by decide +kernel
theorem dX7_worked_47 : decode cX7_worked 47 = .ok (.iconst 2, 1) := by decide +kernel
theorem dX7_worked_48 : decode cX7_worked 48 = .ok (.iload 4, 2) := by decide +kernel
theorem dX7_worked_50 : decode cX7_worked 50 = .ok (.imul, 1) := by decide +kernel
theorem dX7_worked_51 : decode cX7_worked 51 = .ok (.iadd, 1) := by decide +kernel
theorem dX7_worked_52 : decode cX7_worked 52 = .ok (.iaload, 1) := by decide +kernel
theorem dX7_worked_53 : decode cX7_worked 53 = .ok (.istore 6, 2) := by decide +kernel
theorem dX7_worked_55 : decode cX7_worked 55 = .ok (.iload 5, 2) := by decide +kernel
theorem dX7_worked_57 : decode cX7_worked 57 = .ok (.ifCond .eq 9, 3) := by decide +kernel
theorem dX7_worked_60 : decode cX7_worked 60 = .ok (.iload 5, 2) := by decide +kernel
theorem dX7_worked_62 : decode cX7_worked 62 = .ok (.iconst 1, 1) := by decide +kernel
theorem dX7_worked_63 : decode cX7_worked 63 = .ok (.if_icmp .ne 32, 3) := by decide +kernel
theorem dX7_worked_66 : decode cX7_worked 66 = .ok (.aload_n 0, 1) := by decide +kernel
theorem dX7_worked_67 : decode cX7_worked 67 = .ok (.getfield 31, 3) := by decide +kernel
theorem dX7_worked_70 : decode cX7_worked 70 = .ok (.iload_n 3, 1) := by decide +kernel
theorem dX7_worked_71 : decode cX7_worked 71 = .ok (.iload 5, 2) := by decide +kernel
theorem dX7_worked_73 : decode cX7_worked 73 = .ok (.ifCond .ne 8, 3) := by decide +kernel
theorem dX7_worked_76 : decode cX7_worked 76 = .ok (.iload 6, 2) := by decide +kernel
theorem dX7_worked_78 : decode cX7_worked 78 = .ok (.goto 10, 3) := by decide +kernel
theorem dX7_worked_81 : decode cX7_worked 81 = .ok (.aload_n 0, 1) := by decide +kernel
theorem dX7_worked_82 : decode cX7_worked 82 = .ok (.getfield 28, 3) := by decide +kernel
theorem dX7_worked_85 : decode cX7_worked 85 = .ok (.iload 6, 2) := by decide +kernel
theorem dX7_worked_87 : decode cX7_worked 87 = .ok (.iaload, 1) := by decide +kernel
theorem dX7_worked_88 : decode cX7_worked 88 = .ok (.iastore, 1) := by decide +kernel
theorem dX7_worked_89 : decode cX7_worked 89 = .ok (.iinc 3 1, 3) := by decide +kernel
theorem dX7_worked_92 : decode cX7_worked 92 = .ok (.goto 66, 3) := by decide +kernel
theorem dX7_worked_95 : decode cX7_worked 95 = .ok (.iload 5, 2) := by decide +kernel
theorem dX7_worked_97 : decode cX7_worked 97 = .ok (.iconst 2, 1) := by decide +kernel
theorem dX7_worked_98 : decode cX7_worked 98 = .ok (.if_icmp .ne 30, 3) := by decide +kernel
theorem dX7_worked_101 : decode cX7_worked 101 = .ok (.aload_n 0, 1) := by decide +kernel
theorem dX7_worked_102 : decode cX7_worked 102 = .ok (.getfield 31, 3) := by decide +kernel
theorem dX7_worked_105 : decode cX7_worked 105 = .ok (.iload_n 3, 1) := by decide +kernel
theorem dX7_worked_106 : decode cX7_worked 106 = .ok (.iconst 1, 1) := by decide +kernel
theorem dX7_worked_107 : decode cX7_worked 107 = .ok (.isub, 1) := by decide +kernel
theorem dX7_worked_108 : decode cX7_worked 108 = .ok (.aload_n 0, 1) := by decide +kernel
theorem dX7_worked_109 : decode cX7_worked 109 = .ok (.getfield 31, 3) := by decide +kernel
theorem dX7_worked_112 : decode cX7_worked 112 = .ok (.iload_n 3, 1) := by decide +kernel
theorem dX7_worked_113 : decode cX7_worked 113 = .ok (.iconst 1, 1) := by decide +kernel
theorem dX7_worked_114 : decode cX7_worked 114 = .ok (.isub, 1) := by decide +kernel
theorem dX7_worked_115 : decode cX7_worked 115 = .ok (.iaload, 1) := by decide +kernel
theorem dX7_worked_116 : decode cX7_worked 116 = .ok (.ifCond .ne 7, 3) := by decide +kernel
theorem dX7_worked_119 : decode cX7_worked 119 = .ok (.iconst 1, 1) := by decide +kernel
theorem dX7_worked_120 : decode cX7_worked 120 = .ok (.goto 4, 3) := by decide +kernel
theorem dX7_worked_123 : decode cX7_worked 123 = .ok (.iconst 0, 1) := by decide +kernel
theorem dX7_worked_124 : decode cX7_worked 124 = .ok (.iastore, 1) := by decide +kernel
theorem dX7_worked_125 : decode cX7_worked 125 = .ok (.goto 33, 3) := by decide +kernel
theorem dX7_worked_128 : decode cX7_worked 128 = .ok (.iinc 3 (-1), 3) := by decide +kernel
theorem dX7_worked_131 : decode cX7_worked 131 = .ok (.aload_n 0, 1) := by decide +kernel
theorem dX7_worked_132 : decode cX7_worked 132 = .ok (.getfield 31, 3) := by decide +kernel
theorem dX7_worked_135 : decode cX7_worked 135 = .ok (.iload_n 3, 1) := by decide +kernel
theorem dX7_worked_136 : decode cX7_worked 136 = .ok (.iconst 1, 1) := by decide +kernel
theorem dX7_worked_137 : decode cX7_worked 137 = .ok (.isub, 1) := by decide +kernel
theorem dX7_worked_138 : decode cX7_worked 138 = .ok (.iload 6, 2) := by decide +kernel
theorem dX7_worked_140 : decode cX7_worked 140 = .ok (.aload_n 0, 1) := by decide +kernel
theorem dX7_worked_141 : decode cX7_worked 141 = .ok (.getfield 31, 3) := by decide +kernel
theorem dX7_worked_144 : decode cX7_worked 144 = .ok (.iload_n 3, 1) := by decide +kernel
theorem dX7_worked_145 : decode cX7_worked 145 = .ok (.iconst 1, 1) := by decide +kernel
theorem dX7_worked_146 : decode cX7_worked 146 = .ok (.isub, 1) := by decide +kernel
theorem dX7_worked_147 : decode cX7_worked 147 = .ok (.iaload, 1) := by decide +kernel
theorem dX7_worked_148 : decode cX7_worked 148 = .ok (.aload_n 0, 1) := by decide +kernel
theorem dX7_worked_149 : decode cX7_worked 149 = .ok (.getfield 31, 3) := by decide +kernel
theorem dX7_worked_152 : decode cX7_worked 152 = .ok (.iload_n 3, 1) := by decide +kernel
theorem dX7_worked_153 : decode cX7_worked 153 = .ok (.iaload, 1) := by decide +kernel
theorem dX7_worked_154 : decode cX7_worked 154 = .ok (.invokestatic 194, 3) := by decide +kernel
theorem dX7_worked_157 : decode cX7_worked 157 = .ok (.iastore, 1) := by decide +kernel
theorem dX7_worked_158 : decode cX7_worked 158 = .ok (.iinc 4 1, 3) := by decide +kernel
theorem dX7_worked_161 : decode cX7_worked 161 = .ok (.goto (-147), 3) := by decide +kernel
theorem dX7_worked_164 : decode cX7_worked 164 = .ok (.aload_n 0, 1) := by decide +kernel
theorem dX7_worked_165 : decode cX7_worked 165 = .ok (.getfield 31, 3) := by decide +kernel
theorem dX7_worked_168 : decode cX7_worked 168 = .ok (.iconst 0, 1) := by decide +kernel
theorem dX7_worked_169 : decode cX7_worked 169 = .ok (.iaload, 1) := by decide +kernel
theorem dX7_worked_170 : decode cX7_worked 170 = .ok (.ireturn, 1) := by decide +kernel
theorem dX7_draw_0 : decode cX7_draw 0 = .ok (.aload_n 0, 1) := by decide +kernel
theorem dX7_draw_1 : decode cX7_draw 1 = .ok (.getfield 7, 3) := by decide +kernel
theorem dX7_draw_4 : decode cX7_draw 4 = .ok (.bipush 6, 2) := by decide +kernel
theorem dX7_draw_6 : decode cX7_draw 6 = .ok (.aload_n 0, 1) := by decide +kernel
theorem dX7_draw_7 : decode cX7_draw 7 = .ok (.getfield 7, 3) := by decide +kernel
theorem dX7_draw_10 : decode cX7_draw 10 = .ok (.bipush 6, 2) := by decide +kernel
theorem dX7_draw_12 : decode cX7_draw 12 = .ok (.iaload, 1) := by decide +kernel
theorem dX7_draw_13 : decode cX7_draw 13 = .ok (.ldc 197, 2) := by decide +kernel
theorem dX7_draw_15 : decode cX7_draw 15 = .ok (.imul, 1) := by decide +kernel
theorem dX7_draw_16 : decode cX7_draw 16 = .ok (.sipush 12345, 3) := by decide +kernel
theorem dX7_draw_19 : decode cX7_draw 19 = .ok (.iadd, 1) := by decide +kernel
theorem dX7_draw_20 : decode cX7_draw 20 = .ok (.iastore, 1) := by decide +kernel
theorem dX7_draw_21 : decode cX7_draw 21 = .ok (.aload_n 0, 1) := by decide +kernel
theorem dX7_draw_22 : decode cX7_draw 22 = .ok (.getfield 7, 3) := by decide +kernel
theorem dX7_draw_25 : decode cX7_draw 25 = .ok (.bipush 6, 2) := by decide +kernel
theorem dX7_draw_27 : decode cX7_draw 27 = .ok (.iaload, 1) := by decide +kernel
theorem dX7_draw_28 : decode cX7_draw 28 = .ok (.bipush 8, 2) := by decide +kernel
theorem dX7_draw_30 : decode cX7_draw 30 = .ok (.iushr, 1) := by decide +kernel
theorem dX7_draw_31 : decode cX7_draw 31 = .ok (.ireturn, 1) := by decide +kernel
set_option maxRecDepth 20000 in
theorem ggX7_wordsOf_X7_page : GoodIn wsX7_wordsOf wsX7_page := goodIn_r _ [6, 1, 7, 8, 9, 5, 10, 19, 20, 21, 22, 23, 24, 25, 26, 27, 28, 29, 30, 31, 32, 33, 34, 35, 36, 37, 38, 39, 40, 41, 42] rfl (by decide +kernel)
set_option maxRecDepth 20000 in
theorem gX7_wordsOf_X7_page : GoodIn wsX7_wordsOf (wsV RX7 82 RX7 yX7_page wsX7_page) := goodIn_app (goodIn_r _ [2, 3, 4, 5] rfl (by decide +kernel)) ggX7_wordsOf_X7_page
set_option maxRecDepth 20000 in
theorem ggX7_wordsOf_X7_originAt : GoodIn wsX7_wordsOf wsX7_originAt := goodIn_r _ [14, 1, 19, 20, 21, 22, 23, 24, 25, 26, 27, 28, 29, 30, 31, 32, 33, 34, 35, 36, 37, 38, 39, 40, 41, 42] rfl (by decide +kernel)
set_option maxRecDepth 20000 in
theorem gX7_wordsOf_X7_originAt : GoodIn wsX7_wordsOf (wsV RX7 99 RX7 yX7_originAt wsX7_originAt) := goodIn_app (goodIn_r _ [11, 12, 13, 5] rfl (by decide +kernel)) ggX7_wordsOf_X7_originAt
set_option maxRecDepth 20000 in
theorem ggX7_wordsOf_X7_actIs1 : GoodIn wsX7_wordsOf wsX7_actIs1 := goodIn_r _ [18, 1, 19, 20, 21, 22, 23, 24, 25, 26, 27, 28, 29, 30, 31, 32, 33, 34, 35, 36, 37, 38, 39, 40, 41, 42] rfl (by decide +kernel)
set_option maxRecDepth 20000 in
theorem gX7_wordsOf_X7_actIs1 : GoodIn wsX7_wordsOf (wsV RX7 67 RX7 yX7_actIs1 wsX7_actIs1) := goodIn_app (goodIn_r _ [15, 16, 17, 5] rfl (by decide +kernel)) ggX7_wordsOf_X7_actIs1
theorem dX7_wordsOf_0 : decode cX7_wordsOf 0 = .ok (.iconst 0, 1) := by decide +kernel
theorem dX7_wordsOf_1 : decode cX7_wordsOf 1 = .ok (.istore_n 2, 1) := by decide +kernel
theorem dX7_wordsOf_2 : decode cX7_wordsOf 2 = .ok (.iconst 0, 1) := by decide +kernel
theorem dX7_wordsOf_3 : decode cX7_wordsOf 3 = .ok (.istore_n 3, 1) := by decide +kernel
theorem dX7_wordsOf_4 : decode cX7_wordsOf 4 = .ok (.iload_n 3, 1) := by decide +kernel
theorem dX7_wordsOf_5 : decode cX7_wordsOf 5 = .ok (.aload_n 0, 1) := by decide +kernel
theorem dX7_wordsOf_6 : decode cX7_wordsOf 6 = .ok (.invokevirtual 82, 3) := by decide +kernel
theorem dX7_wordsOf_9 : decode cX7_wordsOf 9 = .ok (.if_icmp .ge 37, 3) := by decide +kernel
theorem dX7_wordsOf_12 : decode cX7_wordsOf 12 = .ok (.iload_n 2, 1) := by decide +kernel
theorem dX7_wordsOf_13 : decode cX7_wordsOf 13 = .ok (.aload_n 0, 1) := by decide +kernel
theorem dX7_wordsOf_14 : decode cX7_wordsOf 14 = .ok (.aload_n 0, 1) := by decide +kernel
theorem dX7_wordsOf_15 : decode cX7_wordsOf 15 = .ok (.aload_n 0, 1) := by decide +kernel
theorem dX7_wordsOf_16 : decode cX7_wordsOf 16 = .ok (.getfield 7, 3) := by decide +kernel
theorem dX7_wordsOf_19 : decode cX7_wordsOf 19 = .ok (.iconst 1, 1) := by decide +kernel
theorem dX7_wordsOf_20 : decode cX7_wordsOf 20 = .ok (.iaload, 1) := by decide +kernel
theorem dX7_wordsOf_21 : decode cX7_wordsOf 21 = .ok (.iload_n 3, 1) := by decide +kernel
theorem dX7_wordsOf_22 : decode cX7_wordsOf 22 = .ok (.invokevirtual 99, 3) := by decide +kernel
theorem dX7_wordsOf_25 : decode cX7_wordsOf 25 = .ok (.iconst 1, 1) := by decide +kernel
theorem dX7_wordsOf_26 : decode cX7_wordsOf 26 = .ok (.invokevirtual 67, 3) := by decide +kernel
theorem dX7_wordsOf_29 : decode cX7_wordsOf 29 = .ok (.iload_n 1, 1) := by decide +kernel
theorem dX7_wordsOf_30 : decode cX7_wordsOf 30 = .ok (.if_icmp .ne 7, 3) := by decide +kernel
theorem dX7_wordsOf_33 : decode cX7_wordsOf 33 = .ok (.iconst 1, 1) := by decide +kernel
theorem dX7_wordsOf_34 : decode cX7_wordsOf 34 = .ok (.goto 4, 3) := by decide +kernel
theorem dX7_wordsOf_37 : decode cX7_wordsOf 37 = .ok (.iconst 0, 1) := by decide +kernel
theorem dX7_wordsOf_38 : decode cX7_wordsOf 38 = .ok (.iadd, 1) := by decide +kernel
theorem dX7_wordsOf_39 : decode cX7_wordsOf 39 = .ok (.istore_n 2, 1) := by decide +kernel
theorem dX7_wordsOf_40 : decode cX7_wordsOf 40 = .ok (.iinc 3 1, 3) := by decide +kernel
theorem dX7_wordsOf_43 : decode cX7_wordsOf 43 = .ok (.goto (-39), 3) := by decide +kernel
theorem dX7_wordsOf_46 : decode cX7_wordsOf 46 = .ok (.iload_n 2, 1) := by decide +kernel
theorem dX7_wordsOf_47 : decode cX7_wordsOf 47 = .ok (.ireturn, 1) := by decide +kernel
set_option maxRecDepth 20000 in
theorem ggX7_latest_X7_actIs1 : GoodIn wsX7_latest wsX7_actIs1 := goodIn_r _ [6, 1, 7, 8, 9, 10, 11, 12, 13, 14, 15, 16, 17, 18, 19, 20, 21, 22, 23, 24, 25, 26, 27, 28, 29, 30] rfl (by decide +kernel)
set_option maxRecDepth 20000 in
theorem gX7_latest_X7_actIs1 : GoodIn wsX7_latest (wsV RX7 67 RX7 yX7_actIs1 wsX7_actIs1) := goodIn_app (goodIn_r _ [2, 3, 4, 5] rfl (by decide +kernel)) ggX7_latest_X7_actIs1
theorem dX7_latest_0 : decode cX7_latest 0 = .ok (.iconst (-1), 1) := by decide +kernel
theorem dX7_latest_1 : decode cX7_latest 1 = .ok (.istore_n 2, 1) := by decide +kernel
theorem dX7_latest_2 : decode cX7_latest 2 = .ok (.iconst 0, 1) := by decide +kernel
theorem dX7_latest_3 : decode cX7_latest 3 = .ok (.istore_n 3, 1) := by decide +kernel
theorem dX7_latest_4 : decode cX7_latest 4 = .ok (.iload_n 3, 1) := by decide +kernel
theorem dX7_latest_5 : decode cX7_latest 5 = .ok (.aload_n 0, 1) := by decide +kernel
theorem dX7_latest_6 : decode cX7_latest 6 = .ok (.getfield 7, 3) := by decide +kernel
theorem dX7_latest_9 : decode cX7_latest 9 = .ok (.iconst 1, 1) := by decide +kernel
theorem dX7_latest_10 : decode cX7_latest 10 = .ok (.iaload, 1) := by decide +kernel
theorem dX7_latest_11 : decode cX7_latest 11 = .ok (.if_icmp .ge 36, 3) := by decide +kernel
theorem dX7_latest_14 : decode cX7_latest 14 = .ok (.aload_n 0, 1) := by decide +kernel
theorem dX7_latest_15 : decode cX7_latest 15 = .ok (.iload_n 3, 1) := by decide +kernel
theorem dX7_latest_16 : decode cX7_latest 16 = .ok (.iconst 1, 1) := by decide +kernel
theorem dX7_latest_17 : decode cX7_latest 17 = .ok (.invokevirtual 67, 3) := by decide +kernel
theorem dX7_latest_20 : decode cX7_latest 20 = .ok (.iload_n 1, 1) := by decide +kernel
theorem dX7_latest_21 : decode cX7_latest 21 = .ok (.if_icmp .ne 18, 3) := by decide +kernel
theorem dX7_latest_24 : decode cX7_latest 24 = .ok (.aload_n 0, 1) := by decide +kernel
theorem dX7_latest_25 : decode cX7_latest 25 = .ok (.iload_n 3, 1) := by decide +kernel
theorem dX7_latest_26 : decode cX7_latest 26 = .ok (.iconst 0, 1) := by decide +kernel
theorem dX7_latest_27 : decode cX7_latest 27 = .ok (.invokevirtual 67, 3) := by decide +kernel
theorem dX7_latest_30 : decode cX7_latest 30 = .ok (.bipush 6, 2) := by decide +kernel
theorem dX7_latest_32 : decode cX7_latest 32 = .ok (.if_icmp .ge 7, 3) := by decide +kernel
theorem dX7_latest_35 : decode cX7_latest 35 = .ok (.iload_n 3, 1) := by decide +kernel
theorem dX7_latest_36 : decode cX7_latest 36 = .ok (.goto 4, 3) := by decide +kernel
theorem dX7_latest_39 : decode cX7_latest 39 = .ok (.iload_n 2, 1) := by decide +kernel
theorem dX7_latest_40 : decode cX7_latest 40 = .ok (.istore_n 2, 1) := by decide +kernel
theorem dX7_latest_41 : decode cX7_latest 41 = .ok (.iinc 3 1, 3) := by decide +kernel
theorem dX7_latest_44 : decode cX7_latest 44 = .ok (.goto (-40), 3) := by decide +kernel
theorem dX7_latest_47 : decode cX7_latest 47 = .ok (.iload_n 2, 1) := by decide +kernel
theorem dX7_latest_48 : decode cX7_latest 48 = .ok (.ireturn, 1) := by decide +kernel
set_option maxRecDepth 20000 in
theorem ggX7_lives_X7_draw : GoodIn wsX7_lives wsX7_draw := goodIn_r _ [7, 2, 8, 111, 112, 113, 114, 115, 116, 117, 118, 119, 120, 121, 122, 123, 124, 125, 126, 127, 128, 129, 130, 131, 132, 133, 134] rfl (by decide +kernel)
set_option maxRecDepth 20000 in
theorem gX7_lives_X7_draw : GoodIn wsX7_lives (wsV RX7 198 RX7 yX7_draw wsX7_draw) := goodIn_app (goodIn_r _ [3, 4, 5, 6] rfl (by decide +kernel)) ggX7_lives_X7_draw
set_option maxRecDepth 20000 in
theorem ggX7_lives_X7_page : GoodIn wsX7_lives wsX7_page := goodIn_r _ [12, 2, 13, 14, 15, 6, 16, 111, 112, 113, 114, 115, 116, 117, 118, 119, 120, 121, 122, 123, 124, 125, 126, 127, 128, 129, 130, 131, 132, 133, 134] rfl (by decide +kernel)
set_option maxRecDepth 20000 in
theorem gX7_lives_X7_page : GoodIn wsX7_lives (wsV RX7 82 RX7 yX7_page wsX7_page) := goodIn_app (goodIn_r _ [9, 10, 11, 6] rfl (by decide +kernel)) ggX7_lives_X7_page
set_option maxRecDepth 20000 in
theorem ggX7_lives_X7_backsOf : GoodIn wsX7_lives wsX7_backsOf := goodIn_r _ [20, 2, 21, 22, 23, 6, 24, 25, 26, 27, 111, 112, 113, 114, 115, 116, 117, 118, 119, 120, 121, 122, 123, 124, 125, 126, 127, 128, 129, 130, 131, 132, 133, 134] rfl (by decide +kernel)
set_option maxRecDepth 20000 in
theorem gX7_lives_X7_backsOf : GoodIn wsX7_lives (wsV RX7 79 RX7 yX7_backsOf wsX7_backsOf) := goodIn_app (goodIn_r _ [17, 18, 19, 6] rfl (by decide +kernel)) ggX7_lives_X7_backsOf
set_option maxRecDepth 20000 in
theorem ggX7_lives_X7_wordsOf : GoodIn wsX7_lives wsX7_wordsOf := goodIn_r _ [31, 2, 9, 10, 11, 6, 12, 13, 14, 15, 16, 32, 33, 34, 35, 21, 22, 23, 24, 111, 112, 113, 114, 115, 116, 117, 118, 119, 120, 121, 122, 123, 124, 125, 126, 127, 128, 129, 130, 131, 132, 133, 134] rfl (by decide +kernel)
set_option maxRecDepth 20000 in
theorem gX7_lives_X7_wordsOf : GoodIn wsX7_lives (wsV RX7 201 RX7 yX7_wordsOf wsX7_wordsOf) := goodIn_app (goodIn_r _ [28, 29, 30, 6] rfl (by decide +kernel)) ggX7_lives_X7_wordsOf
set_option maxRecDepth 20000 in
theorem ggX7_lives_X7_worked : GoodIn wsX7_lives wsX7_worked := goodIn_r _ [39, 2, 40, 1, 41, 42, 6, 43, 111, 112, 113, 114, 115, 116, 117, 118, 119, 120, 121, 122, 123, 124, 125, 126, 127, 128, 129, 130, 131, 132, 133, 134] rfl (by decide +kernel)
set_option maxRecDepth 20000 in
theorem gX7_lives_X7_worked : GoodIn wsX7_lives (wsV RX7 89 RX7 yX7_worked wsX7_worked) := goodIn_app (goodIn_r _ [36, 37, 38, 6] rfl (by decide +kernel)) ggX7_lives_X7_worked
set_option maxRecDepth 20000 in
theorem ggX7_lives_X7_in : GoodIn wsX7_lives wsX7_in := goodIn_r _ [46] rfl (by decide +kernel)
set_option maxRecDepth 20000 in
theorem gX7_lives_X7_in : GoodIn wsX7_lives (va_wsS RX7 56 yX7_in wsX7_in) := goodIn_app (goodIn_r _ [44, 45, 6] rfl (by decide +kernel)) ggX7_lives_X7_in
set_option maxRecDepth 20000 in
theorem ggX7_lives_X7_isFull : GoodIn wsX7_lives wsX7_isFull := goodIn_r _ [50, 2, 111, 112, 113, 114, 115, 116, 117, 118, 119, 120, 121, 122, 123, 124, 125, 126, 127, 128, 129, 130, 131, 132, 133, 134] rfl (by decide +kernel)
set_option maxRecDepth 20000 in
theorem gX7_lives_X7_isFull : GoodIn wsX7_lives (wsV RX7 126 RX7 yX7_isFull wsX7_isFull) := goodIn_app (goodIn_r _ [47, 48, 49, 6] rfl (by decide +kernel)) ggX7_lives_X7_isFull
set_option maxRecDepth 20000 in
theorem ggX7_lives_X7_mayAct : GoodIn wsX7_lives wsX7_mayAct := goodIn_r _ [54, 2, 1, 55, 56, 57, 6, 58, 17, 18, 19, 20, 21, 22, 23, 24, 25, 26, 27, 9, 10, 11, 12, 13, 14, 15, 16, 59, 60, 61, 62, 36, 37, 38, 39, 40, 41, 42, 43, 111, 112, 113, 114, 115, 116, 117, 118, 119, 120, 121, 122, 123, 124, 125, 126, 127, 128, 129, 130, 131, 132, 133, 134] rfl (by decide +kernel)
set_option maxRecDepth 20000 in
theorem gX7_lives_X7_mayAct : GoodIn wsX7_lives (wsV RX7 105 RX7 yX7_mayAct wsX7_mayAct) := goodIn_app (goodIn_r _ [51, 52, 53, 6] rfl (by decide +kernel)) ggX7_lives_X7_mayAct
set_option maxRecDepth 20000 in
theorem ggX7_lives_X7_writes : GoodIn wsX7_lives wsX7_writes := goodIn_r _ [66, 2, 67, 68, 69, 70, 6, 71, 72, 73, 74, 75, 76, 77, 32, 33, 34, 35, 78, 79, 80, 81, 9, 10, 11, 12, 13, 14, 15, 16, 82, 83, 84, 85, 86, 87, 88, 89, 90, 1, 21, 22, 23, 24, 55, 56, 57, 58, 91, 92, 93, 94, 95, 96, 97, 98, 36, 37, 38, 39, 40, 41, 42, 43, 51, 52, 53, 54, 17, 18, 19, 20, 25, 26, 27, 59, 60, 61, 62, 111, 112, 113, 114, 115, 116, 117, 118, 119, 120, 121, 122, 123, 124, 125, 126, 127, 128, 129, 130, 131, 132, 133, 134] rfl (by decide +kernel)
set_option maxRecDepth 20000 in
theorem gX7_lives_X7_writes : GoodIn wsX7_lives (wsV RX7 130 RX7 yX7_writes wsX7_writes) := goodIn_app (goodIn_r _ [63, 64, 65, 6] rfl (by decide +kernel)) ggX7_lives_X7_writes
set_option maxRecDepth 20000 in
theorem ggX7_lives_X7_cuts : GoodIn wsX7_lives wsX7_cuts := goodIn_r _ [102, 2, 67, 74, 75, 76, 6, 77, 68, 69, 70, 71, 72, 73, 32, 33, 34, 35, 9, 10, 11, 12, 13, 14, 15, 16, 82, 83, 84, 85, 86, 87, 88, 89, 90, 1, 21, 22, 23, 24, 55, 56, 57, 58, 91, 92, 93, 94, 95, 96, 97, 98, 36, 37, 38, 39, 40, 41, 42, 43, 51, 52, 53, 54, 17, 18, 19, 20, 25, 26, 27, 59, 60, 61, 62, 111, 112, 113, 114, 115, 116, 117, 118, 119, 120, 121, 122, 123, 124, 125, 126, 127, 128, 129, 130, 131, 132, 133, 134] rfl (by decide +kernel)
set_option maxRecDepth 20000 in
theorem gX7_lives_X7_cuts : GoodIn wsX7_lives (wsV RX7 134 RX7 yX7_cuts wsX7_cuts) := goodIn_app (goodIn_r _ [99, 100, 101, 6] rfl (by decide +kernel)) ggX7_lives_X7_cuts
set_option maxRecDepth 20000 in
theorem ggX7_lives_X7_latest : GoodIn wsX7_lives wsX7_latest := goodIn_r _ [106, 2, 21, 22, 23, 6, 24, 111, 112, 113, 114, 115, 116, 117, 118, 119, 120, 121, 122, 123, 124, 125, 126, 127, 128, 129, 130, 131, 132, 133, 134] rfl (by decide +kernel)
set_option maxRecDepth 20000 in
theorem gX7_lives_X7_latest : GoodIn wsX7_lives (wsV RX7 204 RX7 yX7_latest wsX7_latest) := goodIn_app (goodIn_r _ [103, 104, 105, 6] rfl (by decide +kernel)) ggX7_lives_X7_latest
set_option maxRecDepth 20000 in
theorem ggX7_lives_X7_goesBack : GoodIn wsX7_lives wsX7_goesBack := goodIn_r _ [110, 67, 13, 14, 15, 6, 16, 2, 68, 69, 70, 71, 72, 73, 74, 75, 76, 77, 32, 33, 34, 35, 82, 83, 84, 85, 86, 87, 88, 89, 90, 1, 21, 22, 23, 24, 55, 56, 57, 58, 91, 92, 93, 94, 95, 96, 97, 98, 36, 37, 38, 39, 40, 41, 42, 43, 51, 52, 53, 54, 17, 18, 19, 20, 25, 26, 27, 9, 10, 11, 12, 59, 60, 61, 62, 111, 112, 113, 114, 115, 116, 117, 118, 119, 120, 121, 122, 123, 124, 125, 126, 127, 128, 129, 130, 131, 132, 133, 134] rfl (by decide +kernel)
set_option maxRecDepth 20000 in
theorem gX7_lives_X7_goesBack : GoodIn wsX7_lives (wsV RX7 140 RX7 yX7_goesBack wsX7_goesBack) := goodIn_app (goodIn_r _ [107, 108, 109, 6] rfl (by decide +kernel)) ggX7_lives_X7_goesBack
theorem dX7_lives_0 : decode cX7_lives 0 = .ok (.aload_n 0, 1) := by decide +kernel
theorem dX7_lives_1 : decode cX7_lives 1 = .ok (.invokevirtual 198, 3) := by decide +kernel
theorem dX7_lives_4 : decode cX7_lives 4 = .ok (.bipush 100, 2) := by decide +kernel
theorem dX7_lives_6 : decode cX7_lives 6 = .ok (.irem, 1) := by decide +kernel
theorem dX7_lives_7 : decode cX7_lives 7 = .ok (.istore_n 2, 1) := by decide +kernel
theorem dX7_lives_8 : decode cX7_lives 8 = .ok (.aload_n 0, 1) := by decide +kernel
theorem dX7_lives_9 : decode cX7_lives 9 = .ok (.getfield 28, 3) := by decide +kernel
theorem dX7_lives_12 : decode cX7_lives 12 = .ok (.bipush 108, 2) := by decide +kernel
theorem dX7_lives_14 : decode cX7_lives 14 = .ok (.aload_n 0, 1) := by decide +kernel
theorem dX7_lives_15 : decode cX7_lives 15 = .ok (.invokevirtual 82, 3) := by decide +kernel
theorem dX7_lives_18 : decode cX7_lives 18 = .ok (.iastore, 1) := by decide +kernel
theorem dX7_lives_19 : decode cX7_lives 19 = .ok (.aload_n 0, 1) := by decide +kernel
theorem dX7_lives_20 : decode cX7_lives 20 = .ok (.getfield 28, 3) := by decide +kernel
theorem dX7_lives_23 : decode cX7_lives 23 = .ok (.bipush 109, 2) := by decide +kernel
theorem dX7_lives_25 : decode cX7_lives 25 = .ok (.aload_n 0, 1) := by decide +kernel
theorem dX7_lives_26 : decode cX7_lives 26 = .ok (.getfield 7, 3) := by decide +kernel
theorem dX7_lives_29 : decode cX7_lives 29 = .ok (.iconst 0, 1) := by decide +kernel
theorem dX7_lives_30 : decode cX7_lives 30 = .ok (.iaload, 1) := by decide +kernel
theorem dX7_lives_31 : decode cX7_lives 31 = .ok (.sipush 1440, 3) := by decide +kernel
theorem dX7_lives_34 : decode cX7_lives 34 = .ok (.irem, 1) := by decide +kernel
theorem dX7_lives_35 : decode cX7_lives 35 = .ok (.iastore, 1) := by decide +kernel
theorem dX7_lives_36 : decode cX7_lives 36 = .ok (.aload_n 0, 1) := by decide +kernel
theorem dX7_lives_37 : decode cX7_lives 37 = .ok (.getfield 28, 3) := by decide +kernel
theorem dX7_lives_40 : decode cX7_lives 40 = .ok (.bipush 98, 2) := by decide +kernel
theorem dX7_lives_42 : decode cX7_lives 42 = .ok (.aload_n 0, 1) := by decide +kernel
theorem dX7_lives_43 : decode cX7_lives 43 = .ok (.iload_n 1, 1) := by decide +kernel
theorem dX7_lives_44 : decode cX7_lives 44 = .ok (.invokevirtual 79, 3) := by decide +kernel
theorem dX7_lives_47 : decode cX7_lives 47 = .ok (.iastore, 1) := by decide +kernel
theorem dX7_lives_48 : decode cX7_lives 48 = .ok (.aload_n 0, 1) := by decide +kernel
theorem dX7_lives_49 : decode cX7_lives 49 = .ok (.getfield 28, 3) := by decide +kernel
theorem dX7_lives_52 : decode cX7_lives 52 = .ok (.bipush 111, 2) := by decide +kernel
theorem dX7_lives_54 : decode cX7_lives 54 = .ok (.aload_n 0, 1) := by decide +kernel
theorem dX7_lives_55 : decode cX7_lives 55 = .ok (.iload_n 1, 1) := by decide +kernel
theorem dX7_lives_56 : decode cX7_lives 56 = .ok (.invokevirtual 201, 3) := by decide +kernel
theorem dX7_lives_59 : decode cX7_lives 59 = .ok (.iastore, 1) := by decide +kernel
theorem dX7_lives_60 : decode cX7_lives 60 = .ok (.aload_n 0, 1) := by decide +kernel
theorem dX7_lives_61 : decode cX7_lives 61 = .ok (.getfield 28, 3) := by decide +kernel
theorem dX7_lives_64 : decode cX7_lives 64 = .ok (.bipush 114, 2) := by decide +kernel
theorem dX7_lives_66 : decode cX7_lives 66 = .ok (.iload_n 2, 1) := by decide +kernel
theorem dX7_lives_67 : decode cX7_lives 67 = .ok (.iastore, 1) := by decide +kernel
theorem dX7_lives_68 : decode cX7_lives 68 = .ok (.aload_n 0, 1) := by decide +kernel
theorem dX7_lives_69 : decode cX7_lives 69 = .ok (.iconst 2, 1) := by decide +kernel
theorem dX7_lives_70 : decode cX7_lives 70 = .ok (.iload_n 1, 1) := by decide +kernel
theorem dX7_lives_71 : decode cX7_lives 71 = .ok (.iadd, 1) := by decide +kernel
theorem dX7_lives_72 : decode cX7_lives 72 = .ok (.invokevirtual 89, 3) := by decide +kernel
theorem dX7_lives_75 : decode cX7_lives 75 = .ok (.istore_n 3, 1) := by decide +kernel
theorem dX7_lives_76 : decode cX7_lives 76 = .ok (.iload_n 3, 1) := by decide +kernel
theorem dX7_lives_77 : decode cX7_lives 77 = .ok (.iconst 1, 1) := by decide +kernel
theorem dX7_lives_78 : decode cX7_lives 78 = .ok (.iconst 4, 1) := by decide +kernel
theorem dX7_lives_79 : decode cX7_lives 79 = .ok (.invokestatic 56, 3) := by decide +kernel
theorem dX7_lives_82 : decode cX7_lives 82 = .ok (.ifCond .eq 18, 3) := by decide +kernel
theorem dX7_lives_85 : decode cX7_lives 85 = .ok (.aload_n 0, 1) := by decide +kernel
theorem dX7_lives_86 : decode cX7_lives 86 = .ok (.invokevirtual 126, 3) := by decide +kernel
theorem dX7_lives_89 : decode cX7_lives 89 = .ok (.ifCond .ne 11, 3) := by decide +kernel
theorem dX7_lives_92 : decode cX7_lives 92 = .ok (.aload_n 0, 1) := by decide +kernel
theorem dX7_lives_93 : decode cX7_lives 93 = .ok (.iload_n 1, 1) := by decide +kernel
theorem dX7_lives_94 : decode cX7_lives 94 = .ok (.invokevirtual 105, 3) := by decide +kernel
theorem dX7_lives_97 : decode cX7_lives 97 = .ok (.ifCond .ne 4, 3) := by decide +kernel
theorem dX7_lives_100 : decode cX7_lives 100 = .ok (.return_, 1) := by decide +kernel
theorem dX7_lives_101 : decode cX7_lives 101 = .ok (.iconst 0, 1) := by decide +kernel
theorem dX7_lives_102 : decode cX7_lives 102 = .ok (.istore 4, 2) := by decide +kernel
theorem dX7_lives_104 : decode cX7_lives 104 = .ok (.iload_n 3, 1) := by decide +kernel
theorem dX7_lives_105 : decode cX7_lives 105 = .ok (.iconst 1, 1) := by decide +kernel
theorem dX7_lives_106 : decode cX7_lives 106 = .ok (.if_icmp .ne 30, 3) := by decide +kernel
theorem dX7_lives_109 : decode cX7_lives 109 = .ok (.aload_n 0, 1) := by decide +kernel
theorem dX7_lives_110 : decode cX7_lives 110 = .ok (.invokevirtual 82, 3) := by decide +kernel
theorem dX7_lives_113 : decode cX7_lives 113 = .ok (.bipush 20, 2) := by decide +kernel
theorem dX7_lives_115 : decode cX7_lives 115 = .ok (.if_icmp .ge 21, 3) := by decide +kernel
theorem dX7_lives_118 : decode cX7_lives 118 = .ok (.aload_n 0, 1) := by decide +kernel
theorem dX7_lives_119 : decode cX7_lives 119 = .ok (.iconst 1, 1) := by decide +kernel
theorem dX7_lives_120 : decode cX7_lives 120 = .ok (.iload_n 1, 1) := by decide +kernel
theorem dX7_lives_121 : decode cX7_lives 121 = .ok (.aload_n 0, 1) := by decide +kernel
theorem dX7_lives_122 : decode cX7_lives 122 = .ok (.invokevirtual 82, 3) := by decide +kernel
theorem dX7_lives_125 : decode cX7_lives 125 = .ok (.iload_n 1, 1) := by decide +kernel
theorem dX7_lives_126 : decode cX7_lives 126 = .ok (.iconst 1, 1) := by decide +kernel
theorem dX7_lives_127 : decode cX7_lives 127 = .ok (.iadd, 1) := by decide +kernel
theorem dX7_lives_128 : decode cX7_lives 128 = .ok (.invokevirtual 130, 3) := by decide +kernel
theorem dX7_lives_131 : decode cX7_lives 131 = .ok (.istore 4, 2) := by decide +kernel
theorem dX7_lives_133 : decode cX7_lives 133 = .ok (.goto 74, 3) := by decide +kernel
theorem dX7_lives_136 : decode cX7_lives 136 = .ok (.iload_n 3, 1) := by decide +kernel
theorem dX7_lives_137 : decode cX7_lives 137 = .ok (.iconst 2, 1) := by decide +kernel
theorem dX7_lives_138 : decode cX7_lives 138 = .ok (.if_icmp .ne 26, 3) := by decide +kernel
theorem dX7_lives_141 : decode cX7_lives 141 = .ok (.aload_n 0, 1) := by decide +kernel
theorem dX7_lives_142 : decode cX7_lives 142 = .ok (.invokevirtual 82, 3) := by decide +kernel
theorem dX7_lives_145 : decode cX7_lives 145 = .ok (.ifCond .le 19, 3) := by decide +kernel
theorem dX7_lives_148 : decode cX7_lives 148 = .ok (.aload_n 0, 1) := by decide +kernel
theorem dX7_lives_149 : decode cX7_lives 149 = .ok (.iload_n 1, 1) := by decide +kernel
theorem dX7_lives_150 : decode cX7_lives 150 = .ok (.aload_n 0, 1) := by decide +kernel
theorem dX7_lives_151 : decode cX7_lives 151 = .ok (.invokevirtual 82, 3) := by decide +kernel
theorem dX7_lives_154 : decode cX7_lives 154 = .ok (.iconst 1, 1) := by decide +kernel
theorem dX7_lives_155 : decode cX7_lives 155 = .ok (.isub, 1) := by decide +kernel
theorem dX7_lives_156 : decode cX7_lives 156 = .ok (.invokevirtual 134, 3) := by decide +kernel
theorem dX7_lives_159 : decode cX7_lives 159 = .ok (.istore 4, 2) := by decide +kernel
theorem dX7_lives_161 : decode cX7_lives 161 = .ok (.goto 46, 3) := by decide +kernel
theorem dX7_lives_164 : decode cX7_lives 164 = .ok (.iload_n 3, 1) := by decide +kernel
theorem dX7_lives_165 : decode cX7_lives 165 = .ok (.iconst 3, 1) := by decide +kernel
theorem dX7_lives_166 : decode cX7_lives 166 = .ok (.if_icmp .ne 28, 3) := by decide +kernel
theorem dX7_lives_169 : decode cX7_lives 169 = .ok (.aload_n 0, 1) := by decide +kernel
theorem dX7_lives_170 : decode cX7_lives 170 = .ok (.iload_n 1, 1) := by decide +kernel
theorem dX7_lives_171 : decode cX7_lives 171 = .ok (.invokevirtual 204, 3) := by decide +kernel
theorem dX7_lives_174 : decode cX7_lives 174 = .ok (.ifCond .lt 20, 3) := by decide +kernel
theorem dX7_lives_177 : decode cX7_lives 177 = .ok (.aload_n 0, 1) := by decide +kernel
theorem dX7_lives_178 : decode cX7_lives 178 = .ok (.iload_n 1, 1) := by decide +kernel
theorem dX7_lives_179 : decode cX7_lives 179 = .ok (.aload_n 0, 1) := by decide +kernel
theorem dX7_lives_180 : decode cX7_lives 180 = .ok (.iload_n 1, 1) := by decide +kernel
theorem dX7_lives_181 : decode cX7_lives 181 = .ok (.invokevirtual 204, 3) := by decide +kernel
theorem dX7_lives_184 : decode cX7_lives 184 = .ok (.iconst 1, 1) := by decide +kernel
theorem dX7_lives_185 : decode cX7_lives 185 = .ok (.iadd, 1) := by decide +kernel
theorem dX7_lives_186 : decode cX7_lives 186 = .ok (.invokevirtual 140, 3) := by decide +kernel
theorem dX7_lives_189 : decode cX7_lives 189 = .ok (.istore 4, 2) := by decide +kernel
theorem dX7_lives_191 : decode cX7_lives 191 = .ok (.goto 16, 3) := by decide +kernel
theorem dX7_lives_194 : decode cX7_lives 194 = .ok (.iload_n 3, 1) := by decide +kernel
theorem dX7_lives_195 : decode cX7_lives 195 = .ok (.iconst 4, 1) := by decide +kernel
theorem dX7_lives_196 : decode cX7_lives 196 = .ok (.if_icmp .ne 11, 3) := by decide +kernel
theorem dX7_lives_199 : decode cX7_lives 199 = .ok (.aload_n 0, 1) := by decide +kernel
theorem dX7_lives_200 : decode cX7_lives 200 = .ok (.iload_n 1, 1) := by decide +kernel
theorem dX7_lives_201 : decode cX7_lives 201 = .ok (.iconst 0, 1) := by decide +kernel
theorem dX7_lives_202 : decode cX7_lives 202 = .ok (.invokevirtual 140, 3) := by decide +kernel
theorem dX7_lives_205 : decode cX7_lives 205 = .ok (.istore 4, 2) := by decide +kernel
theorem dX7_lives_207 : decode cX7_lives 207 = .ok (.return_, 1) := by decide +kernel
set_option maxRecDepth 20000 in
theorem ggX7_live_X7_in : GoodIn wsX7_live wsX7_in := goodIn_r _ [5] rfl (by decide +kernel)
set_option maxRecDepth 20000 in
theorem gX7_live_X7_in : GoodIn wsX7_live (va_wsS RX7 56 yX7_in wsX7_in) := goodIn_app (goodIn_r _ [2, 3, 4] rfl (by decide +kernel)) ggX7_live_X7_in
set_option maxRecDepth 20000 in
theorem ggX7_live_X7_error : GoodIn wsX7_live wsX7_error := goodIn_r _ [9, 10, 11, 121, 122, 123, 124, 125, 126, 127, 128, 129, 130, 131, 132, 133, 134, 135, 136, 137, 138, 139, 140, 141, 142, 143, 144] rfl (by decide +kernel)
set_option maxRecDepth 20000 in
theorem gX7_live_X7_error : GoodIn wsX7_live (wsV RX7 64 RX7 yX7_error wsX7_error) := goodIn_app (goodIn_r _ [6, 7, 8, 4] rfl (by decide +kernel)) ggX7_live_X7_error
set_option maxRecDepth 20000 in
theorem ggX7_live_X7_hasText : GoodIn wsX7_live wsX7_hasText := goodIn_r _ [15, 1, 121, 122, 123, 124, 125, 126, 127, 128, 129, 130, 131, 132, 133, 134, 135, 136, 137, 138, 139, 140, 141, 142, 143, 144] rfl (by decide +kernel)
set_option maxRecDepth 20000 in
theorem gX7_live_X7_hasText : GoodIn wsX7_live (wsV RX7 75 RX7 yX7_hasText wsX7_hasText) := goodIn_app (goodIn_r _ [12, 13, 14, 4] rfl (by decide +kernel)) ggX7_live_X7_hasText
set_option maxRecDepth 20000 in
theorem ggX7_live_X7_lives : GoodIn wsX7_live wsX7_lives := goodIn_r _ [19, 20, 1, 21, 22, 23, 4, 24, 25, 26, 27, 28, 29, 30, 31, 32, 33, 34, 35, 36, 37, 38, 39, 40, 41, 42, 43, 44, 45, 46, 47, 48, 49, 50, 51, 52, 53, 54, 55, 56, 57, 58, 59, 60, 2, 3, 5, 61, 62, 63, 64, 65, 66, 67, 68, 12, 13, 14, 15, 69, 70, 71, 72, 73, 74, 75, 76, 77, 78, 79, 80, 81, 82, 83, 84, 85, 86, 87, 88, 89, 90, 91, 92, 93, 94, 95, 96, 97, 98, 99, 100, 101, 102, 103, 104, 105, 106, 107, 108, 109, 110, 111, 112, 113, 114, 115, 116, 117, 118, 119, 120, 121, 122, 123, 124, 125, 126, 127, 128, 129, 130, 131, 132, 133, 134, 135, 136, 137, 138, 139, 140, 141, 142, 143, 144] rfl (by decide +kernel)
set_option maxRecDepth 20000 in
theorem gX7_live_X7_lives : GoodIn wsX7_live (wsV RX7 207 RX7 yX7_lives wsX7_lives) := goodIn_app (goodIn_r _ [16, 17, 18, 4] rfl (by decide +kernel)) ggX7_live_X7_lives
theorem dX7_live_0 : decode cX7_live 0 = .ok (.iload_n 1, 1) := by decide +kernel
theorem dX7_live_1 : decode cX7_live 1 = .ok (.iconst 1, 1) := by decide +kernel
theorem dX7_live_2 : decode cX7_live 2 = .ok (.bipush 60, 2) := by decide +kernel
theorem dX7_live_4 : decode cX7_live 4 = .ok (.invokestatic 56, 3) := by decide +kernel
theorem dX7_live_7 : decode cX7_live 7 = .ok (.ifCond .ne 9, 3) := by decide +kernel
theorem dX7_live_10 : decode cX7_live 10 = .ok (.aload_n 0, 1) := by decide +kernel
theorem dX7_live_11 : decode cX7_live 11 = .ok (.iconst 1, 1) := by decide +kernel
theorem dX7_live_12 : decode cX7_live 12 = .ok (.invokevirtual 64, 3) := by decide +kernel
theorem dX7_live_15 : decode cX7_live 15 = .ok (.ireturn, 1) := by decide +kernel
theorem dX7_live_16 : decode cX7_live 16 = .ok (.aload_n 0, 1) := by decide +kernel
theorem dX7_live_17 : decode cX7_live 17 = .ok (.getfield 7, 3) := by decide +kernel
theorem dX7_live_20 : decode cX7_live 20 = .ok (.iconst 0, 1) := by decide +kernel
theorem dX7_live_21 : decode cX7_live 21 = .ok (.iaload, 1) := by decide +kernel
theorem dX7_live_22 : decode cX7_live 22 = .ok (.iload_n 1, 1) := by decide +kernel
theorem dX7_live_23 : decode cX7_live 23 = .ok (.iadd, 1) := by decide +kernel
theorem dX7_live_24 : decode cX7_live 24 = .ok (.sipush 29999, 3) := by decide +kernel
theorem dX7_live_27 : decode cX7_live 27 = .ok (.if_icmp .le 9, 3) := by decide +kernel
theorem dX7_live_30 : decode cX7_live 30 = .ok (.aload_n 0, 1) := by decide +kernel
theorem dX7_live_31 : decode cX7_live 31 = .ok (.iconst 3, 1) := by decide +kernel
theorem dX7_live_32 : decode cX7_live 32 = .ok (.invokevirtual 64, 3) := by decide +kernel
theorem dX7_live_35 : decode cX7_live 35 = .ok (.ireturn, 1) := by decide +kernel
theorem dX7_live_36 : decode cX7_live 36 = .ok (.iconst 0, 1) := by decide +kernel
theorem dX7_live_37 : decode cX7_live 37 = .ok (.istore_n 2, 1) := by decide +kernel
theorem dX7_live_38 : decode cX7_live 38 = .ok (.iload_n 2, 1) := by decide +kernel
theorem dX7_live_39 : decode cX7_live 39 = .ok (.iload_n 1, 1) := by decide +kernel
theorem dX7_live_40 : decode cX7_live 40 = .ok (.if_icmp .ge 48, 3) := by decide +kernel
theorem dX7_live_43 : decode cX7_live 43 = .ok (.iconst 0, 1) := by decide +kernel
theorem dX7_live_44 : decode cX7_live 44 = .ok (.istore_n 3, 1) := by decide +kernel
theorem dX7_live_45 : decode cX7_live 45 = .ok (.iload_n 3, 1) := by decide +kernel
theorem dX7_live_46 : decode cX7_live 46 = .ok (.bipush 6, 2) := by decide +kernel
theorem dX7_live_48 : decode cX7_live 48 = .ok (.if_icmp .ge 24, 3) := by decide +kernel
theorem dX7_live_51 : decode cX7_live 51 = .ok (.aload_n 0, 1) := by decide +kernel
theorem dX7_live_52 : decode cX7_live 52 = .ok (.iconst 2, 1) := by decide +kernel
theorem dX7_live_53 : decode cX7_live 53 = .ok (.iload_n 3, 1) := by decide +kernel
theorem dX7_live_54 : decode cX7_live 54 = .ok (.iadd, 1) := by decide +kernel
theorem dX7_live_55 : decode cX7_live 55 = .ok (.invokevirtual 75, 3) := by decide +kernel
theorem dX7_live_58 : decode cX7_live 58 = .ok (.ifCond .eq 8, 3) := by decide +kernel
theorem dX7_live_61 : decode cX7_live 61 = .ok (.aload_n 0, 1) := by decide +kernel
theorem dX7_live_62 : decode cX7_live 62 = .ok (.iload_n 3, 1) := by decide +kernel
theorem dX7_live_63 : decode cX7_live 63 = .ok (.invokevirtual 207, 3) := by decide +kernel
theorem dX7_live_66 : decode cX7_live 66 = .ok (.iinc 3 1, 3) := by decide +kernel
theorem dX7_live_69 : decode cX7_live 69 = .ok (.goto (-24), 3) := by decide +kernel
theorem dX7_live_72 : decode cX7_live 72 = .ok (.aload_n 0, 1) := by decide +kernel
theorem dX7_live_73 : decode cX7_live 73 = .ok (.getfield 7, 3) := by decide +kernel
theorem dX7_live_76 : decode cX7_live 76 = .ok (.iconst 0, 1) := by decide +kernel
theorem dX7_live_77 : decode cX7_live 77 = .ok (.dup2, 1) := by decide +kernel
theorem dX7_live_78 : decode cX7_live 78 = .ok (.iaload, 1) := by decide +kernel
theorem dX7_live_79 : decode cX7_live 79 = .ok (.iconst 1, 1) := by decide +kernel
theorem dX7_live_80 : decode cX7_live 80 = .ok (.iadd, 1) := by decide +kernel
theorem dX7_live_81 : decode cX7_live 81 = .ok (.iastore, 1) := by decide +kernel
theorem dX7_live_82 : decode cX7_live 82 = .ok (.iinc 2 1, 3) := by decide +kernel
theorem dX7_live_85 : decode cX7_live 85 = .ok (.goto (-47), 3) := by decide +kernel
theorem dX7_live_88 : decode cX7_live 88 = .ok (.aload_n 0, 1) := by decide +kernel
theorem dX7_live_89 : decode cX7_live 89 = .ok (.getfield 7, 3) := by decide +kernel
theorem dX7_live_92 : decode cX7_live 92 = .ok (.iconst 0, 1) := by decide +kernel
theorem dX7_live_93 : decode cX7_live 93 = .ok (.iaload, 1) := by decide +kernel
theorem dX7_live_94 : decode cX7_live 94 = .ok (.ireturn, 1) := by decide +kernel
theorem dX7_seed_0 : decode cX7_seed 0 = .ok (.aload_n 0, 1) := by decide +kernel
theorem dX7_seed_1 : decode cX7_seed 1 = .ok (.getfield 7, 3) := by decide +kernel
theorem dX7_seed_4 : decode cX7_seed 4 = .ok (.bipush 6, 2) := by decide +kernel
theorem dX7_seed_6 : decode cX7_seed 6 = .ok (.iaload, 1) := by decide +kernel
theorem dX7_seed_7 : decode cX7_seed 7 = .ok (.istore_n 2, 1) := by decide +kernel
theorem dX7_seed_8 : decode cX7_seed 8 = .ok (.aload_n 0, 1) := by decide +kernel
theorem dX7_seed_9 : decode cX7_seed 9 = .ok (.getfield 7, 3) := by decide +kernel
theorem dX7_seed_12 : decode cX7_seed 12 = .ok (.bipush 6, 2) := by decide +kernel
theorem dX7_seed_14 : decode cX7_seed 14 = .ok (.iload_n 1, 1) := by decide +kernel
theorem dX7_seed_15 : decode cX7_seed 15 = .ok (.iastore, 1) := by decide +kernel
theorem dX7_seed_16 : decode cX7_seed 16 = .ok (.iload_n 2, 1) := by decide +kernel
theorem dX7_seed_17 : decode cX7_seed 17 = .ok (.ireturn, 1) := by decide +kernel
set_option maxRecDepth 20000 in
theorem ggX7_areAlike_X7_sizeOf : GoodIn wsX7_areAlike wsX7_sizeOf := goodIn_r _ [5, 6, 11, 12, 13, 14, 15, 16, 17, 18, 19, 20, 21, 22, 23, 24, 25, 26, 27, 28, 29, 30, 31, 32, 33, 34] rfl (by decide +kernel)
set_option maxRecDepth 20000 in
theorem gX7_areAlike_X7_sizeOf : GoodIn wsX7_areAlike (wsV RX7 60 RX7 yX7_sizeOf wsX7_sizeOf) := goodIn_app (goodIn_r _ [1, 2, 3, 4] rfl (by decide +kernel)) ggX7_areAlike_X7_sizeOf
set_option maxRecDepth 20000 in
theorem ggX7_areAlike_X7_wordAt : GoodIn wsX7_areAlike wsX7_wordAt := goodIn_r _ [10, 6, 11, 12, 13, 14, 15, 16, 17, 18, 19, 20, 21, 22, 23, 24, 25, 26, 27, 28, 29, 30, 31, 32, 33, 34] rfl (by decide +kernel)
set_option maxRecDepth 20000 in
theorem gX7_areAlike_X7_wordAt : GoodIn wsX7_areAlike (wsV RX7 96 RX7 yX7_wordAt wsX7_wordAt) := goodIn_app (goodIn_r _ [7, 8, 9, 4] rfl (by decide +kernel)) ggX7_areAlike_X7_wordAt
theorem dX7_areAlike_0 : decode cX7_areAlike 0 = .ok (.aload_n 0, 1) := by decide +kernel
theorem dX7_areAlike_1 : decode cX7_areAlike 1 = .ok (.iload_n 1, 1) := by decide +kernel
theorem dX7_areAlike_2 : decode cX7_areAlike 2 = .ok (.invokevirtual 60, 3) := by decide +kernel
theorem dX7_areAlike_5 : decode cX7_areAlike 5 = .ok (.aload_n 0, 1) := by decide +kernel
theorem dX7_areAlike_6 : decode cX7_areAlike 6 = .ok (.iload_n 2, 1) := by decide +kernel
theorem dX7_areAlike_7 : decode cX7_areAlike 7 = .ok (.invokevirtual 60, 3) := by decide +kernel
theorem dX7_areAlike_10 : decode cX7_areAlike 10 = .ok (.if_icmp .ne 7, 3) := by decide +kernel
theorem dX7_areAlike_13 : decode cX7_areAlike 13 = .ok (.iconst 1, 1) := by decide +kernel
theorem dX7_areAlike_14 : decode cX7_areAlike 14 = .ok (.goto 4, 3) := by decide +kernel
theorem dX7_areAlike_17 : decode cX7_areAlike 17 = .ok (.iconst 0, 1) := by decide +kernel
theorem dX7_areAlike_18 : decode cX7_areAlike 18 = .ok (.istore_n 3, 1) := by decide +kernel
theorem dX7_areAlike_19 : decode cX7_areAlike 19 = .ok (.iconst 0, 1) := by decide +kernel
theorem dX7_areAlike_20 : decode cX7_areAlike 20 = .ok (.istore 4, 2) := by decide +kernel
theorem dX7_areAlike_22 : decode cX7_areAlike 22 = .ok (.iload 4, 2) := by decide +kernel
theorem dX7_areAlike_24 : decode cX7_areAlike 24 = .ok (.aload_n 0, 1) := by decide +kernel
theorem dX7_areAlike_25 : decode cX7_areAlike 25 = .ok (.iload_n 1, 1) := by decide +kernel
theorem dX7_areAlike_26 : decode cX7_areAlike 26 = .ok (.invokevirtual 60, 3) := by decide +kernel
theorem dX7_areAlike_29 : decode cX7_areAlike 29 = .ok (.if_icmp .ge 36, 3) := by decide +kernel
theorem dX7_areAlike_32 : decode cX7_areAlike 32 = .ok (.iload_n 3, 1) := by decide +kernel
theorem dX7_areAlike_33 : decode cX7_areAlike 33 = .ok (.ifCond .eq 32, 3) := by decide +kernel
theorem dX7_areAlike_36 : decode cX7_areAlike 36 = .ok (.aload_n 0, 1) := by decide +kernel
theorem dX7_areAlike_37 : decode cX7_areAlike 37 = .ok (.iload_n 1, 1) := by decide +kernel
theorem dX7_areAlike_38 : decode cX7_areAlike 38 = .ok (.iload 4, 2) := by decide +kernel
theorem dX7_areAlike_40 : decode cX7_areAlike 40 = .ok (.invokevirtual 96, 3) := by decide +kernel
theorem dX7_areAlike_43 : decode cX7_areAlike 43 = .ok (.aload_n 0, 1) := by decide +kernel
theorem dX7_areAlike_44 : decode cX7_areAlike 44 = .ok (.iload_n 2, 1) := by decide +kernel
theorem dX7_areAlike_45 : decode cX7_areAlike 45 = .ok (.iload 4, 2) := by decide +kernel
theorem dX7_areAlike_47 : decode cX7_areAlike 47 = .ok (.invokevirtual 96, 3) := by decide +kernel
theorem dX7_areAlike_50 : decode cX7_areAlike 50 = .ok (.if_icmp .ne 7, 3) := by decide +kernel
theorem dX7_areAlike_53 : decode cX7_areAlike 53 = .ok (.iconst 1, 1) := by decide +kernel
theorem dX7_areAlike_54 : decode cX7_areAlike 54 = .ok (.goto 4, 3) := by decide +kernel
theorem dX7_areAlike_57 : decode cX7_areAlike 57 = .ok (.iconst 0, 1) := by decide +kernel
theorem dX7_areAlike_58 : decode cX7_areAlike 58 = .ok (.istore_n 3, 1) := by decide +kernel
theorem dX7_areAlike_59 : decode cX7_areAlike 59 = .ok (.iinc 4 1, 3) := by decide +kernel
theorem dX7_areAlike_62 : decode cX7_areAlike 62 = .ok (.goto (-40), 3) := by decide +kernel
theorem dX7_areAlike_65 : decode cX7_areAlike 65 = .ok (.iload_n 3, 1) := by decide +kernel
theorem dX7_areAlike_66 : decode cX7_areAlike 66 = .ok (.ireturn, 1) := by decide +kernel
set_option maxRecDepth 20000 in
theorem ggX7_alike_X7_isVersion : GoodIn wsX7_alike wsX7_isVersion := goodIn_r _ [5, 6, 7, 8, 4, 9, 28, 29, 30, 31, 32, 33, 34, 35, 36, 37, 38, 39, 40, 41, 42, 43, 44, 45, 46, 47, 48, 49, 50, 51] rfl (by decide +kernel)
set_option maxRecDepth 20000 in
theorem gX7_alike_X7_isVersion : GoodIn wsX7_alike (wsV RX7 137 RX7 yX7_isVersion wsX7_isVersion) := goodIn_app (goodIn_r _ [1, 2, 3, 4] rfl (by decide +kernel)) ggX7_alike_X7_isVersion
set_option maxRecDepth 20000 in
theorem ggX7_alike_X7_error : GoodIn wsX7_alike wsX7_error := goodIn_r _ [13, 14, 15, 28, 29, 30, 31, 32, 33, 34, 35, 36, 37, 38, 39, 40, 41, 42, 43, 44, 45, 46, 47, 48, 49, 50, 51] rfl (by decide +kernel)
set_option maxRecDepth 20000 in
theorem gX7_alike_X7_error : GoodIn wsX7_alike (wsV RX7 64 RX7 yX7_error wsX7_error) := goodIn_app (goodIn_r _ [10, 11, 12, 4] rfl (by decide +kernel)) ggX7_alike_X7_error
set_option maxRecDepth 20000 in
theorem ggX7_alike_X7_areAlike : GoodIn wsX7_alike wsX7_areAlike := goodIn_r _ [19, 20, 21, 22, 4, 23, 6, 24, 25, 26, 27, 28, 29, 30, 31, 32, 33, 34, 35, 36, 37, 38, 39, 40, 41, 42, 43, 44, 45, 46, 47, 48, 49, 50, 51] rfl (by decide +kernel)
set_option maxRecDepth 20000 in
theorem gX7_alike_X7_areAlike : GoodIn wsX7_alike (wsV RX7 210 RX7 yX7_areAlike wsX7_areAlike) := goodIn_app (goodIn_r _ [16, 17, 18, 4] rfl (by decide +kernel)) ggX7_alike_X7_areAlike
theorem dX7_alike_0 : decode cX7_alike 0 = .ok (.aload_n 0, 1) := by decide +kernel
theorem dX7_alike_1 : decode cX7_alike 1 = .ok (.iload_n 1, 1) := by decide +kernel
theorem dX7_alike_2 : decode cX7_alike 2 = .ok (.invokevirtual 137, 3) := by decide +kernel
theorem dX7_alike_5 : decode cX7_alike 5 = .ok (.ifCond .eq 11, 3) := by decide +kernel
theorem dX7_alike_8 : decode cX7_alike 8 = .ok (.aload_n 0, 1) := by decide +kernel
theorem dX7_alike_9 : decode cX7_alike 9 = .ok (.iload_n 2, 1) := by decide +kernel
theorem dX7_alike_10 : decode cX7_alike 10 = .ok (.invokevirtual 137, 3) := by decide +kernel
theorem dX7_alike_13 : decode cX7_alike 13 = .ok (.ifCond .ne 11, 3) := by decide +kernel
theorem dX7_alike_16 : decode cX7_alike 16 = .ok (.aload_n 0, 1) := by decide +kernel
theorem dX7_alike_17 : decode cX7_alike 17 = .ok (.iconst 1, 1) := by decide +kernel
theorem dX7_alike_18 : decode cX7_alike 18 = .ok (.invokevirtual 64, 3) := by decide +kernel
theorem dX7_alike_21 : decode cX7_alike 21 = .ok (.goto 17, 3) := by decide +kernel
theorem dX7_alike_24 : decode cX7_alike 24 = .ok (.aload_n 0, 1) := by decide +kernel
theorem dX7_alike_25 : decode cX7_alike 25 = .ok (.iload_n 1, 1) := by decide +kernel
theorem dX7_alike_26 : decode cX7_alike 26 = .ok (.iload_n 2, 1) := by decide +kernel
theorem dX7_alike_27 : decode cX7_alike 27 = .ok (.invokevirtual 210, 3) := by decide +kernel
theorem dX7_alike_30 : decode cX7_alike 30 = .ok (.ifCond .eq 7, 3) := by decide +kernel
theorem dX7_alike_33 : decode cX7_alike 33 = .ok (.iconst 1, 1) := by decide +kernel
theorem dX7_alike_34 : decode cX7_alike 34 = .ok (.goto 4, 3) := by decide +kernel
theorem dX7_alike_37 : decode cX7_alike 37 = .ok (.iconst 0, 1) := by decide +kernel
theorem dX7_alike_38 : decode cX7_alike 38 = .ok (.ireturn, 1) := by decide +kernel
set_option maxRecDepth 20000 in
theorem ggX7_likenessOf_X7_sizeOf : GoodIn wsX7_likenessOf wsX7_sizeOf := goodIn_r _ [6, 7, 12, 13, 14, 15, 16, 17, 18, 19, 20, 21, 22, 23, 24, 25, 26, 27, 28, 29, 30, 31, 32, 33, 34, 35] rfl (by decide +kernel)
set_option maxRecDepth 20000 in
theorem gX7_likenessOf_X7_sizeOf : GoodIn wsX7_likenessOf (wsV RX7 60 RX7 yX7_sizeOf wsX7_sizeOf) := goodIn_app (goodIn_r _ [2, 3, 4, 5] rfl (by decide +kernel)) ggX7_likenessOf_X7_sizeOf
set_option maxRecDepth 20000 in
theorem ggX7_likenessOf_X7_wordAt : GoodIn wsX7_likenessOf wsX7_wordAt := goodIn_r _ [11, 7, 12, 13, 14, 15, 16, 17, 18, 19, 20, 21, 22, 23, 24, 25, 26, 27, 28, 29, 30, 31, 32, 33, 34, 35] rfl (by decide +kernel)
set_option maxRecDepth 20000 in
theorem gX7_likenessOf_X7_wordAt : GoodIn wsX7_likenessOf (wsV RX7 96 RX7 yX7_wordAt wsX7_wordAt) := goodIn_app (goodIn_r _ [8, 9, 10, 5] rfl (by decide +kernel)) ggX7_likenessOf_X7_wordAt
theorem dX7_likenessOf_0 : decode cX7_likenessOf 0 = .ok (.aload_n 0, 1) := by decide +kernel
theorem dX7_likenessOf_1 : decode cX7_likenessOf 1 = .ok (.iload_n 1, 1) := by decide +kernel
theorem dX7_likenessOf_2 : decode cX7_likenessOf 2 = .ok (.invokevirtual 60, 3) := by decide +kernel
theorem dX7_likenessOf_5 : decode cX7_likenessOf 5 = .ok (.istore_n 3, 1) := by decide +kernel
theorem dX7_likenessOf_6 : decode cX7_likenessOf 6 = .ok (.aload_n 0, 1) := by decide +kernel
theorem dX7_likenessOf_7 : decode cX7_likenessOf 7 = .ok (.iload_n 2, 1) := by decide +kernel
theorem dX7_likenessOf_8 : decode cX7_likenessOf 8 = .ok (.invokevirtual 60, 3) := by decide +kernel
theorem dX7_likenessOf_11 : decode cX7_likenessOf 11 = .ok (.istore 4, 2) := by decide +kernel
theorem dX7_likenessOf_13 : decode cX7_likenessOf 13 = .ok (.iload_n 3, 1) := by decide +kernel
theorem dX7_likenessOf_14 : decode cX7_likenessOf 14 = .ok (.iload 4, 2) := by decide +kernel
theorem dX7_likenessOf_16 : decode cX7_likenessOf 16 = .ok (.iadd, 1) := by decide +kernel
theorem dX7_likenessOf_17 : decode cX7_likenessOf 17 = .ok (.ifCond .ne 6, 3) := by decide +kernel
theorem dX7_likenessOf_20 : decode cX7_likenessOf 20 = .ok (.bipush 100, 2) := by decide +kernel
theorem dX7_likenessOf_22 : decode cX7_likenessOf 22 = .ok (.ireturn, 1) := by decide +kernel
theorem dX7_likenessOf_23 : decode cX7_likenessOf 23 = .ok (.iconst 0, 1) := by decide +kernel
theorem dX7_likenessOf_24 : decode cX7_likenessOf 24 = .ok (.istore 5, 2) := by decide +kernel
theorem dX7_likenessOf_26 : decode cX7_likenessOf 26 = .ok (.iload 5, 2) := by decide +kernel
theorem dX7_likenessOf_28 : decode cX7_likenessOf 28 = .ok (.iload 4, 2) := by decide +kernel
theorem dX7_likenessOf_30 : decode cX7_likenessOf 30 = .ok (.if_icmp .gt 17, 3) := by decide +kernel
theorem dX7_likenessOf_33 : decode cX7_likenessOf 33 = .ok (.aload_n 0, 1) := by decide +kernel
theorem dX7_likenessOf_34 : decode cX7_likenessOf 34 = .ok (.getfield 34, 3) := by decide +kernel
theorem dX7_likenessOf_37 : decode cX7_likenessOf 37 = .ok (.iload 5, 2) := by decide +kernel
theorem dX7_likenessOf_39 : decode cX7_likenessOf 39 = .ok (.iconst 0, 1) := by decide +kernel
theorem dX7_likenessOf_40 : decode cX7_likenessOf 40 = .ok (.iastore, 1) := by decide +kernel
theorem dX7_likenessOf_41 : decode cX7_likenessOf 41 = .ok (.iinc 5 1, 3) := by decide +kernel
theorem dX7_likenessOf_44 : decode cX7_likenessOf 44 = .ok (.goto (-18), 3) := by decide +kernel
theorem dX7_likenessOf_47 : decode cX7_likenessOf 47 = .ok (.iconst 0, 1) := by decide +kernel
theorem dX7_likenessOf_48 : decode cX7_likenessOf 48 = .ok (.istore 5, 2) := by decide +kernel
theorem dX7_likenessOf_50 : decode cX7_likenessOf 50 = .ok (.iload 5, 2) := by decide +kernel
theorem dX7_likenessOf_52 : decode cX7_likenessOf 52 = .ok (.iload_n 3, 1) := by decide +kernel
theorem dX7_likenessOf_53 : decode cX7_likenessOf 53 = .ok (.if_icmp .ge 106, 3) := by decide +kernel
theorem dX7_likenessOf_56 : decode cX7_likenessOf 56 = .ok (.iconst 0, 1) := by decide +kernel
theorem dX7_likenessOf_57 : decode cX7_likenessOf 57 = .ok (.istore 6, 2) := by decide +kernel
theorem dX7_likenessOf_59 : decode cX7_likenessOf 59 = .ok (.iconst 1, 1) := by decide +kernel
theorem dX7_likenessOf_60 : decode cX7_likenessOf 60 = .ok (.istore 7, 2) := by decide +kernel
theorem dX7_likenessOf_62 : decode cX7_likenessOf 62 = .ok (.iload 7, 2) := by decide +kernel
theorem dX7_likenessOf_64 : decode cX7_likenessOf 64 = .ok (.iload 4, 2) := by decide +kernel
theorem dX7_likenessOf_66 : decode cX7_likenessOf 66 = .ok (.if_icmp .gt 87, 3) := by decide +kernel
theorem dX7_likenessOf_69 : decode cX7_likenessOf 69 = .ok (.aload_n 0, 1) := by decide +kernel
theorem dX7_likenessOf_70 : decode cX7_likenessOf 70 = .ok (.getfield 34, 3) := by decide +kernel
theorem dX7_likenessOf_73 : decode cX7_likenessOf 73 = .ok (.iload 7, 2) := by decide +kernel
theorem dX7_likenessOf_75 : decode cX7_likenessOf 75 = .ok (.iaload, 1) := by decide +kernel
theorem dX7_likenessOf_76 : decode cX7_likenessOf 76 = .ok (.istore 8, 2) := by decide +kernel
theorem dX7_likenessOf_78 : decode cX7_likenessOf 78 = .ok (.aload_n 0, 1) := by decide +kernel
theorem dX7_likenessOf_79 : decode cX7_likenessOf 79 = .ok (.getfield 34, 3) := by decide +kernel
theorem dX7_likenessOf_82 : decode cX7_likenessOf 82 = .ok (.iload 7, 2) := by decide +kernel
theorem dX7_likenessOf_84 : decode cX7_likenessOf 84 = .ok (.iconst 1, 1) := by decide +kernel
theorem dX7_likenessOf_85 : decode cX7_likenessOf 85 = .ok (.isub, 1) := by decide +kernel
theorem dX7_likenessOf_86 : decode cX7_likenessOf 86 = .ok (.iaload, 1) := by decide +kernel
theorem dX7_likenessOf_87 : decode cX7_likenessOf 87 = .ok (.iload 8, 2) := by decide +kernel
theorem dX7_likenessOf_89 : decode cX7_likenessOf 89 = .ok (.if_icmp .le 15, 3) := by decide +kernel
theorem dX7_likenessOf_92 : decode cX7_likenessOf 92 = .ok (.aload_n 0, 1) := by decide +kernel
theorem dX7_likenessOf_93 : decode cX7_likenessOf 93 = .ok (.getfield 34, 3) := by decide +kernel
theorem dX7_likenessOf_96 : decode cX7_likenessOf 96 = .ok (.iload 7, 2) := by decide +kernel
theorem dX7_likenessOf_98 : decode cX7_likenessOf 98 = .ok (.iconst 1, 1) := by decide +kernel
theorem dX7_likenessOf_99 : decode cX7_likenessOf 99 = .ok (.isub, 1) := by decide +kernel
theorem dX7_likenessOf_100 : decode cX7_likenessOf 100 = .ok (.iaload, 1) := by decide +kernel
theorem dX7_likenessOf_101 : decode cX7_likenessOf 101 = .ok (.goto 5, 3) := by decide +kernel
theorem dX7_likenessOf_104 : decode cX7_likenessOf 104 = .ok (.iload 8, 2) := by decide +kernel
theorem dX7_likenessOf_106 : decode cX7_likenessOf 106 = .ok (.istore 9, 2) := by decide +kernel
theorem dX7_likenessOf_108 : decode cX7_likenessOf 108 = .ok (.aload_n 0, 1) := by decide +kernel
theorem dX7_likenessOf_109 : decode cX7_likenessOf 109 = .ok (.getfield 34, 3) := by decide +kernel
theorem dX7_likenessOf_112 : decode cX7_likenessOf 112 = .ok (.iload 7, 2) := by decide +kernel
theorem dX7_likenessOf_114 : decode cX7_likenessOf 114 = .ok (.aload_n 0, 1) := by decide +kernel
theorem dX7_likenessOf_115 : decode cX7_likenessOf 115 = .ok (.iload_n 1, 1) := by decide +kernel
theorem dX7_likenessOf_116 : decode cX7_likenessOf 116 = .ok (.iload 5, 2) := by decide +kernel
theorem dX7_likenessOf_118 : decode cX7_likenessOf 118 = .ok (.invokevirtual 96, 3) := by decide +kernel
theorem dX7_likenessOf_121 : decode cX7_likenessOf 121 = .ok (.aload_n 0, 1) := by decide +kernel
theorem dX7_likenessOf_122 : decode cX7_likenessOf 122 = .ok (.iload_n 2, 1) := by decide +kernel
theorem dX7_likenessOf_123 : decode cX7_likenessOf 123 = .ok (.iload 7, 2) := by decide +kernel
theorem dX7_likenessOf_125 : decode cX7_likenessOf 125 = .ok (.iconst 1, 1) := by decide +kernel
theorem dX7_likenessOf_126 : decode cX7_likenessOf 126 = .ok (.isub, 1) := by decide +kernel
theorem dX7_likenessOf_127 : decode cX7_likenessOf 127 = .ok (.invokevirtual 96, 3) := by decide +kernel
theorem dX7_likenessOf_130 : decode cX7_likenessOf 130 = .ok (.if_icmp .ne 10, 3) := by decide +kernel
theorem dX7_likenessOf_133 : decode cX7_likenessOf 133 = .ok (.iload 6, 2) := by decide +kernel
theorem dX7_likenessOf_135 : decode cX7_likenessOf 135 = .ok (.iconst 1, 1) := by decide +kernel
theorem dX7_likenessOf_136 : decode cX7_likenessOf 136 = .ok (.iadd, 1) := by decide +kernel
theorem dX7_likenessOf_137 : decode cX7_likenessOf 137 = .ok (.goto 5, 3) := by decide +kernel
theorem dX7_likenessOf_140 : decode cX7_likenessOf 140 = .ok (.iload 9, 2) := by decide +kernel
theorem dX7_likenessOf_142 : decode cX7_likenessOf 142 = .ok (.iastore, 1) := by decide +kernel
theorem dX7_likenessOf_143 : decode cX7_likenessOf 143 = .ok (.iload 8, 2) := by decide +kernel
theorem dX7_likenessOf_145 : decode cX7_likenessOf 145 = .ok (.istore 6, 2) := by decide +kernel
theorem dX7_likenessOf_147 : decode cX7_likenessOf 147 = .ok (.iinc 7 1, 3) := by decide +kernel
theorem dX7_likenessOf_150 : decode cX7_likenessOf 150 = .ok (.goto (-88), 3) := by decide +kernel
theorem dX7_likenessOf_153 : decode cX7_likenessOf 153 = .ok (.iinc 5 1, 3) := by decide +kernel
theorem dX7_likenessOf_156 : decode cX7_likenessOf 156 = .ok (.goto (-106), 3) := by decide +kernel
theorem dX7_likenessOf_159 : decode cX7_likenessOf 159 = .ok (.bipush 100, 2) := by decide +kernel
theorem dX7_likenessOf_161 : decode cX7_likenessOf 161 = .ok (.aload_n 0, 1) := by decide +kernel
theorem dX7_likenessOf_162 : decode cX7_likenessOf 162 = .ok (.getfield 34, 3) := by decide +kernel
theorem dX7_likenessOf_165 : decode cX7_likenessOf 165 = .ok (.iload 4, 2) := by decide +kernel
theorem dX7_likenessOf_167 : decode cX7_likenessOf 167 = .ok (.iaload, 1) := by decide +kernel
theorem dX7_likenessOf_168 : decode cX7_likenessOf 168 = .ok (.imul, 1) := by decide +kernel
theorem dX7_likenessOf_169 : decode cX7_likenessOf 169 = .ok (.iload_n 3, 1) := by decide +kernel
theorem dX7_likenessOf_170 : decode cX7_likenessOf 170 = .ok (.iload 4, 2) := by decide +kernel
theorem dX7_likenessOf_172 : decode cX7_likenessOf 172 = .ok (.if_icmp .le 7, 3) := by decide +kernel
theorem dX7_likenessOf_175 : decode cX7_likenessOf 175 = .ok (.iload_n 3, 1) := by decide +kernel
theorem dX7_likenessOf_176 : decode cX7_likenessOf 176 = .ok (.goto 5, 3) := by decide +kernel
theorem dX7_likenessOf_179 : decode cX7_likenessOf 179 = .ok (.iload 4, 2) := by decide +kernel
theorem dX7_likenessOf_181 : decode cX7_likenessOf 181 = .ok (.idiv, 1) := by decide +kernel
theorem dX7_likenessOf_182 : decode cX7_likenessOf 182 = .ok (.ireturn, 1) := by decide +kernel
set_option maxRecDepth 20000 in
theorem ggX7_likeness_X7_isVersion : GoodIn wsX7_likeness wsX7_isVersion := goodIn_r _ [5, 6, 7, 8, 4, 9, 29, 30, 31, 32, 33, 34, 35, 36, 37, 38, 39, 40, 41, 42, 43, 44, 45, 46, 47, 48, 49, 50, 51, 52] rfl (by decide +kernel)
set_option maxRecDepth 20000 in
theorem gX7_likeness_X7_isVersion : GoodIn wsX7_likeness (wsV RX7 137 RX7 yX7_isVersion wsX7_isVersion) := goodIn_app (goodIn_r _ [1, 2, 3, 4] rfl (by decide +kernel)) ggX7_likeness_X7_isVersion
set_option maxRecDepth 20000 in
theorem ggX7_likeness_X7_likenessOf : GoodIn wsX7_likeness wsX7_likenessOf := goodIn_r _ [13, 14, 15, 16, 17, 4, 18, 6, 19, 20, 21, 22, 29, 30, 31, 32, 33, 34, 35, 36, 37, 38, 39, 40, 41, 42, 43, 44, 45, 46, 47, 48, 49, 50, 51, 52] rfl (by decide +kernel)
set_option maxRecDepth 20000 in
theorem gX7_likeness_X7_likenessOf : GoodIn wsX7_likeness (wsV RX7 213 RX7 yX7_likenessOf wsX7_likenessOf) := goodIn_app (goodIn_r _ [10, 11, 12, 4] rfl (by decide +kernel)) ggX7_likeness_X7_likenessOf
set_option maxRecDepth 20000 in
theorem ggX7_likeness_X7_error : GoodIn wsX7_likeness wsX7_error := goodIn_r _ [26, 27, 28, 29, 30, 31, 32, 33, 34, 35, 36, 37, 38, 39, 40, 41, 42, 43, 44, 45, 46, 47, 48, 49, 50, 51, 52] rfl (by decide +kernel)
set_option maxRecDepth 20000 in
theorem gX7_likeness_X7_error : GoodIn wsX7_likeness (wsV RX7 64 RX7 yX7_error wsX7_error) := goodIn_app (goodIn_r _ [23, 24, 25, 4] rfl (by decide +kernel)) ggX7_likeness_X7_error
theorem dX7_likeness_0 : decode cX7_likeness 0 = .ok (.aload_n 0, 1) := by decide +kernel
theorem dX7_likeness_1 : decode cX7_likeness 1 = .ok (.iload_n 1, 1) := by decide +kernel
theorem dX7_likeness_2 : decode cX7_likeness 2 = .ok (.invokevirtual 137, 3) := by decide +kernel
theorem dX7_likeness_5 : decode cX7_likeness 5 = .ok (.ifCond .eq 20, 3) := by decide +kernel
theorem dX7_likeness_8 : decode cX7_likeness 8 = .ok (.aload_n 0, 1) := by decide +kernel
theorem dX7_likeness_9 : decode cX7_likeness 9 = .ok (.iload_n 2, 1) := by decide +kernel
theorem dX7_likeness_10 : decode cX7_likeness 10 = .ok (.invokevirtual 137, 3) := by decide +kernel
theorem dX7_likeness_13 : decode cX7_likeness 13 = .ok (.ifCond .eq 12, 3) := by decide +kernel
theorem dX7_likeness_16 : decode cX7_likeness 16 = .ok (.aload_n 0, 1) := by decide +kernel
theorem dX7_likeness_17 : decode cX7_likeness 17 = .ok (.iload_n 1, 1) := by decide +kernel
theorem dX7_likeness_18 : decode cX7_likeness 18 = .ok (.iload_n 2, 1) := by decide +kernel
theorem dX7_likeness_19 : decode cX7_likeness 19 = .ok (.invokevirtual 213, 3) := by decide +kernel
theorem dX7_likeness_22 : decode cX7_likeness 22 = .ok (.goto 8, 3) := by decide +kernel
theorem dX7_likeness_25 : decode cX7_likeness 25 = .ok (.aload_n 0, 1) := by decide +kernel
theorem dX7_likeness_26 : decode cX7_likeness 26 = .ok (.iconst 1, 1) := by decide +kernel
theorem dX7_likeness_27 : decode cX7_likeness 27 = .ok (.invokevirtual 64, 3) := by decide +kernel
theorem dX7_likeness_30 : decode cX7_likeness 30 = .ok (.ireturn, 1) := by decide +kernel
set_option maxRecDepth 20000 in
theorem ggX7_from_X7_isVersion : GoodIn wsX7_from wsX7_isVersion := goodIn_r _ [5, 6, 7, 8, 4, 9, 29, 30, 31, 32, 33, 34, 35, 36, 37, 38, 39, 40, 41, 42, 43, 44, 45, 46, 47, 48, 49, 50, 51, 52] rfl (by decide +kernel)
set_option maxRecDepth 20000 in
theorem gX7_from_X7_isVersion : GoodIn wsX7_from (wsV RX7 137 RX7 yX7_isVersion wsX7_isVersion) := goodIn_app (goodIn_r _ [1, 2, 3, 4] rfl (by decide +kernel)) ggX7_from_X7_isVersion
set_option maxRecDepth 20000 in
theorem ggX7_from_X7_error : GoodIn wsX7_from wsX7_error := goodIn_r _ [13, 14, 15, 29, 30, 31, 32, 33, 34, 35, 36, 37, 38, 39, 40, 41, 42, 43, 44, 45, 46, 47, 48, 49, 50, 51, 52] rfl (by decide +kernel)
set_option maxRecDepth 20000 in
theorem gX7_from_X7_error : GoodIn wsX7_from (wsV RX7 64 RX7 yX7_error wsX7_error) := goodIn_app (goodIn_r _ [10, 11, 12, 4] rfl (by decide +kernel)) ggX7_from_X7_error
set_option maxRecDepth 20000 in
theorem ggX7_from_X7_likenessOf : GoodIn wsX7_from wsX7_likenessOf := goodIn_r _ [19, 20, 21, 22, 23, 4, 24, 6, 25, 26, 27, 28, 29, 30, 31, 32, 33, 34, 35, 36, 37, 38, 39, 40, 41, 42, 43, 44, 45, 46, 47, 48, 49, 50, 51, 52] rfl (by decide +kernel)
set_option maxRecDepth 20000 in
theorem gX7_from_X7_likenessOf : GoodIn wsX7_from (wsV RX7 213 RX7 yX7_likenessOf wsX7_likenessOf) := goodIn_app (goodIn_r _ [16, 17, 18, 4] rfl (by decide +kernel)) ggX7_from_X7_likenessOf
theorem dX7_from_0 : decode cX7_from 0 = .ok (.aload_n 0, 1) := by decide +kernel
theorem dX7_from_1 : decode cX7_from 1 = .ok (.iload_n 1, 1) := by decide +kernel
theorem dX7_from_2 : decode cX7_from 2 = .ok (.invokevirtual 137, 3) := by decide +kernel
theorem dX7_from_5 : decode cX7_from 5 = .ok (.ifCond .ne 9, 3) := by decide +kernel
theorem dX7_from_8 : decode cX7_from 8 = .ok (.aload_n 0, 1) := by decide +kernel
theorem dX7_from_9 : decode cX7_from 9 = .ok (.iconst 1, 1) := by decide +kernel
theorem dX7_from_10 : decode cX7_from 10 = .ok (.invokevirtual 64, 3) := by decide +kernel
theorem dX7_from_13 : decode cX7_from 13 = .ok (.ireturn, 1) := by decide +kernel
theorem dX7_from_14 : decode cX7_from 14 = .ok (.iload_n 1, 1) := by decide +kernel
theorem dX7_from_15 : decode cX7_from 15 = .ok (.iconst 2, 1) := by decide +kernel
theorem dX7_from_16 : decode cX7_from 16 = .ok (.if_icmp .ge 9, 3) := by decide +kernel
theorem dX7_from_19 : decode cX7_from 19 = .ok (.aload_n 0, 1) := by decide +kernel
theorem dX7_from_20 : decode cX7_from 20 = .ok (.iconst 2, 1) := by decide +kernel
theorem dX7_from_21 : decode cX7_from 21 = .ok (.invokevirtual 64, 3) := by decide +kernel
theorem dX7_from_24 : decode cX7_from 24 = .ok (.ireturn, 1) := by decide +kernel
theorem dX7_from_25 : decode cX7_from 25 = .ok (.iconst 0, 1) := by decide +kernel
theorem dX7_from_26 : decode cX7_from 26 = .ok (.istore_n 2, 1) := by decide +kernel
theorem dX7_from_27 : decode cX7_from 27 = .ok (.iconst 1, 1) := by decide +kernel
theorem dX7_from_28 : decode cX7_from 28 = .ok (.istore_n 3, 1) := by decide +kernel
theorem dX7_from_29 : decode cX7_from 29 = .ok (.iload_n 3, 1) := by decide +kernel
theorem dX7_from_30 : decode cX7_from 30 = .ok (.iload_n 1, 1) := by decide +kernel
theorem dX7_from_31 : decode cX7_from 31 = .ok (.iconst 1, 1) := by decide +kernel
theorem dX7_from_32 : decode cX7_from 32 = .ok (.isub, 1) := by decide +kernel
theorem dX7_from_33 : decode cX7_from 33 = .ok (.if_icmp .ge 30, 3) := by decide +kernel
theorem dX7_from_36 : decode cX7_from 36 = .ok (.aload_n 0, 1) := by decide +kernel
theorem dX7_from_37 : decode cX7_from 37 = .ok (.iload_n 1, 1) := by decide +kernel
theorem dX7_from_38 : decode cX7_from 38 = .ok (.iload_n 3, 1) := by decide +kernel
theorem dX7_from_39 : decode cX7_from 39 = .ok (.invokevirtual 213, 3) := by decide +kernel
theorem dX7_from_42 : decode cX7_from 42 = .ok (.aload_n 0, 1) := by decide +kernel
theorem dX7_from_43 : decode cX7_from 43 = .ok (.iload_n 1, 1) := by decide +kernel
theorem dX7_from_44 : decode cX7_from 44 = .ok (.iload_n 2, 1) := by decide +kernel
theorem dX7_from_45 : decode cX7_from 45 = .ok (.invokevirtual 213, 3) := by decide +kernel
theorem dX7_from_48 : decode cX7_from 48 = .ok (.if_icmp .lt 7, 3) := by decide +kernel
theorem dX7_from_51 : decode cX7_from 51 = .ok (.iload_n 3, 1) := by decide +kernel
theorem dX7_from_52 : decode cX7_from 52 = .ok (.goto 4, 3) := by decide +kernel
theorem dX7_from_55 : decode cX7_from 55 = .ok (.iload_n 2, 1) := by decide +kernel
theorem dX7_from_56 : decode cX7_from 56 = .ok (.istore_n 2, 1) := by decide +kernel
theorem dX7_from_57 : decode cX7_from 57 = .ok (.iinc 3 1, 3) := by decide +kernel
theorem dX7_from_60 : decode cX7_from 60 = .ok (.goto (-31), 3) := by decide +kernel
theorem dX7_from_63 : decode cX7_from 63 = .ok (.iload_n 2, 1) := by decide +kernel
theorem dX7_from_64 : decode cX7_from 64 = .ok (.ireturn, 1) := by decide +kernel
set_option maxRecDepth 20000 in
theorem ggX7_findUndone_X7_areAlike : GoodIn wsX7_findUndone wsX7_areAlike := goodIn_r _ [7, 8, 9, 10, 6, 11, 1, 12, 13, 14, 15, 16, 17, 18, 19, 20, 21, 22, 23, 24, 25, 26, 27, 28, 29, 30, 31, 32, 33, 34, 35, 36, 37, 38, 39] rfl (by decide +kernel)
set_option maxRecDepth 20000 in
theorem gX7_findUndone_X7_areAlike : GoodIn wsX7_findUndone (wsV RX7 210 RX7 yX7_areAlike wsX7_areAlike) := goodIn_app (goodIn_r _ [3, 4, 5, 6] rfl (by decide +kernel)) ggX7_findUndone_X7_areAlike
theorem dX7_findUndone_0 : decode cX7_findUndone 0 = .ok (.iconst 0, 1) := by decide +kernel
theorem dX7_findUndone_1 : decode cX7_findUndone 1 = .ok (.istore_n 1, 1) := by decide +kernel
theorem dX7_findUndone_2 : decode cX7_findUndone 2 = .ok (.iload_n 1, 1) := by decide +kernel
theorem dX7_findUndone_3 : decode cX7_findUndone 3 = .ok (.aload_n 0, 1) := by decide +kernel
theorem dX7_findUndone_4 : decode cX7_findUndone 4 = .ok (.getfield 7, 3) := by decide +kernel
theorem dX7_findUndone_7 : decode cX7_findUndone 7 = .ok (.iconst 1, 1) := by decide +kernel
theorem dX7_findUndone_8 : decode cX7_findUndone 8 = .ok (.iaload, 1) := by decide +kernel
theorem dX7_findUndone_9 : decode cX7_findUndone 9 = .ok (.if_icmp .ge 88, 3) := by decide +kernel
theorem dX7_findUndone_12 : decode cX7_findUndone 12 = .ok (.aload_n 0, 1) := by decide +kernel
theorem dX7_findUndone_13 : decode cX7_findUndone 13 = .ok (.getfield 37, 3) := by decide +kernel
theorem dX7_findUndone_16 : decode cX7_findUndone 16 = .ok (.iload_n 1, 1) := by decide +kernel
theorem dX7_findUndone_17 : decode cX7_findUndone 17 = .ok (.iconst (-1), 1) := by decide +kernel
theorem dX7_findUndone_18 : decode cX7_findUndone 18 = .ok (.iastore, 1) := by decide +kernel
theorem dX7_findUndone_19 : decode cX7_findUndone 19 = .ok (.aload_n 0, 1) := by decide +kernel
theorem dX7_findUndone_20 : decode cX7_findUndone 20 = .ok (.iload_n 1, 1) := by decide +kernel
theorem dX7_findUndone_21 : decode cX7_findUndone 21 = .ok (.iload_n 1, 1) := by decide +kernel
theorem dX7_findUndone_22 : decode cX7_findUndone 22 = .ok (.iconst 1, 1) := by decide +kernel
theorem dX7_findUndone_23 : decode cX7_findUndone 23 = .ok (.iadd, 1) := by decide +kernel
theorem dX7_findUndone_24 : decode cX7_findUndone 24 = .ok (.invokevirtual 210, 3) := by decide +kernel
theorem dX7_findUndone_27 : decode cX7_findUndone 27 = .ok (.ifCond .ne 7, 3) := by decide +kernel
theorem dX7_findUndone_30 : decode cX7_findUndone 30 = .ok (.iconst 1, 1) := by decide +kernel
theorem dX7_findUndone_31 : decode cX7_findUndone 31 = .ok (.goto 4, 3) := by decide +kernel
theorem dX7_findUndone_34 : decode cX7_findUndone 34 = .ok (.iconst 0, 1) := by decide +kernel
theorem dX7_findUndone_35 : decode cX7_findUndone 35 = .ok (.istore_n 2, 1) := by decide +kernel
theorem dX7_findUndone_36 : decode cX7_findUndone 36 = .ok (.iload_n 1, 1) := by decide +kernel
theorem dX7_findUndone_37 : decode cX7_findUndone 37 = .ok (.iconst 1, 1) := by decide +kernel
theorem dX7_findUndone_38 : decode cX7_findUndone 38 = .ok (.iadd, 1) := by decide +kernel
theorem dX7_findUndone_39 : decode cX7_findUndone 39 = .ok (.istore_n 3, 1) := by decide +kernel
theorem dX7_findUndone_40 : decode cX7_findUndone 40 = .ok (.iload_n 3, 1) := by decide +kernel
theorem dX7_findUndone_41 : decode cX7_findUndone 41 = .ok (.aload_n 0, 1) := by decide +kernel
theorem dX7_findUndone_42 : decode cX7_findUndone 42 = .ok (.getfield 7, 3) := by decide +kernel
theorem dX7_findUndone_45 : decode cX7_findUndone 45 = .ok (.iconst 1, 1) := by decide +kernel
theorem dX7_findUndone_46 : decode cX7_findUndone 46 = .ok (.iaload, 1) := by decide +kernel
theorem dX7_findUndone_47 : decode cX7_findUndone 47 = .ok (.if_icmp .ge 44, 3) := by decide +kernel
theorem dX7_findUndone_50 : decode cX7_findUndone 50 = .ok (.iload_n 2, 1) := by decide +kernel
theorem dX7_findUndone_51 : decode cX7_findUndone 51 = .ok (.ifCond .eq 40, 3) := by decide +kernel
theorem dX7_findUndone_54 : decode cX7_findUndone 54 = .ok (.aload_n 0, 1) := by decide +kernel
theorem dX7_findUndone_55 : decode cX7_findUndone 55 = .ok (.getfield 37, 3) := by decide +kernel
theorem dX7_findUndone_58 : decode cX7_findUndone 58 = .ok (.iload_n 1, 1) := by decide +kernel
theorem dX7_findUndone_59 : decode cX7_findUndone 59 = .ok (.iaload, 1) := by decide +kernel
theorem dX7_findUndone_60 : decode cX7_findUndone 60 = .ok (.ifCond .ge 31, 3) := by decide +kernel
theorem dX7_findUndone_63 : decode cX7_findUndone 63 = .ok (.aload_n 0, 1) := by decide +kernel
theorem dX7_findUndone_64 : decode cX7_findUndone 64 = .ok (.getfield 37, 3) := by decide +kernel
theorem dX7_findUndone_67 : decode cX7_findUndone 67 = .ok (.iload_n 1, 1) := by decide +kernel
theorem dX7_findUndone_68 : decode cX7_findUndone 68 = .ok (.aload_n 0, 1) := by decide +kernel
theorem dX7_findUndone_69 : decode cX7_findUndone 69 = .ok (.iload_n 1, 1) := by decide +kernel
theorem dX7_findUndone_70 : decode cX7_findUndone 70 = .ok (.iload_n 3, 1) := by decide +kernel
theorem dX7_findUndone_71 : decode cX7_findUndone 71 = .ok (.iconst 1, 1) := by decide +kernel
theorem dX7_findUndone_72 : decode cX7_findUndone 72 = .ok (.iadd, 1) := by decide +kernel
theorem dX7_findUndone_73 : decode cX7_findUndone 73 = .ok (.invokevirtual 210, 3) := by decide +kernel
theorem dX7_findUndone_76 : decode cX7_findUndone 76 = .ok (.ifCond .eq 7, 3) := by decide +kernel
theorem dX7_findUndone_79 : decode cX7_findUndone 79 = .ok (.iload_n 3, 1) := by decide +kernel
theorem dX7_findUndone_80 : decode cX7_findUndone 80 = .ok (.goto 4, 3) := by decide +kernel
theorem dX7_findUndone_83 : decode cX7_findUndone 83 = .ok (.iconst (-1), 1) := by decide +kernel
theorem dX7_findUndone_84 : decode cX7_findUndone 84 = .ok (.iastore, 1) := by decide +kernel
theorem dX7_findUndone_85 : decode cX7_findUndone 85 = .ok (.iinc 3 1, 3) := by decide +kernel
theorem dX7_findUndone_88 : decode cX7_findUndone 88 = .ok (.goto (-48), 3) := by decide +kernel
theorem dX7_findUndone_91 : decode cX7_findUndone 91 = .ok (.iinc 1 1, 3) := by decide +kernel
theorem dX7_findUndone_94 : decode cX7_findUndone 94 = .ok (.goto (-92), 3) := by decide +kernel
theorem dX7_findUndone_97 : decode cX7_findUndone 97 = .ok (.return_, 1) := by decide +kernel
set_option maxRecDepth 20000 in
theorem ggX7_warOf_X7_actIs1 : GoodIn wsX7_warOf wsX7_actIs1 := goodIn_r _ [6, 7, 8, 9, 10, 11, 12, 13, 14, 15, 16, 17, 18, 19, 20, 21, 22, 23, 24, 25, 26, 27, 28, 29, 30, 31] rfl (by decide +kernel)
set_option maxRecDepth 20000 in
theorem gX7_warOf_X7_actIs1 : GoodIn wsX7_warOf (wsV RX7 67 RX7 yX7_actIs1 wsX7_actIs1) := goodIn_app (goodIn_r _ [2, 3, 4, 5] rfl (by decide +kernel)) ggX7_warOf_X7_actIs1
theorem dX7_warOf_0 : decode cX7_warOf 0 = .ok (.iconst 0, 1) := by decide +kernel
theorem dX7_warOf_1 : decode cX7_warOf 1 = .ok (.istore_n 3, 1) := by decide +kernel
theorem dX7_warOf_2 : decode cX7_warOf 2 = .ok (.iload_n 1, 1) := by decide +kernel
theorem dX7_warOf_3 : decode cX7_warOf 3 = .ok (.istore 4, 2) := by decide +kernel
theorem dX7_warOf_5 : decode cX7_warOf 5 = .ok (.iconst 0, 1) := by decide +kernel
theorem dX7_warOf_6 : decode cX7_warOf 6 = .ok (.istore 5, 2) := by decide +kernel
theorem dX7_warOf_8 : decode cX7_warOf 8 = .ok (.iconst 0, 1) := by decide +kernel
theorem dX7_warOf_9 : decode cX7_warOf 9 = .ok (.istore 6, 2) := by decide +kernel
theorem dX7_warOf_11 : decode cX7_warOf 11 = .ok (.iload_n 1, 1) := by decide +kernel
theorem dX7_warOf_12 : decode cX7_warOf 12 = .ok (.istore 7, 2) := by decide +kernel
theorem dX7_warOf_14 : decode cX7_warOf 14 = .ok (.iload 7, 2) := by decide +kernel
theorem dX7_warOf_16 : decode cX7_warOf 16 = .ok (.ifCond .lt 68, 3) := by decide +kernel
theorem dX7_warOf_19 : decode cX7_warOf 19 = .ok (.iconst 1, 1) := by decide +kernel
theorem dX7_warOf_20 : decode cX7_warOf 20 = .ok (.aload_n 0, 1) := by decide +kernel
theorem dX7_warOf_21 : decode cX7_warOf 21 = .ok (.iload 7, 2) := by decide +kernel
theorem dX7_warOf_23 : decode cX7_warOf 23 = .ok (.iconst 1, 1) := by decide +kernel
theorem dX7_warOf_24 : decode cX7_warOf 24 = .ok (.invokevirtual 67, 3) := by decide +kernel
theorem dX7_warOf_27 : decode cX7_warOf 27 = .ok (.ishl, 1) := by decide +kernel
theorem dX7_warOf_28 : decode cX7_warOf 28 = .ok (.istore 8, 2) := by decide +kernel
theorem dX7_warOf_30 : decode cX7_warOf 30 = .ok (.iload 5, 2) := by decide +kernel
theorem dX7_warOf_32 : decode cX7_warOf 32 = .ok (.iload_n 3, 1) := by decide +kernel
theorem dX7_warOf_33 : decode cX7_warOf 33 = .ok (.iconst 2, 1) := by decide +kernel
theorem dX7_warOf_34 : decode cX7_warOf 34 = .ok (.irem, 1) := by decide +kernel
theorem dX7_warOf_35 : decode cX7_warOf 35 = .ok (.ifCond .ne 8, 3) := by decide +kernel
theorem dX7_warOf_38 : decode cX7_warOf 38 = .ok (.iload 8, 2) := by decide +kernel
theorem dX7_warOf_40 : decode cX7_warOf 40 = .ok (.goto 4, 3) := by decide +kernel
theorem dX7_warOf_43 : decode cX7_warOf 43 = .ok (.iconst 0, 1) := by decide +kernel
theorem dX7_warOf_44 : decode cX7_warOf 44 = .ok (.ior, 1) := by decide +kernel
theorem dX7_warOf_45 : decode cX7_warOf 45 = .ok (.istore 5, 2) := by decide +kernel
theorem dX7_warOf_47 : decode cX7_warOf 47 = .ok (.iload 6, 2) := by decide +kernel
theorem dX7_warOf_49 : decode cX7_warOf 49 = .ok (.iload_n 3, 1) := by decide +kernel
theorem dX7_warOf_50 : decode cX7_warOf 50 = .ok (.iconst 2, 1) := by decide +kernel
theorem dX7_warOf_51 : decode cX7_warOf 51 = .ok (.irem, 1) := by decide +kernel
theorem dX7_warOf_52 : decode cX7_warOf 52 = .ok (.iconst 1, 1) := by decide +kernel
theorem dX7_warOf_53 : decode cX7_warOf 53 = .ok (.if_icmp .ne 8, 3) := by decide +kernel
theorem dX7_warOf_56 : decode cX7_warOf 56 = .ok (.iload 8, 2) := by decide +kernel
theorem dX7_warOf_58 : decode cX7_warOf 58 = .ok (.goto 4, 3) := by decide +kernel
theorem dX7_warOf_61 : decode cX7_warOf 61 = .ok (.iconst 0, 1) := by decide +kernel
theorem dX7_warOf_62 : decode cX7_warOf 62 = .ok (.ior, 1) := by decide +kernel
theorem dX7_warOf_63 : decode cX7_warOf 63 = .ok (.istore 6, 2) := by decide +kernel
theorem dX7_warOf_65 : decode cX7_warOf 65 = .ok (.iload 7, 2) := by decide +kernel
theorem dX7_warOf_67 : decode cX7_warOf 67 = .ok (.istore 4, 2) := by decide +kernel
theorem dX7_warOf_69 : decode cX7_warOf 69 = .ok (.iinc 3 1, 3) := by decide +kernel
theorem dX7_warOf_72 : decode cX7_warOf 72 = .ok (.aload_n 0, 1) := by decide +kernel
theorem dX7_warOf_73 : decode cX7_warOf 73 = .ok (.getfield 37, 3) := by decide +kernel
theorem dX7_warOf_76 : decode cX7_warOf 76 = .ok (.iload 7, 2) := by decide +kernel
theorem dX7_warOf_78 : decode cX7_warOf 78 = .ok (.iaload, 1) := by decide +kernel
theorem dX7_warOf_79 : decode cX7_warOf 79 = .ok (.istore 7, 2) := by decide +kernel
theorem dX7_warOf_81 : decode cX7_warOf 81 = .ok (.goto (-67), 3) := by decide +kernel
theorem dX7_warOf_84 : decode cX7_warOf 84 = .ok (.iload_n 2, 1) := by decide +kernel
theorem dX7_warOf_85 : decode cX7_warOf 85 = .ok (.ifCond .ne 7, 3) := by decide +kernel
theorem dX7_warOf_88 : decode cX7_warOf 88 = .ok (.iload_n 3, 1) := by decide +kernel
theorem dX7_warOf_89 : decode cX7_warOf 89 = .ok (.goto 25, 3) := by decide +kernel
theorem dX7_warOf_92 : decode cX7_warOf 92 = .ok (.iload_n 2, 1) := by decide +kernel
theorem dX7_warOf_93 : decode cX7_warOf 93 = .ok (.iconst 1, 1) := by decide +kernel
theorem dX7_warOf_94 : decode cX7_warOf 94 = .ok (.if_icmp .ne 8, 3) := by decide +kernel
theorem dX7_warOf_97 : decode cX7_warOf 97 = .ok (.iload 4, 2) := by decide +kernel
theorem dX7_warOf_99 : decode cX7_warOf 99 = .ok (.goto 15, 3) := by decide +kernel
theorem dX7_warOf_102 : decode cX7_warOf 102 = .ok (.iload_n 2, 1) := by decide +kernel
theorem dX7_warOf_103 : decode cX7_warOf 103 = .ok (.iconst 2, 1) := by decide +kernel
theorem dX7_warOf_104 : decode cX7_warOf 104 = .ok (.if_icmp .ne 8, 3) := by decide +kernel
theorem dX7_warOf_107 : decode cX7_warOf 107 = .ok (.iload 5, 2) := by decide +kernel
theorem dX7_warOf_109 : decode cX7_warOf 109 = .ok (.goto 5, 3) := by decide +kernel
theorem dX7_warOf_112 : decode cX7_warOf 112 = .ok (.iload 6, 2) := by decide +kernel
theorem dX7_warOf_114 : decode cX7_warOf 114 = .ok (.ireturn, 1) := by decide +kernel
set_option maxRecDepth 20000 in
theorem ggX7_war_X7_isAct : GoodIn wsX7_war wsX7_isAct := goodIn_r _ [5, 6, 7, 8, 4, 9, 41, 42, 43, 44, 45, 46, 47, 48, 49, 50, 51, 52, 53, 54, 55, 56, 57, 58, 59, 60, 61, 62, 63, 64] rfl (by decide +kernel)
set_option maxRecDepth 20000 in
theorem gX7_war_X7_isAct : GoodIn wsX7_war (wsV RX7 146 RX7 yX7_isAct wsX7_isAct) := goodIn_app (goodIn_r _ [1, 2, 3, 4] rfl (by decide +kernel)) ggX7_war_X7_isAct
set_option maxRecDepth 20000 in
theorem ggX7_war_X7_in : GoodIn wsX7_war wsX7_in := goodIn_r _ [9] rfl (by decide +kernel)
set_option maxRecDepth 20000 in
theorem gX7_war_X7_in : GoodIn wsX7_war (va_wsS RX7 56 yX7_in wsX7_in) := goodIn_app (goodIn_r _ [7, 8, 4] rfl (by decide +kernel)) ggX7_war_X7_in
set_option maxRecDepth 20000 in
theorem ggX7_war_X7_error : GoodIn wsX7_war wsX7_error := goodIn_r _ [13, 14, 15, 41, 42, 43, 44, 45, 46, 47, 48, 49, 50, 51, 52, 53, 54, 55, 56, 57, 58, 59, 60, 61, 62, 63, 64] rfl (by decide +kernel)
set_option maxRecDepth 20000 in
theorem gX7_war_X7_error : GoodIn wsX7_war (wsV RX7 64 RX7 yX7_error wsX7_error) := goodIn_app (goodIn_r _ [10, 11, 12, 4] rfl (by decide +kernel)) ggX7_war_X7_error
set_option maxRecDepth 20000 in
theorem ggX7_war_X7_findUndone : GoodIn wsX7_war wsX7_findUndone := goodIn_r _ [19, 6, 20, 21, 22, 23, 4, 24, 25, 26, 27, 28, 29, 30, 31, 32, 41, 42, 43, 44, 45, 46, 47, 48, 49, 50, 51, 52, 53, 54, 55, 56, 57, 58, 59, 60, 61, 62, 63, 64] rfl (by decide +kernel)
set_option maxRecDepth 20000 in
theorem gX7_war_X7_findUndone : GoodIn wsX7_war (wsV RX7 102 RX7 yX7_findUndone wsX7_findUndone) := goodIn_app (goodIn_r _ [16, 17, 18, 4] rfl (by decide +kernel)) ggX7_war_X7_findUndone
set_option maxRecDepth 20000 in
theorem ggX7_war_X7_warOf : GoodIn wsX7_war wsX7_warOf := goodIn_r _ [36, 20, 37, 38, 39, 4, 40, 6, 41, 42, 43, 44, 45, 46, 47, 48, 49, 50, 51, 52, 53, 54, 55, 56, 57, 58, 59, 60, 61, 62, 63, 64] rfl (by decide +kernel)
set_option maxRecDepth 20000 in
theorem gX7_war_X7_warOf : GoodIn wsX7_war (wsV RX7 216 RX7 yX7_warOf wsX7_warOf) := goodIn_app (goodIn_r _ [33, 34, 35, 4] rfl (by decide +kernel)) ggX7_war_X7_warOf
theorem dX7_war_0 : decode cX7_war 0 = .ok (.aload_n 0, 1) := by decide +kernel
theorem dX7_war_1 : decode cX7_war 1 = .ok (.iload_n 1, 1) := by decide +kernel
theorem dX7_war_2 : decode cX7_war 2 = .ok (.invokevirtual 146, 3) := by decide +kernel
theorem dX7_war_5 : decode cX7_war 5 = .ok (.ifCond .eq 12, 3) := by decide +kernel
theorem dX7_war_8 : decode cX7_war 8 = .ok (.iload_n 2, 1) := by decide +kernel
theorem dX7_war_9 : decode cX7_war 9 = .ok (.iconst 0, 1) := by decide +kernel
theorem dX7_war_10 : decode cX7_war 10 = .ok (.iconst 3, 1) := by decide +kernel
theorem dX7_war_11 : decode cX7_war 11 = .ok (.invokestatic 56, 3) := by decide +kernel
theorem dX7_war_14 : decode cX7_war 14 = .ok (.ifCond .ne 9, 3) := by decide +kernel
theorem dX7_war_17 : decode cX7_war 17 = .ok (.aload_n 0, 1) := by decide +kernel
theorem dX7_war_18 : decode cX7_war 18 = .ok (.iconst 1, 1) := by decide +kernel
theorem dX7_war_19 : decode cX7_war 19 = .ok (.invokevirtual 64, 3) := by decide +kernel
theorem dX7_war_22 : decode cX7_war 22 = .ok (.ireturn, 1) := by decide +kernel
theorem dX7_war_23 : decode cX7_war 23 = .ok (.aload_n 0, 1) := by decide +kernel
theorem dX7_war_24 : decode cX7_war 24 = .ok (.invokevirtual 102, 3) := by decide +kernel
theorem dX7_war_27 : decode cX7_war 27 = .ok (.aload_n 0, 1) := by decide +kernel
theorem dX7_war_28 : decode cX7_war 28 = .ok (.iload_n 1, 1) := by decide +kernel
theorem dX7_war_29 : decode cX7_war 29 = .ok (.iload_n 2, 1) := by decide +kernel
theorem dX7_war_30 : decode cX7_war 30 = .ok (.invokevirtual 216, 3) := by decide +kernel
theorem dX7_war_33 : decode cX7_war 33 = .ok (.ireturn, 1) := by decide +kernel
set_option maxRecDepth 20000 in
theorem ggX7_longest_X7_error : GoodIn wsX7_longest wsX7_error := goodIn_r _ [6, 7, 8, 34, 35, 36, 37, 38, 39, 40, 41, 42, 43, 44, 45, 46, 47, 48, 49, 50, 51, 52, 53, 54, 55, 56, 57] rfl (by decide +kernel)
set_option maxRecDepth 20000 in
theorem gX7_longest_X7_error : GoodIn wsX7_longest (wsV RX7 64 RX7 yX7_error wsX7_error) := goodIn_app (goodIn_r _ [2, 3, 4, 5] rfl (by decide +kernel)) ggX7_longest_X7_error
set_option maxRecDepth 20000 in
theorem ggX7_longest_X7_findUndone : GoodIn wsX7_longest wsX7_findUndone := goodIn_r _ [12, 1, 13, 14, 15, 16, 5, 17, 18, 19, 20, 21, 22, 23, 24, 25, 34, 35, 36, 37, 38, 39, 40, 41, 42, 43, 44, 45, 46, 47, 48, 49, 50, 51, 52, 53, 54, 55, 56, 57] rfl (by decide +kernel)
set_option maxRecDepth 20000 in
theorem gX7_longest_X7_findUndone : GoodIn wsX7_longest (wsV RX7 102 RX7 yX7_findUndone wsX7_findUndone) := goodIn_app (goodIn_r _ [9, 10, 11, 5] rfl (by decide +kernel)) ggX7_longest_X7_findUndone
set_option maxRecDepth 20000 in
theorem ggX7_longest_X7_warOf : GoodIn wsX7_longest wsX7_warOf := goodIn_r _ [29, 13, 30, 31, 32, 5, 33, 1, 34, 35, 36, 37, 38, 39, 40, 41, 42, 43, 44, 45, 46, 47, 48, 49, 50, 51, 52, 53, 54, 55, 56, 57] rfl (by decide +kernel)
set_option maxRecDepth 20000 in
theorem gX7_longest_X7_warOf : GoodIn wsX7_longest (wsV RX7 216 RX7 yX7_warOf wsX7_warOf) := goodIn_app (goodIn_r _ [26, 27, 28, 5] rfl (by decide +kernel)) ggX7_longest_X7_warOf
theorem dX7_longest_0 : decode cX7_longest 0 = .ok (.aload_n 0, 1) := by decide +kernel
theorem dX7_longest_1 : decode cX7_longest 1 = .ok (.getfield 7, 3) := by decide +kernel
theorem dX7_longest_4 : decode cX7_longest 4 = .ok (.iconst 1, 1) := by decide +kernel
theorem dX7_longest_5 : decode cX7_longest 5 = .ok (.iaload, 1) := by decide +kernel
theorem dX7_longest_6 : decode cX7_longest 6 = .ok (.ifCond .ne 9, 3) := by decide +kernel
theorem dX7_longest_9 : decode cX7_longest 9 = .ok (.aload_n 0, 1) := by decide +kernel
theorem dX7_longest_10 : decode cX7_longest 10 = .ok (.iconst 2, 1) := by decide +kernel
theorem dX7_longest_11 : decode cX7_longest 11 = .ok (.invokevirtual 64, 3) := by decide +kernel
theorem dX7_longest_14 : decode cX7_longest 14 = .ok (.ireturn, 1) := by decide +kernel
theorem dX7_longest_15 : decode cX7_longest 15 = .ok (.aload_n 0, 1) := by decide +kernel
theorem dX7_longest_16 : decode cX7_longest 16 = .ok (.invokevirtual 102, 3) := by decide +kernel
theorem dX7_longest_19 : decode cX7_longest 19 = .ok (.iconst 0, 1) := by decide +kernel
theorem dX7_longest_20 : decode cX7_longest 20 = .ok (.istore_n 1, 1) := by decide +kernel
theorem dX7_longest_21 : decode cX7_longest 21 = .ok (.iconst 1, 1) := by decide +kernel
theorem dX7_longest_22 : decode cX7_longest 22 = .ok (.istore_n 2, 1) := by decide +kernel
theorem dX7_longest_23 : decode cX7_longest 23 = .ok (.iload_n 2, 1) := by decide +kernel
theorem dX7_longest_24 : decode cX7_longest 24 = .ok (.aload_n 0, 1) := by decide +kernel
theorem dX7_longest_25 : decode cX7_longest 25 = .ok (.getfield 7, 3) := by decide +kernel
theorem dX7_longest_28 : decode cX7_longest 28 = .ok (.iconst 1, 1) := by decide +kernel
theorem dX7_longest_29 : decode cX7_longest 29 = .ok (.iaload, 1) := by decide +kernel
theorem dX7_longest_30 : decode cX7_longest 30 = .ok (.if_icmp .ge 30, 3) := by decide +kernel
theorem dX7_longest_33 : decode cX7_longest 33 = .ok (.aload_n 0, 1) := by decide +kernel
theorem dX7_longest_34 : decode cX7_longest 34 = .ok (.iload_n 2, 1) := by decide +kernel
theorem dX7_longest_35 : decode cX7_longest 35 = .ok (.iconst 0, 1) := by decide +kernel
theorem dX7_longest_36 : decode cX7_longest 36 = .ok (.invokevirtual 216, 3) := by decide +kernel
theorem dX7_longest_39 : decode cX7_longest 39 = .ok (.aload_n 0, 1) := by decide +kernel
theorem dX7_longest_40 : decode cX7_longest 40 = .ok (.iload_n 1, 1) := by decide +kernel
theorem dX7_longest_41 : decode cX7_longest 41 = .ok (.iconst 0, 1) := by decide +kernel
theorem dX7_longest_42 : decode cX7_longest 42 = .ok (.invokevirtual 216, 3) := by decide +kernel
theorem dX7_longest_45 : decode cX7_longest 45 = .ok (.if_icmp .le 7, 3) := by decide +kernel
theorem dX7_longest_48 : decode cX7_longest 48 = .ok (.iload_n 2, 1) := by decide +kernel
theorem dX7_longest_49 : decode cX7_longest 49 = .ok (.goto 4, 3) := by decide +kernel
theorem dX7_longest_52 : decode cX7_longest 52 = .ok (.iload_n 1, 1) := by decide +kernel
theorem dX7_longest_53 : decode cX7_longest 53 = .ok (.istore_n 1, 1) := by decide +kernel
theorem dX7_longest_54 : decode cX7_longest 54 = .ok (.iinc 2 1, 3) := by decide +kernel
theorem dX7_longest_57 : decode cX7_longest 57 = .ok (.goto (-34), 3) := by decide +kernel
theorem dX7_longest_60 : decode cX7_longest 60 = .ok (.iload_n 1, 1) := by decide +kernel
theorem dX7_longest_61 : decode cX7_longest 61 = .ok (.ireturn, 1) := by decide +kernel
set_option maxRecDepth 20000 in
theorem ggX7_minutesOf_X7_actIs1 : GoodIn wsX7_minutesOf wsX7_actIs1 := goodIn_r _ [6, 1, 7, 8, 9, 10, 11, 12, 13, 14, 15, 16, 17, 18, 19, 20, 21, 22, 23, 24, 25, 26, 27, 28, 29, 30] rfl (by decide +kernel)
set_option maxRecDepth 20000 in
theorem gX7_minutesOf_X7_actIs1 : GoodIn wsX7_minutesOf (wsV RX7 67 RX7 yX7_actIs1 wsX7_actIs1) := goodIn_app (goodIn_r _ [2, 3, 4, 5] rfl (by decide +kernel)) ggX7_minutesOf_X7_actIs1
theorem dX7_minutesOf_0 : decode cX7_minutesOf 0 = .ok (.iload_n 1, 1) := by decide +kernel
theorem dX7_minutesOf_1 : decode cX7_minutesOf 1 = .ok (.ifCond .ne 7, 3) := by decide +kernel
theorem dX7_minutesOf_4 : decode cX7_minutesOf 4 = .ok (.iconst 0, 1) := by decide +kernel
theorem dX7_minutesOf_5 : decode cX7_minutesOf 5 = .ok (.goto 11, 3) := by decide +kernel
theorem dX7_minutesOf_8 : decode cX7_minutesOf 8 = .ok (.aload_n 0, 1) := by decide +kernel
theorem dX7_minutesOf_9 : decode cX7_minutesOf 9 = .ok (.iload_n 1, 1) := by decide +kernel
theorem dX7_minutesOf_10 : decode cX7_minutesOf 10 = .ok (.iconst 1, 1) := by decide +kernel
theorem dX7_minutesOf_11 : decode cX7_minutesOf 11 = .ok (.isub, 1) := by decide +kernel
theorem dX7_minutesOf_12 : decode cX7_minutesOf 12 = .ok (.iconst 2, 1) := by decide +kernel
theorem dX7_minutesOf_13 : decode cX7_minutesOf 13 = .ok (.invokevirtual 67, 3) := by decide +kernel
theorem dX7_minutesOf_16 : decode cX7_minutesOf 16 = .ok (.istore_n 2, 1) := by decide +kernel
theorem dX7_minutesOf_17 : decode cX7_minutesOf 17 = .ok (.iload_n 1, 1) := by decide +kernel
theorem dX7_minutesOf_18 : decode cX7_minutesOf 18 = .ok (.aload_n 0, 1) := by decide +kernel
theorem dX7_minutesOf_19 : decode cX7_minutesOf 19 = .ok (.getfield 7, 3) := by decide +kernel
theorem dX7_minutesOf_22 : decode cX7_minutesOf 22 = .ok (.iconst 1, 1) := by decide +kernel
theorem dX7_minutesOf_23 : decode cX7_minutesOf 23 = .ok (.iaload, 1) := by decide +kernel
theorem dX7_minutesOf_24 : decode cX7_minutesOf 24 = .ok (.if_icmp .ne 12, 3) := by decide +kernel
theorem dX7_minutesOf_27 : decode cX7_minutesOf 27 = .ok (.aload_n 0, 1) := by decide +kernel
theorem dX7_minutesOf_28 : decode cX7_minutesOf 28 = .ok (.getfield 7, 3) := by decide +kernel
theorem dX7_minutesOf_31 : decode cX7_minutesOf 31 = .ok (.iconst 0, 1) := by decide +kernel
theorem dX7_minutesOf_32 : decode cX7_minutesOf 32 = .ok (.iaload, 1) := by decide +kernel
theorem dX7_minutesOf_33 : decode cX7_minutesOf 33 = .ok (.goto 9, 3) := by decide +kernel
theorem dX7_minutesOf_36 : decode cX7_minutesOf 36 = .ok (.aload_n 0, 1) := by decide +kernel
theorem dX7_minutesOf_37 : decode cX7_minutesOf 37 = .ok (.iload_n 1, 1) := by decide +kernel
theorem dX7_minutesOf_38 : decode cX7_minutesOf 38 = .ok (.iconst 2, 1) := by decide +kernel
theorem dX7_minutesOf_39 : decode cX7_minutesOf 39 = .ok (.invokevirtual 67, 3) := by decide +kernel
theorem dX7_minutesOf_42 : decode cX7_minutesOf 42 = .ok (.istore_n 3, 1) := by decide +kernel
theorem dX7_minutesOf_43 : decode cX7_minutesOf 43 = .ok (.iload_n 3, 1) := by decide +kernel
theorem dX7_minutesOf_44 : decode cX7_minutesOf 44 = .ok (.iload_n 2, 1) := by decide +kernel
theorem dX7_minutesOf_45 : decode cX7_minutesOf 45 = .ok (.isub, 1) := by decide +kernel
theorem dX7_minutesOf_46 : decode cX7_minutesOf 46 = .ok (.ireturn, 1) := by decide +kernel
set_option maxRecDepth 20000 in
theorem ggX7_staysOf_X7_sizeOf : GoodIn wsX7_staysOf wsX7_sizeOf := goodIn_r _ [6, 1, 19, 20, 21, 22, 23, 24, 25, 26, 27, 28, 29, 30, 31, 32, 33, 34, 35, 36, 37, 38, 39, 40, 41, 42] rfl (by decide +kernel)
set_option maxRecDepth 20000 in
theorem gX7_staysOf_X7_sizeOf : GoodIn wsX7_staysOf (wsV RX7 60 RX7 yX7_sizeOf wsX7_sizeOf) := goodIn_app (goodIn_r _ [2, 3, 4, 5] rfl (by decide +kernel)) ggX7_staysOf_X7_sizeOf
set_option maxRecDepth 20000 in
theorem ggX7_staysOf_X7_originAt : GoodIn wsX7_staysOf wsX7_originAt := goodIn_r _ [10, 1, 19, 20, 21, 22, 23, 24, 25, 26, 27, 28, 29, 30, 31, 32, 33, 34, 35, 36, 37, 38, 39, 40, 41, 42] rfl (by decide +kernel)
set_option maxRecDepth 20000 in
theorem gX7_staysOf_X7_originAt : GoodIn wsX7_staysOf (wsV RX7 99 RX7 yX7_originAt wsX7_originAt) := goodIn_app (goodIn_r _ [7, 8, 9, 5] rfl (by decide +kernel)) ggX7_staysOf_X7_originAt
set_option maxRecDepth 20000 in
theorem ggX7_staysOf_X7_minutesOf : GoodIn wsX7_staysOf wsX7_minutesOf := goodIn_r _ [14, 1, 15, 16, 17, 5, 18, 19, 20, 21, 22, 23, 24, 25, 26, 27, 28, 29, 30, 31, 32, 33, 34, 35, 36, 37, 38, 39, 40, 41, 42] rfl (by decide +kernel)
set_option maxRecDepth 20000 in
theorem gX7_staysOf_X7_minutesOf : GoodIn wsX7_staysOf (wsV RX7 219 RX7 yX7_minutesOf wsX7_minutesOf) := goodIn_app (goodIn_r _ [11, 12, 13, 5] rfl (by decide +kernel)) ggX7_staysOf_X7_minutesOf
theorem dX7_staysOf_0 : decode cX7_staysOf 0 = .ok (.iconst 0, 1) := by decide +kernel
theorem dX7_staysOf_1 : decode cX7_staysOf 1 = .ok (.istore_n 2, 1) := by decide +kernel
theorem dX7_staysOf_2 : decode cX7_staysOf 2 = .ok (.iload_n 1, 1) := by decide +kernel
theorem dX7_staysOf_3 : decode cX7_staysOf 3 = .ok (.iconst 1, 1) := by decide +kernel
theorem dX7_staysOf_4 : decode cX7_staysOf 4 = .ok (.iadd, 1) := by decide +kernel
theorem dX7_staysOf_5 : decode cX7_staysOf 5 = .ok (.istore_n 3, 1) := by decide +kernel
theorem dX7_staysOf_6 : decode cX7_staysOf 6 = .ok (.iload_n 3, 1) := by decide +kernel
theorem dX7_staysOf_7 : decode cX7_staysOf 7 = .ok (.aload_n 0, 1) := by decide +kernel
theorem dX7_staysOf_8 : decode cX7_staysOf 8 = .ok (.getfield 7, 3) := by decide +kernel
theorem dX7_staysOf_11 : decode cX7_staysOf 11 = .ok (.iconst 1, 1) := by decide +kernel
theorem dX7_staysOf_12 : decode cX7_staysOf 12 = .ok (.iaload, 1) := by decide +kernel
theorem dX7_staysOf_13 : decode cX7_staysOf 13 = .ok (.if_icmp .gt 51, 3) := by decide +kernel
theorem dX7_staysOf_16 : decode cX7_staysOf 16 = .ok (.iconst 0, 1) := by decide +kernel
theorem dX7_staysOf_17 : decode cX7_staysOf 17 = .ok (.istore 4, 2) := by decide +kernel
theorem dX7_staysOf_19 : decode cX7_staysOf 19 = .ok (.iload 4, 2) := by decide +kernel
theorem dX7_staysOf_21 : decode cX7_staysOf 21 = .ok (.aload_n 0, 1) := by decide +kernel
theorem dX7_staysOf_22 : decode cX7_staysOf 22 = .ok (.iload_n 3, 1) := by decide +kernel
theorem dX7_staysOf_23 : decode cX7_staysOf 23 = .ok (.invokevirtual 60, 3) := by decide +kernel
theorem dX7_staysOf_26 : decode cX7_staysOf 26 = .ok (.if_icmp .ge 32, 3) := by decide +kernel
theorem dX7_staysOf_29 : decode cX7_staysOf 29 = .ok (.iload_n 2, 1) := by decide +kernel
theorem dX7_staysOf_30 : decode cX7_staysOf 30 = .ok (.aload_n 0, 1) := by decide +kernel
theorem dX7_staysOf_31 : decode cX7_staysOf 31 = .ok (.iload_n 3, 1) := by decide +kernel
theorem dX7_staysOf_32 : decode cX7_staysOf 32 = .ok (.iload 4, 2) := by decide +kernel
theorem dX7_staysOf_34 : decode cX7_staysOf 34 = .ok (.invokevirtual 99, 3) := by decide +kernel
theorem dX7_staysOf_37 : decode cX7_staysOf 37 = .ok (.iload_n 1, 1) := by decide +kernel
theorem dX7_staysOf_38 : decode cX7_staysOf 38 = .ok (.if_icmp .ne 11, 3) := by decide +kernel
theorem dX7_staysOf_41 : decode cX7_staysOf 41 = .ok (.aload_n 0, 1) := by decide +kernel
theorem dX7_staysOf_42 : decode cX7_staysOf 42 = .ok (.iload_n 3, 1) := by decide +kernel
theorem dX7_staysOf_43 : decode cX7_staysOf 43 = .ok (.invokevirtual 219, 3) := by decide +kernel
theorem dX7_staysOf_46 : decode cX7_staysOf 46 = .ok (.goto 4, 3) := by decide +kernel
theorem dX7_staysOf_49 : decode cX7_staysOf 49 = .ok (.iconst 0, 1) := by decide +kernel
theorem dX7_staysOf_50 : decode cX7_staysOf 50 = .ok (.iadd, 1) := by decide +kernel
theorem dX7_staysOf_51 : decode cX7_staysOf 51 = .ok (.istore_n 2, 1) := by decide +kernel
theorem dX7_staysOf_52 : decode cX7_staysOf 52 = .ok (.iinc 4 1, 3) := by decide +kernel
theorem dX7_staysOf_55 : decode cX7_staysOf 55 = .ok (.goto (-36), 3) := by decide +kernel
theorem dX7_staysOf_58 : decode cX7_staysOf 58 = .ok (.iinc 3 1, 3) := by decide +kernel
theorem dX7_staysOf_61 : decode cX7_staysOf 61 = .ok (.goto (-55), 3) := by decide +kernel
theorem dX7_staysOf_64 : decode cX7_staysOf 64 = .ok (.iload_n 2, 1) := by decide +kernel
theorem dX7_staysOf_65 : decode cX7_staysOf 65 = .ok (.ireturn, 1) := by decide +kernel
set_option maxRecDepth 20000 in
theorem ggX7_stays_X7_isAct : GoodIn wsX7_stays wsX7_isAct := goodIn_r _ [5, 6, 7, 8, 4, 9, 36, 37, 38, 39, 40, 41, 42, 43, 44, 45, 46, 47, 48, 49, 50, 51, 52, 53, 54, 55, 56, 57, 58, 59] rfl (by decide +kernel)
set_option maxRecDepth 20000 in
theorem gX7_stays_X7_isAct : GoodIn wsX7_stays (wsV RX7 146 RX7 yX7_isAct wsX7_isAct) := goodIn_app (goodIn_r _ [1, 2, 3, 4] rfl (by decide +kernel)) ggX7_stays_X7_isAct
set_option maxRecDepth 20000 in
theorem ggX7_stays_X7_staysOf : GoodIn wsX7_stays wsX7_staysOf := goodIn_r _ [13, 6, 14, 15, 16, 4, 17, 18, 19, 20, 21, 22, 23, 24, 25, 26, 27, 28, 29, 36, 37, 38, 39, 40, 41, 42, 43, 44, 45, 46, 47, 48, 49, 50, 51, 52, 53, 54, 55, 56, 57, 58, 59] rfl (by decide +kernel)
set_option maxRecDepth 20000 in
theorem gX7_stays_X7_staysOf : GoodIn wsX7_stays (wsV RX7 222 RX7 yX7_staysOf wsX7_staysOf) := goodIn_app (goodIn_r _ [10, 11, 12, 4] rfl (by decide +kernel)) ggX7_stays_X7_staysOf
set_option maxRecDepth 20000 in
theorem ggX7_stays_X7_error : GoodIn wsX7_stays wsX7_error := goodIn_r _ [33, 34, 35, 36, 37, 38, 39, 40, 41, 42, 43, 44, 45, 46, 47, 48, 49, 50, 51, 52, 53, 54, 55, 56, 57, 58, 59] rfl (by decide +kernel)
set_option maxRecDepth 20000 in
theorem gX7_stays_X7_error : GoodIn wsX7_stays (wsV RX7 64 RX7 yX7_error wsX7_error) := goodIn_app (goodIn_r _ [30, 31, 32, 4] rfl (by decide +kernel)) ggX7_stays_X7_error
theorem dX7_stays_0 : decode cX7_stays 0 = .ok (.aload_n 0, 1) := by decide +kernel
theorem dX7_stays_1 : decode cX7_stays 1 = .ok (.iload_n 1, 1) := by decide +kernel
theorem dX7_stays_2 : decode cX7_stays 2 = .ok (.invokevirtual 146, 3) := by decide +kernel
theorem dX7_stays_5 : decode cX7_stays 5 = .ok (.ifCond .eq 11, 3) := by decide +kernel
theorem dX7_stays_8 : decode cX7_stays 8 = .ok (.aload_n 0, 1) := by decide +kernel
theorem dX7_stays_9 : decode cX7_stays 9 = .ok (.iload_n 1, 1) := by decide +kernel
theorem dX7_stays_10 : decode cX7_stays 10 = .ok (.invokevirtual 222, 3) := by decide +kernel
theorem dX7_stays_13 : decode cX7_stays 13 = .ok (.goto 8, 3) := by decide +kernel
theorem dX7_stays_16 : decode cX7_stays 16 = .ok (.aload_n 0, 1) := by decide +kernel
theorem dX7_stays_17 : decode cX7_stays 17 = .ok (.iconst 1, 1) := by decide +kernel
theorem dX7_stays_18 : decode cX7_stays 18 = .ok (.invokevirtual 64, 3) := by decide +kernel
theorem dX7_stays_21 : decode cX7_stays 21 = .ok (.ireturn, 1) := by decide +kernel
set_option maxRecDepth 20000 in
theorem ggX7_offSince_X7_actIs1 : GoodIn wsX7_offSince wsX7_actIs1 := goodIn_r _ [7, 1, 8, 9, 10, 11, 12, 13, 14, 15, 16, 17, 18, 19, 20, 21, 22, 23, 24, 25, 26, 27, 28, 29, 30, 31] rfl (by decide +kernel)
set_option maxRecDepth 20000 in
theorem gX7_offSince_X7_actIs1 : GoodIn wsX7_offSince (wsV RX7 67 RX7 yX7_actIs1 wsX7_actIs1) := goodIn_app (goodIn_r _ [3, 4, 5, 6] rfl (by decide +kernel)) ggX7_offSince_X7_actIs1
theorem dX7_offSince_0 : decode cX7_offSince 0 = .ok (.iconst 0, 1) := by decide +kernel
theorem dX7_offSince_1 : decode cX7_offSince 1 = .ok (.istore_n 2, 1) := by decide +kernel
theorem dX7_offSince_2 : decode cX7_offSince 2 = .ok (.iconst 0, 1) := by decide +kernel
theorem dX7_offSince_3 : decode cX7_offSince 3 = .ok (.istore_n 3, 1) := by decide +kernel
theorem dX7_offSince_4 : decode cX7_offSince 4 = .ok (.iload_n 3, 1) := by decide +kernel
theorem dX7_offSince_5 : decode cX7_offSince 5 = .ok (.aload_n 0, 1) := by decide +kernel
theorem dX7_offSince_6 : decode cX7_offSince 6 = .ok (.getfield 7, 3) := by decide +kernel
theorem dX7_offSince_9 : decode cX7_offSince 9 = .ok (.iconst 1, 1) := by decide +kernel
theorem dX7_offSince_10 : decode cX7_offSince 10 = .ok (.iaload, 1) := by decide +kernel
theorem dX7_offSince_11 : decode cX7_offSince 11 = .ok (.if_icmp .ge 76, 3) := by decide +kernel
theorem dX7_offSince_14 : decode cX7_offSince 14 = .ok (.iconst 0, 1) := by decide +kernel
theorem dX7_offSince_15 : decode cX7_offSince 15 = .ok (.istore 4, 2) := by decide +kernel
theorem dX7_offSince_17 : decode cX7_offSince 17 = .ok (.iload 4, 2) := by decide +kernel
theorem dX7_offSince_19 : decode cX7_offSince 19 = .ok (.iload_n 3, 1) := by decide +kernel
theorem dX7_offSince_20 : decode cX7_offSince 20 = .ok (.if_icmp .ge 49, 3) := by decide +kernel
theorem dX7_offSince_23 : decode cX7_offSince 23 = .ok (.aload_n 0, 1) := by decide +kernel
theorem dX7_offSince_24 : decode cX7_offSince 24 = .ok (.iload_n 3, 1) := by decide +kernel
theorem dX7_offSince_25 : decode cX7_offSince 25 = .ok (.iconst 1, 1) := by decide +kernel
theorem dX7_offSince_26 : decode cX7_offSince 26 = .ok (.invokevirtual 67, 3) := by decide +kernel
theorem dX7_offSince_29 : decode cX7_offSince 29 = .ok (.iload_n 1, 1) := by decide +kernel
theorem dX7_offSince_30 : decode cX7_offSince 30 = .ok (.if_icmp .eq 39, 3) := by decide +kernel
theorem dX7_offSince_33 : decode cX7_offSince 33 = .ok (.iload_n 2, 1) := by decide +kernel
theorem dX7_offSince_34 : decode cX7_offSince 34 = .ok (.aload_n 0, 1) := by decide +kernel
theorem dX7_offSince_35 : decode cX7_offSince 35 = .ok (.getfield 37, 3) := by decide +kernel
theorem dX7_offSince_38 : decode cX7_offSince 38 = .ok (.iload 4, 2) := by decide +kernel
theorem dX7_offSince_40 : decode cX7_offSince 40 = .ok (.iaload, 1) := by decide +kernel
theorem dX7_offSince_41 : decode cX7_offSince 41 = .ok (.iload_n 3, 1) := by decide +kernel
theorem dX7_offSince_42 : decode cX7_offSince 42 = .ok (.if_icmp .ne 18, 3) := by decide +kernel
theorem dX7_offSince_45 : decode cX7_offSince 45 = .ok (.aload_n 0, 1) := by decide +kernel
theorem dX7_offSince_46 : decode cX7_offSince 46 = .ok (.iload 4, 2) := by decide +kernel
theorem dX7_offSince_48 : decode cX7_offSince 48 = .ok (.iconst 1, 1) := by decide +kernel
theorem dX7_offSince_49 : decode cX7_offSince 49 = .ok (.invokevirtual 67, 3) := by decide +kernel
theorem dX7_offSince_52 : decode cX7_offSince 52 = .ok (.iload_n 1, 1) := by decide +kernel
theorem dX7_offSince_53 : decode cX7_offSince 53 = .ok (.if_icmp .ne 7, 3) := by decide +kernel
theorem dX7_offSince_56 : decode cX7_offSince 56 = .ok (.iconst 1, 1) := by decide +kernel
theorem dX7_offSince_57 : decode cX7_offSince 57 = .ok (.goto 4, 3) := by decide +kernel
theorem dX7_offSince_60 : decode cX7_offSince 60 = .ok (.iconst 0, 1) := by decide +kernel
theorem dX7_offSince_61 : decode cX7_offSince 61 = .ok (.iadd, 1) := by decide +kernel
theorem dX7_offSince_62 : decode cX7_offSince 62 = .ok (.istore_n 2, 1) := by decide +kernel
theorem dX7_offSince_63 : decode cX7_offSince 63 = .ok (.iinc 4 1, 3) := by decide +kernel
theorem dX7_offSince_66 : decode cX7_offSince 66 = .ok (.goto (-49), 3) := by decide +kernel
theorem dX7_offSince_69 : decode cX7_offSince 69 = .ok (.iload_n 2, 1) := by decide +kernel
theorem dX7_offSince_70 : decode cX7_offSince 70 = .ok (.iconst 3, 1) := by decide +kernel
theorem dX7_offSince_71 : decode cX7_offSince 71 = .ok (.if_icmp .lt 10, 3) := by decide +kernel
theorem dX7_offSince_74 : decode cX7_offSince 74 = .ok (.aload_n 0, 1) := by decide +kernel
theorem dX7_offSince_75 : decode cX7_offSince 75 = .ok (.iload_n 3, 1) := by decide +kernel
theorem dX7_offSince_76 : decode cX7_offSince 76 = .ok (.iconst 2, 1) := by decide +kernel
theorem dX7_offSince_77 : decode cX7_offSince 77 = .ok (.invokevirtual 67, 3) := by decide +kernel
theorem dX7_offSince_80 : decode cX7_offSince 80 = .ok (.ireturn, 1) := by decide +kernel
theorem dX7_offSince_81 : decode cX7_offSince 81 = .ok (.iinc 3 1, 3) := by decide +kernel
theorem dX7_offSince_84 : decode cX7_offSince 84 = .ok (.goto (-80), 3) := by decide +kernel
theorem dX7_offSince_87 : decode cX7_offSince 87 = .ok (.iconst (-1), 1) := by decide +kernel
theorem dX7_offSince_88 : decode cX7_offSince 88 = .ok (.ireturn, 1) := by decide +kernel
set_option maxRecDepth 20000 in
theorem ggX7_writerIs_X7_isWriter : GoodIn wsX7_writerIs wsX7_isWriter := goodIn_r _ [6, 7, 8, 5, 9] rfl (by decide +kernel)
set_option maxRecDepth 20000 in
theorem gX7_writerIs_X7_isWriter : GoodIn wsX7_writerIs (va_wsS RX7 123 yX7_isWriter wsX7_isWriter) := goodIn_app (goodIn_r _ [3, 4, 5] rfl (by decide +kernel)) ggX7_writerIs_X7_isWriter
set_option maxRecDepth 20000 in
theorem ggX7_writerIs_X7_in : GoodIn wsX7_writerIs wsX7_in := goodIn_r _ [9] rfl (by decide +kernel)
set_option maxRecDepth 20000 in
theorem gX7_writerIs_X7_in : GoodIn wsX7_writerIs (va_wsS RX7 56 yX7_in wsX7_in) := goodIn_app (goodIn_r _ [7, 8, 5] rfl (by decide +kernel)) ggX7_writerIs_X7_in
set_option maxRecDepth 20000 in
theorem ggX7_writerIs_X7_error : GoodIn wsX7_writerIs wsX7_error := goodIn_r _ [13, 14, 15, 67, 68, 69, 70, 71, 72, 73, 74, 75, 76, 77, 78, 79, 80, 81, 82, 83, 84, 85, 86, 87, 88, 89, 90] rfl (by decide +kernel)
set_option maxRecDepth 20000 in
theorem gX7_writerIs_X7_error : GoodIn wsX7_writerIs (wsV RX7 64 RX7 yX7_error wsX7_error) := goodIn_app (goodIn_r _ [10, 11, 12, 5] rfl (by decide +kernel)) ggX7_writerIs_X7_error
set_option maxRecDepth 20000 in
theorem ggX7_writerIs_X7_findUndone : GoodIn wsX7_writerIs wsX7_findUndone := goodIn_r _ [19, 1, 2, 20, 21, 22, 5, 23, 24, 25, 26, 27, 28, 29, 30, 31, 67, 68, 69, 70, 71, 72, 73, 74, 75, 76, 77, 78, 79, 80, 81, 82, 83, 84, 85, 86, 87, 88, 89, 90] rfl (by decide +kernel)
set_option maxRecDepth 20000 in
theorem gX7_writerIs_X7_findUndone : GoodIn wsX7_writerIs (wsV RX7 102 RX7 yX7_findUndone wsX7_findUndone) := goodIn_app (goodIn_r _ [16, 17, 18, 5] rfl (by decide +kernel)) ggX7_writerIs_X7_findUndone
set_option maxRecDepth 20000 in
theorem ggX7_writerIs_X7_offSince : GoodIn wsX7_writerIs wsX7_offSince := goodIn_r _ [35, 1, 2, 36, 37, 38, 5, 39, 67, 68, 69, 70, 71, 72, 73, 74, 75, 76, 77, 78, 79, 80, 81, 82, 83, 84, 85, 86, 87, 88, 89, 90] rfl (by decide +kernel)
set_option maxRecDepth 20000 in
theorem gX7_writerIs_X7_offSince : GoodIn wsX7_writerIs (wsV RX7 225 RX7 yX7_offSince wsX7_offSince) := goodIn_app (goodIn_r _ [32, 33, 34, 5] rfl (by decide +kernel)) ggX7_writerIs_X7_offSince
set_option maxRecDepth 20000 in
theorem ggX7_writerIs_X7_wordsOf : GoodIn wsX7_writerIs wsX7_wordsOf := goodIn_r _ [43, 1, 44, 45, 46, 5, 47, 24, 25, 26, 27, 48, 49, 50, 51, 36, 37, 38, 39, 67, 68, 69, 70, 71, 72, 73, 74, 75, 76, 77, 78, 79, 80, 81, 82, 83, 84, 85, 86, 87, 88, 89, 90] rfl (by decide +kernel)
set_option maxRecDepth 20000 in
theorem gX7_writerIs_X7_wordsOf : GoodIn wsX7_writerIs (wsV RX7 201 RX7 yX7_wordsOf wsX7_wordsOf) := goodIn_app (goodIn_r _ [40, 41, 42, 5] rfl (by decide +kernel)) ggX7_writerIs_X7_wordsOf
set_option maxRecDepth 20000 in
theorem ggX7_writerIs_X7_backsOf : GoodIn wsX7_writerIs wsX7_backsOf := goodIn_r _ [55, 1, 36, 37, 38, 5, 39, 56, 57, 58, 67, 68, 69, 70, 71, 72, 73, 74, 75, 76, 77, 78, 79, 80, 81, 82, 83, 84, 85, 86, 87, 88, 89, 90] rfl (by decide +kernel)
set_option maxRecDepth 20000 in
theorem gX7_writerIs_X7_backsOf : GoodIn wsX7_writerIs (wsV RX7 79 RX7 yX7_backsOf wsX7_backsOf) := goodIn_app (goodIn_r _ [52, 53, 54, 5] rfl (by decide +kernel)) ggX7_writerIs_X7_backsOf
set_option maxRecDepth 20000 in
theorem ggX7_writerIs_X7_actIs1 : GoodIn wsX7_writerIs wsX7_actIs1 := goodIn_r _ [39, 1, 67, 68, 69, 70, 71, 72, 73, 74, 75, 76, 77, 78, 79, 80, 81, 82, 83, 84, 85, 86, 87, 88, 89, 90] rfl (by decide +kernel)
set_option maxRecDepth 20000 in
theorem gX7_writerIs_X7_actIs1 : GoodIn wsX7_writerIs (wsV RX7 67 RX7 yX7_actIs1 wsX7_actIs1) := goodIn_app (goodIn_r _ [36, 37, 38, 5] rfl (by decide +kernel)) ggX7_writerIs_X7_actIs1
set_option maxRecDepth 20000 in
theorem ggX7_writerIs_X7_staysOf : GoodIn wsX7_writerIs wsX7_staysOf := goodIn_r _ [62, 1, 24, 25, 26, 5, 27, 48, 49, 50, 51, 63, 64, 65, 66, 36, 37, 38, 39, 67, 68, 69, 70, 71, 72, 73, 74, 75, 76, 77, 78, 79, 80, 81, 82, 83, 84, 85, 86, 87, 88, 89, 90] rfl (by decide +kernel)
set_option maxRecDepth 20000 in
theorem gX7_writerIs_X7_staysOf : GoodIn wsX7_writerIs (wsV RX7 222 RX7 yX7_staysOf wsX7_staysOf) := goodIn_app (goodIn_r _ [59, 60, 61, 5] rfl (by decide +kernel)) ggX7_writerIs_X7_staysOf
theorem dX7_writerIs_0 : decode cX7_writerIs 0 = .ok (.iload_n 1, 1) := by decide +kernel
theorem dX7_writerIs_1 : decode cX7_writerIs 1 = .ok (.invokestatic 123, 3) := by decide +kernel
theorem dX7_writerIs_4 : decode cX7_writerIs 4 = .ok (.ifCond .eq 12, 3) := by decide +kernel
theorem dX7_writerIs_7 : decode cX7_writerIs 7 = .ok (.iload_n 2, 1) := by decide +kernel
theorem dX7_writerIs_8 : decode cX7_writerIs 8 = .ok (.iconst 0, 1) := by decide +kernel
theorem dX7_writerIs_9 : decode cX7_writerIs 9 = .ok (.iconst 4, 1) := by decide +kernel
theorem dX7_writerIs_10 : decode cX7_writerIs 10 = .ok (.invokestatic 56, 3) := by decide +kernel
theorem dX7_writerIs_13 : decode cX7_writerIs 13 = .ok (.ifCond .ne 9, 3) := by decide +kernel
theorem dX7_writerIs_16 : decode cX7_writerIs 16 = .ok (.aload_n 0, 1) := by decide +kernel
theorem dX7_writerIs_17 : decode cX7_writerIs 17 = .ok (.iconst 1, 1) := by decide +kernel
theorem dX7_writerIs_18 : decode cX7_writerIs 18 = .ok (.invokevirtual 64, 3) := by decide +kernel
theorem dX7_writerIs_21 : decode cX7_writerIs 21 = .ok (.ireturn, 1) := by decide +kernel
theorem dX7_writerIs_22 : decode cX7_writerIs 22 = .ok (.aload_n 0, 1) := by decide +kernel
theorem dX7_writerIs_23 : decode cX7_writerIs 23 = .ok (.invokevirtual 102, 3) := by decide +kernel
theorem dX7_writerIs_26 : decode cX7_writerIs 26 = .ok (.iload_n 2, 1) := by decide +kernel
theorem dX7_writerIs_27 : decode cX7_writerIs 27 = .ok (.iconst 4, 1) := by decide +kernel
theorem dX7_writerIs_28 : decode cX7_writerIs 28 = .ok (.if_icmp .ne 23, 3) := by decide +kernel
theorem dX7_writerIs_31 : decode cX7_writerIs 31 = .ok (.aload_n 0, 1) := by decide +kernel
theorem dX7_writerIs_32 : decode cX7_writerIs 32 = .ok (.iload_n 1, 1) := by decide +kernel
theorem dX7_writerIs_33 : decode cX7_writerIs 33 = .ok (.invokevirtual 225, 3) := by decide +kernel
theorem dX7_writerIs_36 : decode cX7_writerIs 36 = .ok (.istore_n 3, 1) := by decide +kernel
theorem dX7_writerIs_37 : decode cX7_writerIs 37 = .ok (.iload_n 3, 1) := by decide +kernel
theorem dX7_writerIs_38 : decode cX7_writerIs 38 = .ok (.ifCond .ge 11, 3) := by decide +kernel
theorem dX7_writerIs_41 : decode cX7_writerIs 41 = .ok (.aload_n 0, 1) := by decide +kernel
theorem dX7_writerIs_42 : decode cX7_writerIs 42 = .ok (.iconst 2, 1) := by decide +kernel
theorem dX7_writerIs_43 : decode cX7_writerIs 43 = .ok (.invokevirtual 64, 3) := by decide +kernel
theorem dX7_writerIs_46 : decode cX7_writerIs 46 = .ok (.goto 4, 3) := by decide +kernel
theorem dX7_writerIs_49 : decode cX7_writerIs 49 = .ok (.iload_n 3, 1) := by decide +kernel
theorem dX7_writerIs_50 : decode cX7_writerIs 50 = .ok (.ireturn, 1) := by decide +kernel
theorem dX7_writerIs_51 : decode cX7_writerIs 51 = .ok (.iload_n 2, 1) := by decide +kernel
theorem dX7_writerIs_52 : decode cX7_writerIs 52 = .ok (.ifCond .eq 8, 3) := by decide +kernel
theorem dX7_writerIs_55 : decode cX7_writerIs 55 = .ok (.iload_n 2, 1) := by decide +kernel
theorem dX7_writerIs_56 : decode cX7_writerIs 56 = .ok (.iconst 3, 1) := by decide +kernel
theorem dX7_writerIs_57 : decode cX7_writerIs 57 = .ok (.if_icmp .ne 21, 3) := by decide +kernel
theorem dX7_writerIs_60 : decode cX7_writerIs 60 = .ok (.iload_n 2, 1) := by decide +kernel
theorem dX7_writerIs_61 : decode cX7_writerIs 61 = .ok (.ifCond .ne 11, 3) := by decide +kernel
theorem dX7_writerIs_64 : decode cX7_writerIs 64 = .ok (.aload_n 0, 1) := by decide +kernel
theorem dX7_writerIs_65 : decode cX7_writerIs 65 = .ok (.iload_n 1, 1) := by decide +kernel
theorem dX7_writerIs_66 : decode cX7_writerIs 66 = .ok (.invokevirtual 201, 3) := by decide +kernel
theorem dX7_writerIs_69 : decode cX7_writerIs 69 = .ok (.goto 8, 3) := by decide +kernel
theorem dX7_writerIs_72 : decode cX7_writerIs 72 = .ok (.aload_n 0, 1) := by decide +kernel
theorem dX7_writerIs_73 : decode cX7_writerIs 73 = .ok (.iload_n 1, 1) := by decide +kernel
theorem dX7_writerIs_74 : decode cX7_writerIs 74 = .ok (.invokevirtual 79, 3) := by decide +kernel
theorem dX7_writerIs_77 : decode cX7_writerIs 77 = .ok (.ireturn, 1) := by decide +kernel
theorem dX7_writerIs_78 : decode cX7_writerIs 78 = .ok (.iconst 0, 1) := by decide +kernel
theorem dX7_writerIs_79 : decode cX7_writerIs 79 = .ok (.istore_n 3, 1) := by decide +kernel
theorem dX7_writerIs_80 : decode cX7_writerIs 80 = .ok (.iconst 0, 1) := by decide +kernel
theorem dX7_writerIs_81 : decode cX7_writerIs 81 = .ok (.istore 4, 2) := by decide +kernel
theorem dX7_writerIs_83 : decode cX7_writerIs 83 = .ok (.iload 4, 2) := by decide +kernel
theorem dX7_writerIs_85 : decode cX7_writerIs 85 = .ok (.aload_n 0, 1) := by decide +kernel
theorem dX7_writerIs_86 : decode cX7_writerIs 86 = .ok (.getfield 7, 3) := by decide +kernel
theorem dX7_writerIs_89 : decode cX7_writerIs 89 = .ok (.iconst 1, 1) := by decide +kernel
theorem dX7_writerIs_90 : decode cX7_writerIs 90 = .ok (.iaload, 1) := by decide +kernel
theorem dX7_writerIs_91 : decode cX7_writerIs 91 = .ok (.if_icmp .ge 68, 3) := by decide +kernel
theorem dX7_writerIs_94 : decode cX7_writerIs 94 = .ok (.aload_n 0, 1) := by decide +kernel
theorem dX7_writerIs_95 : decode cX7_writerIs 95 = .ok (.iload 4, 2) := by decide +kernel
theorem dX7_writerIs_97 : decode cX7_writerIs 97 = .ok (.iconst 1, 1) := by decide +kernel
theorem dX7_writerIs_98 : decode cX7_writerIs 98 = .ok (.invokevirtual 67, 3) := by decide +kernel
theorem dX7_writerIs_101 : decode cX7_writerIs 101 = .ok (.iload_n 1, 1) := by decide +kernel
theorem dX7_writerIs_102 : decode cX7_writerIs 102 = .ok (.if_icmp .ne 7, 3) := by decide +kernel
theorem dX7_writerIs_105 : decode cX7_writerIs 105 = .ok (.iconst 1, 1) := by decide +kernel
theorem dX7_writerIs_106 : decode cX7_writerIs 106 = .ok (.goto 4, 3) := by decide +kernel
theorem dX7_writerIs_109 : decode cX7_writerIs 109 = .ok (.iconst 0, 1) := by decide +kernel
theorem dX7_writerIs_110 : decode cX7_writerIs 110 = .ok (.istore 5, 2) := by decide +kernel
theorem dX7_writerIs_112 : decode cX7_writerIs 112 = .ok (.iload_n 3, 1) := by decide +kernel
theorem dX7_writerIs_113 : decode cX7_writerIs 113 = .ok (.iload 5, 2) := by decide +kernel
theorem dX7_writerIs_115 : decode cX7_writerIs 115 = .ok (.ifCond .ne 7, 3) := by decide +kernel
theorem dX7_writerIs_118 : decode cX7_writerIs 118 = .ok (.iconst 0, 1) := by decide +kernel
theorem dX7_writerIs_119 : decode cX7_writerIs 119 = .ok (.goto 32, 3) := by decide +kernel
theorem dX7_writerIs_122 : decode cX7_writerIs 122 = .ok (.iload_n 2, 1) := by decide +kernel
theorem dX7_writerIs_123 : decode cX7_writerIs 123 = .ok (.iconst 1, 1) := by decide +kernel
theorem dX7_writerIs_124 : decode cX7_writerIs 124 = .ok (.if_icmp .ne 12, 3) := by decide +kernel
theorem dX7_writerIs_127 : decode cX7_writerIs 127 = .ok (.aload_n 0, 1) := by decide +kernel
theorem dX7_writerIs_128 : decode cX7_writerIs 128 = .ok (.iload 4, 2) := by decide +kernel
theorem dX7_writerIs_130 : decode cX7_writerIs 130 = .ok (.invokevirtual 222, 3) := by decide +kernel
theorem dX7_writerIs_133 : decode cX7_writerIs 133 = .ok (.goto 18, 3) := by decide +kernel
theorem dX7_writerIs_136 : decode cX7_writerIs 136 = .ok (.aload_n 0, 1) := by decide +kernel
theorem dX7_writerIs_137 : decode cX7_writerIs 137 = .ok (.getfield 37, 3) := by decide +kernel
theorem dX7_writerIs_140 : decode cX7_writerIs 140 = .ok (.iload 4, 2) := by decide +kernel
theorem dX7_writerIs_142 : decode cX7_writerIs 142 = .ok (.iaload, 1) := by decide +kernel
theorem dX7_writerIs_143 : decode cX7_writerIs 143 = .ok (.ifCond .lt 7, 3) := by decide +kernel
theorem dX7_writerIs_146 : decode cX7_writerIs 146 = .ok (.iconst 1, 1) := by decide +kernel
theorem dX7_writerIs_147 : decode cX7_writerIs 147 = .ok (.goto 4, 3) := by decide +kernel
theorem dX7_writerIs_150 : decode cX7_writerIs 150 = .ok (.iconst 0, 1) := by decide +kernel
theorem dX7_writerIs_151 : decode cX7_writerIs 151 = .ok (.iadd, 1) := by decide +kernel
theorem dX7_writerIs_152 : decode cX7_writerIs 152 = .ok (.istore_n 3, 1) := by decide +kernel
theorem dX7_writerIs_153 : decode cX7_writerIs 153 = .ok (.iinc 4 1, 3) := by decide +kernel
theorem dX7_writerIs_156 : decode cX7_writerIs 156 = .ok (.goto (-73), 3) := by decide +kernel
theorem dX7_writerIs_159 : decode cX7_writerIs 159 = .ok (.iload_n 3, 1) := by decide +kernel
theorem dX7_writerIs_160 : decode cX7_writerIs 160 = .ok (.ireturn, 1) := by decide +kernel
set_option maxRecDepth 20000 in
theorem ggX7_readAt_X7_actIs1 : GoodIn wsX7_readAt wsX7_actIs1 := goodIn_r _ [6, 1, 7, 8, 9, 10, 11, 12, 13, 14, 15, 16, 17, 18, 19, 20, 21, 22, 23, 24, 25, 26, 27, 28, 29, 30] rfl (by decide +kernel)
set_option maxRecDepth 20000 in
theorem gX7_readAt_X7_actIs1 : GoodIn wsX7_readAt (wsV RX7 67 RX7 yX7_actIs1 wsX7_actIs1) := goodIn_app (goodIn_r _ [2, 3, 4, 5] rfl (by decide +kernel)) ggX7_readAt_X7_actIs1
theorem dX7_readAt_0 : decode cX7_readAt 0 = .ok (.iconst 0, 1) := by decide +kernel
theorem dX7_readAt_1 : decode cX7_readAt 1 = .ok (.istore_n 2, 1) := by decide +kernel
theorem dX7_readAt_2 : decode cX7_readAt 2 = .ok (.iload_n 2, 1) := by decide +kernel
theorem dX7_readAt_3 : decode cX7_readAt 3 = .ok (.aload_n 0, 1) := by decide +kernel
theorem dX7_readAt_4 : decode cX7_readAt 4 = .ok (.getfield 7, 3) := by decide +kernel
theorem dX7_readAt_7 : decode cX7_readAt 7 = .ok (.iconst 1, 1) := by decide +kernel
theorem dX7_readAt_8 : decode cX7_readAt 8 = .ok (.iaload, 1) := by decide +kernel
theorem dX7_readAt_9 : decode cX7_readAt 9 = .ok (.if_icmp .ge 19, 3) := by decide +kernel
theorem dX7_readAt_12 : decode cX7_readAt 12 = .ok (.aload_n 0, 1) := by decide +kernel
theorem dX7_readAt_13 : decode cX7_readAt 13 = .ok (.iload_n 2, 1) := by decide +kernel
theorem dX7_readAt_14 : decode cX7_readAt 14 = .ok (.iconst 2, 1) := by decide +kernel
theorem dX7_readAt_15 : decode cX7_readAt 15 = .ok (.invokevirtual 67, 3) := by decide +kernel
theorem dX7_readAt_18 : decode cX7_readAt 18 = .ok (.iload_n 1, 1) := by decide +kernel
theorem dX7_readAt_19 : decode cX7_readAt 19 = .ok (.if_icmp .gt 9, 3) := by decide +kernel
theorem dX7_readAt_22 : decode cX7_readAt 22 = .ok (.iinc 2 1, 3) := by decide +kernel
theorem dX7_readAt_25 : decode cX7_readAt 25 = .ok (.goto (-23), 3) := by decide +kernel
theorem dX7_readAt_28 : decode cX7_readAt 28 = .ok (.iload_n 2, 1) := by decide +kernel
theorem dX7_readAt_29 : decode cX7_readAt 29 = .ok (.ireturn, 1) := by decide +kernel
set_option maxRecDepth 20000 in
theorem ggX7_read_X7_in : GoodIn wsX7_read wsX7_in := goodIn_r _ [5] rfl (by decide +kernel)
set_option maxRecDepth 20000 in
theorem gX7_read_X7_in : GoodIn wsX7_read (va_wsS RX7 56 yX7_in wsX7_in) := goodIn_app (goodIn_r _ [2, 3, 4] rfl (by decide +kernel)) ggX7_read_X7_in
set_option maxRecDepth 20000 in
theorem ggX7_read_X7_readAt : GoodIn wsX7_read wsX7_readAt := goodIn_r _ [9, 1, 10, 11, 12, 4, 13, 20, 21, 22, 23, 24, 25, 26, 27, 28, 29, 30, 31, 32, 33, 34, 35, 36, 37, 38, 39, 40, 41, 42, 43] rfl (by decide +kernel)
set_option maxRecDepth 20000 in
theorem gX7_read_X7_readAt : GoodIn wsX7_read (wsV RX7 228 RX7 yX7_readAt wsX7_readAt) := goodIn_app (goodIn_r _ [6, 7, 8, 4] rfl (by decide +kernel)) ggX7_read_X7_readAt
set_option maxRecDepth 20000 in
theorem ggX7_read_X7_error : GoodIn wsX7_read wsX7_error := goodIn_r _ [17, 18, 19, 20, 21, 22, 23, 24, 25, 26, 27, 28, 29, 30, 31, 32, 33, 34, 35, 36, 37, 38, 39, 40, 41, 42, 43] rfl (by decide +kernel)
set_option maxRecDepth 20000 in
theorem gX7_read_X7_error : GoodIn wsX7_read (wsV RX7 64 RX7 yX7_error wsX7_error) := goodIn_app (goodIn_r _ [14, 15, 16, 4] rfl (by decide +kernel)) ggX7_read_X7_error
theorem dX7_read_0 : decode cX7_read 0 = .ok (.iload_n 1, 1) := by decide +kernel
theorem dX7_read_1 : decode cX7_read 1 = .ok (.iconst 0, 1) := by decide +kernel
theorem dX7_read_2 : decode cX7_read 2 = .ok (.aload_n 0, 1) := by decide +kernel
theorem dX7_read_3 : decode cX7_read 3 = .ok (.getfield 7, 3) := by decide +kernel
theorem dX7_read_6 : decode cX7_read 6 = .ok (.iconst 0, 1) := by decide +kernel
theorem dX7_read_7 : decode cX7_read 7 = .ok (.iaload, 1) := by decide +kernel
theorem dX7_read_8 : decode cX7_read 8 = .ok (.invokestatic 56, 3) := by decide +kernel
theorem dX7_read_11 : decode cX7_read 11 = .ok (.ifCond .eq 11, 3) := by decide +kernel
theorem dX7_read_14 : decode cX7_read 14 = .ok (.aload_n 0, 1) := by decide +kernel
theorem dX7_read_15 : decode cX7_read 15 = .ok (.iload_n 1, 1) := by decide +kernel
theorem dX7_read_16 : decode cX7_read 16 = .ok (.invokevirtual 228, 3) := by decide +kernel
theorem dX7_read_19 : decode cX7_read 19 = .ok (.goto 8, 3) := by decide +kernel
theorem dX7_read_22 : decode cX7_read 22 = .ok (.aload_n 0, 1) := by decide +kernel
theorem dX7_read_23 : decode cX7_read 23 = .ok (.iconst 1, 1) := by decide +kernel
theorem dX7_read_24 : decode cX7_read 24 = .ok (.invokevirtual 64, 3) := by decide +kernel
theorem dX7_read_27 : decode cX7_read 27 = .ok (.ireturn, 1) := by decide +kernel
theorem dX7_areMinutes_0 : decode cX7_areMinutes 0 = .ok (.iload_n 1, 1) := by decide +kernel
theorem dX7_areMinutes_1 : decode cX7_areMinutes 1 = .ok (.ifCond .lt 22, 3) := by decide +kernel
theorem dX7_areMinutes_4 : decode cX7_areMinutes 4 = .ok (.iload_n 1, 1) := by decide +kernel
theorem dX7_areMinutes_5 : decode cX7_areMinutes 5 = .ok (.iload_n 2, 1) := by decide +kernel
theorem dX7_areMinutes_6 : decode cX7_areMinutes 6 = .ok (.if_icmp .gt 17, 3) := by decide +kernel
theorem dX7_areMinutes_9 : decode cX7_areMinutes 9 = .ok (.iload_n 2, 1) := by decide +kernel
theorem dX7_areMinutes_10 : decode cX7_areMinutes 10 = .ok (.aload_n 0, 1) := by decide +kernel
theorem dX7_areMinutes_11 : decode cX7_areMinutes 11 = .ok (.getfield 7, 3) := by decide +kernel
theorem dX7_areMinutes_14 : decode cX7_areMinutes 14 = .ok (.iconst 0, 1) := by decide +kernel
theorem dX7_areMinutes_15 : decode cX7_areMinutes 15 = .ok (.iaload, 1) := by decide +kernel
theorem dX7_areMinutes_16 : decode cX7_areMinutes 16 = .ok (.if_icmp .gt 7, 3) := by decide +kernel
theorem dX7_areMinutes_19 : decode cX7_areMinutes 19 = .ok (.iconst 1, 1) := by decide +kernel
theorem dX7_areMinutes_20 : decode cX7_areMinutes 20 = .ok (.goto 4, 3) := by decide +kernel
theorem dX7_areMinutes_23 : decode cX7_areMinutes 23 = .ok (.iconst 0, 1) := by decide +kernel
theorem dX7_areMinutes_24 : decode cX7_areMinutes 24 = .ok (.ireturn, 1) := by decide +kernel
set_option maxRecDepth 20000 in
theorem ggX7_within_X7_actIs1 : GoodIn wsX7_within wsX7_actIs1 := goodIn_r _ [6, 1, 7, 8, 9, 10, 11, 12, 13, 14, 15, 16, 17, 18, 19, 20, 21, 22, 23, 24, 25, 26, 27, 28, 29, 30] rfl (by decide +kernel)
set_option maxRecDepth 20000 in
theorem gX7_within_X7_actIs1 : GoodIn wsX7_within (wsV RX7 67 RX7 yX7_actIs1 wsX7_actIs1) := goodIn_app (goodIn_r _ [2, 3, 4, 5] rfl (by decide +kernel)) ggX7_within_X7_actIs1
theorem dX7_within_0 : decode cX7_within 0 = .ok (.iload_n 1, 1) := by decide +kernel
theorem dX7_within_1 : decode cX7_within 1 = .ok (.ifCond .ne 7, 3) := by decide +kernel
theorem dX7_within_4 : decode cX7_within 4 = .ok (.iconst 0, 1) := by decide +kernel
theorem dX7_within_5 : decode cX7_within 5 = .ok (.goto 11, 3) := by decide +kernel
theorem dX7_within_8 : decode cX7_within 8 = .ok (.aload_n 0, 1) := by decide +kernel
theorem dX7_within_9 : decode cX7_within 9 = .ok (.iload_n 1, 1) := by decide +kernel
theorem dX7_within_10 : decode cX7_within 10 = .ok (.iconst 1, 1) := by decide +kernel
theorem dX7_within_11 : decode cX7_within 11 = .ok (.isub, 1) := by decide +kernel
theorem dX7_within_12 : decode cX7_within 12 = .ok (.iconst 2, 1) := by decide +kernel
theorem dX7_within_13 : decode cX7_within 13 = .ok (.invokevirtual 67, 3) := by decide +kernel
theorem dX7_within_16 : decode cX7_within 16 = .ok (.istore 4, 2) := by decide +kernel
theorem dX7_within_18 : decode cX7_within 18 = .ok (.iload_n 1, 1) := by decide +kernel
theorem dX7_within_19 : decode cX7_within 19 = .ok (.aload_n 0, 1) := by decide +kernel
theorem dX7_within_20 : decode cX7_within 20 = .ok (.getfield 7, 3) := by decide +kernel
theorem dX7_within_23 : decode cX7_within 23 = .ok (.iconst 1, 1) := by decide +kernel
theorem dX7_within_24 : decode cX7_within 24 = .ok (.iaload, 1) := by decide +kernel
theorem dX7_within_25 : decode cX7_within 25 = .ok (.if_icmp .ne 12, 3) := by decide +kernel
theorem dX7_within_28 : decode cX7_within 28 = .ok (.aload_n 0, 1) := by decide +kernel
theorem dX7_within_29 : decode cX7_within 29 = .ok (.getfield 7, 3) := by decide +kernel
theorem dX7_within_32 : decode cX7_within 32 = .ok (.iconst 0, 1) := by decide +kernel
theorem dX7_within_33 : decode cX7_within 33 = .ok (.iaload, 1) := by decide +kernel
theorem dX7_within_34 : decode cX7_within 34 = .ok (.goto 9, 3) := by decide +kernel
theorem dX7_within_37 : decode cX7_within 37 = .ok (.aload_n 0, 1) := by decide +kernel
theorem dX7_within_38 : decode cX7_within 38 = .ok (.iload_n 1, 1) := by decide +kernel
theorem dX7_within_39 : decode cX7_within 39 = .ok (.iconst 2, 1) := by decide +kernel
theorem dX7_within_40 : decode cX7_within 40 = .ok (.invokevirtual 67, 3) := by decide +kernel
theorem dX7_within_43 : decode cX7_within 43 = .ok (.istore 5, 2) := by decide +kernel
theorem dX7_within_45 : decode cX7_within 45 = .ok (.iload 4, 2) := by decide +kernel
theorem dX7_within_47 : decode cX7_within 47 = .ok (.iload_n 2, 1) := by decide +kernel
theorem dX7_within_48 : decode cX7_within 48 = .ok (.if_icmp .le 8, 3) := by decide +kernel
theorem dX7_within_51 : decode cX7_within 51 = .ok (.iload 4, 2) := by decide +kernel
theorem dX7_within_53 : decode cX7_within 53 = .ok (.goto 4, 3) := by decide +kernel
theorem dX7_within_56 : decode cX7_within 56 = .ok (.iload_n 2, 1) := by decide +kernel
theorem dX7_within_57 : decode cX7_within 57 = .ok (.istore 6, 2) := by decide +kernel
theorem dX7_within_59 : decode cX7_within 59 = .ok (.iload 5, 2) := by decide +kernel
theorem dX7_within_61 : decode cX7_within 61 = .ok (.iload_n 3, 1) := by decide +kernel
theorem dX7_within_62 : decode cX7_within 62 = .ok (.if_icmp .ge 8, 3) := by decide +kernel
theorem dX7_within_65 : decode cX7_within 65 = .ok (.iload 5, 2) := by decide +kernel
theorem dX7_within_67 : decode cX7_within 67 = .ok (.goto 4, 3) := by decide +kernel
theorem dX7_within_70 : decode cX7_within 70 = .ok (.iload_n 3, 1) := by decide +kernel
theorem dX7_within_71 : decode cX7_within 71 = .ok (.istore 7, 2) := by decide +kernel
theorem dX7_within_73 : decode cX7_within 73 = .ok (.iload 7, 2) := by decide +kernel
theorem dX7_within_75 : decode cX7_within 75 = .ok (.iload 6, 2) := by decide +kernel
theorem dX7_within_77 : decode cX7_within 77 = .ok (.if_icmp .le 11, 3) := by decide +kernel
theorem dX7_within_80 : decode cX7_within 80 = .ok (.iload 7, 2) := by decide +kernel
theorem dX7_within_82 : decode cX7_within 82 = .ok (.iload 6, 2) := by decide +kernel
theorem dX7_within_84 : decode cX7_within 84 = .ok (.isub, 1) := by decide +kernel
theorem dX7_within_85 : decode cX7_within 85 = .ok (.goto 4, 3) := by decide +kernel
theorem dX7_within_88 : decode cX7_within 88 = .ok (.iconst 0, 1) := by decide +kernel
theorem dX7_within_89 : decode cX7_within 89 = .ok (.ireturn, 1) := by decide +kernel
set_option maxRecDepth 20000 in
theorem ggX7_wrong_X7_isVersion : GoodIn wsX7_wrong wsX7_isVersion := goodIn_r _ [6, 1, 7, 8, 5, 9, 40, 41, 42, 43, 44, 45, 46, 47, 48, 49, 50, 51, 52, 53, 54, 55, 56, 57, 58, 59, 60, 61, 62, 63] rfl (by decide +kernel)
set_option maxRecDepth 20000 in
theorem gX7_wrong_X7_isVersion : GoodIn wsX7_wrong (wsV RX7 137 RX7 yX7_isVersion wsX7_isVersion) := goodIn_app (goodIn_r _ [2, 3, 4, 5] rfl (by decide +kernel)) ggX7_wrong_X7_isVersion
set_option maxRecDepth 20000 in
theorem ggX7_wrong_X7_areMinutes : GoodIn wsX7_wrong wsX7_areMinutes := goodIn_r _ [13, 1, 40, 41, 42, 43, 44, 45, 46, 47, 48, 49, 50, 51, 52, 53, 54, 55, 56, 57, 58, 59, 60, 61, 62, 63] rfl (by decide +kernel)
set_option maxRecDepth 20000 in
theorem gX7_wrong_X7_areMinutes : GoodIn wsX7_wrong (wsV RX7 231 RX7 yX7_areMinutes wsX7_areMinutes) := goodIn_app (goodIn_r _ [10, 11, 12, 5] rfl (by decide +kernel)) ggX7_wrong_X7_areMinutes
set_option maxRecDepth 20000 in
theorem ggX7_wrong_X7_error : GoodIn wsX7_wrong wsX7_error := goodIn_r _ [17, 18, 19, 40, 41, 42, 43, 44, 45, 46, 47, 48, 49, 50, 51, 52, 53, 54, 55, 56, 57, 58, 59, 60, 61, 62, 63] rfl (by decide +kernel)
set_option maxRecDepth 20000 in
theorem gX7_wrong_X7_error : GoodIn wsX7_wrong (wsV RX7 64 RX7 yX7_error wsX7_error) := goodIn_app (goodIn_r _ [14, 15, 16, 5] rfl (by decide +kernel)) ggX7_wrong_X7_error
set_option maxRecDepth 20000 in
theorem ggX7_wrong_X7_areAlike : GoodIn wsX7_wrong wsX7_areAlike := goodIn_r _ [23, 24, 25, 26, 5, 27, 1, 28, 29, 30, 31, 40, 41, 42, 43, 44, 45, 46, 47, 48, 49, 50, 51, 52, 53, 54, 55, 56, 57, 58, 59, 60, 61, 62, 63] rfl (by decide +kernel)
set_option maxRecDepth 20000 in
theorem gX7_wrong_X7_areAlike : GoodIn wsX7_wrong (wsV RX7 210 RX7 yX7_areAlike wsX7_areAlike) := goodIn_app (goodIn_r _ [20, 21, 22, 5] rfl (by decide +kernel)) ggX7_wrong_X7_areAlike
set_option maxRecDepth 20000 in
theorem ggX7_wrong_X7_within : GoodIn wsX7_wrong wsX7_within := goodIn_r _ [35, 1, 36, 37, 38, 5, 39, 40, 41, 42, 43, 44, 45, 46, 47, 48, 49, 50, 51, 52, 53, 54, 55, 56, 57, 58, 59, 60, 61, 62, 63] rfl (by decide +kernel)
set_option maxRecDepth 20000 in
theorem gX7_wrong_X7_within : GoodIn wsX7_wrong (wsV RX7 234 RX7 yX7_within wsX7_within) := goodIn_app (goodIn_r _ [32, 33, 34, 5] rfl (by decide +kernel)) ggX7_wrong_X7_within
theorem dX7_wrong_0 : decode cX7_wrong 0 = .ok (.aload_n 0, 1) := by decide +kernel
theorem dX7_wrong_1 : decode cX7_wrong 1 = .ok (.iload_n 1, 1) := by decide +kernel
theorem dX7_wrong_2 : decode cX7_wrong 2 = .ok (.invokevirtual 137, 3) := by decide +kernel
theorem dX7_wrong_5 : decode cX7_wrong 5 = .ok (.ifCond .eq 12, 3) := by decide +kernel
theorem dX7_wrong_8 : decode cX7_wrong 8 = .ok (.aload_n 0, 1) := by decide +kernel
theorem dX7_wrong_9 : decode cX7_wrong 9 = .ok (.iload_n 2, 1) := by decide +kernel
theorem dX7_wrong_10 : decode cX7_wrong 10 = .ok (.iload_n 3, 1) := by decide +kernel
theorem dX7_wrong_11 : decode cX7_wrong 11 = .ok (.invokevirtual 231, 3) := by decide +kernel
theorem dX7_wrong_14 : decode cX7_wrong 14 = .ok (.ifCond .ne 9, 3) := by decide +kernel
theorem dX7_wrong_17 : decode cX7_wrong 17 = .ok (.aload_n 0, 1) := by decide +kernel
theorem dX7_wrong_18 : decode cX7_wrong 18 = .ok (.iconst 1, 1) := by decide +kernel
theorem dX7_wrong_19 : decode cX7_wrong 19 = .ok (.invokevirtual 64, 3) := by decide +kernel
theorem dX7_wrong_22 : decode cX7_wrong 22 = .ok (.ireturn, 1) := by decide +kernel
theorem dX7_wrong_23 : decode cX7_wrong 23 = .ok (.iconst 0, 1) := by decide +kernel
theorem dX7_wrong_24 : decode cX7_wrong 24 = .ok (.istore 4, 2) := by decide +kernel
theorem dX7_wrong_26 : decode cX7_wrong 26 = .ok (.iconst 0, 1) := by decide +kernel
theorem dX7_wrong_27 : decode cX7_wrong 27 = .ok (.istore 5, 2) := by decide +kernel
theorem dX7_wrong_29 : decode cX7_wrong 29 = .ok (.iload 5, 2) := by decide +kernel
theorem dX7_wrong_31 : decode cX7_wrong 31 = .ok (.aload_n 0, 1) := by decide +kernel
theorem dX7_wrong_32 : decode cX7_wrong 32 = .ok (.getfield 7, 3) := by decide +kernel
theorem dX7_wrong_35 : decode cX7_wrong 35 = .ok (.iconst 1, 1) := by decide +kernel
theorem dX7_wrong_36 : decode cX7_wrong 36 = .ok (.iaload, 1) := by decide +kernel
theorem dX7_wrong_37 : decode cX7_wrong 37 = .ok (.if_icmp .gt 36, 3) := by decide +kernel
theorem dX7_wrong_40 : decode cX7_wrong 40 = .ok (.iload 4, 2) := by decide +kernel
theorem dX7_wrong_42 : decode cX7_wrong 42 = .ok (.aload_n 0, 1) := by decide +kernel
theorem dX7_wrong_43 : decode cX7_wrong 43 = .ok (.iload 5, 2) := by decide +kernel
theorem dX7_wrong_45 : decode cX7_wrong 45 = .ok (.iload_n 1, 1) := by decide +kernel
theorem dX7_wrong_46 : decode cX7_wrong 46 = .ok (.invokevirtual 210, 3) := by decide +kernel
theorem dX7_wrong_49 : decode cX7_wrong 49 = .ok (.ifCond .eq 14, 3) := by decide +kernel
theorem dX7_wrong_52 : decode cX7_wrong 52 = .ok (.aload_n 0, 1) := by decide +kernel
theorem dX7_wrong_53 : decode cX7_wrong 53 = .ok (.iload 5, 2) := by decide +kernel
theorem dX7_wrong_55 : decode cX7_wrong 55 = .ok (.iload_n 2, 1) := by decide +kernel
theorem dX7_wrong_56 : decode cX7_wrong 56 = .ok (.iload_n 3, 1) := by decide +kernel
theorem dX7_wrong_57 : decode cX7_wrong 57 = .ok (.invokevirtual 234, 3) := by decide +kernel
theorem dX7_wrong_60 : decode cX7_wrong 60 = .ok (.goto 4, 3) := by decide +kernel
theorem dX7_wrong_63 : decode cX7_wrong 63 = .ok (.iconst 0, 1) := by decide +kernel
theorem dX7_wrong_64 : decode cX7_wrong 64 = .ok (.iadd, 1) := by decide +kernel
theorem dX7_wrong_65 : decode cX7_wrong 65 = .ok (.istore 4, 2) := by decide +kernel
theorem dX7_wrong_67 : decode cX7_wrong 67 = .ok (.iinc 5 1, 3) := by decide +kernel
theorem dX7_wrong_70 : decode cX7_wrong 70 = .ok (.goto (-41), 3) := by decide +kernel
theorem dX7_wrong_73 : decode cX7_wrong 73 = .ok (.iload 4, 2) := by decide +kernel
theorem dX7_wrong_75 : decode cX7_wrong 75 = .ok (.ireturn, 1) := by decide +kernel
set_option maxRecDepth 20000 in
theorem ggX7_hourOf_X7_actIs1 : GoodIn wsX7_hourOf wsX7_actIs1 := goodIn_r _ [6, 1, 7, 8, 9, 10, 11, 12, 13, 14, 15, 16, 17, 18, 19, 20, 21, 22, 23, 24, 25, 26, 27, 28, 29, 30] rfl (by decide +kernel)
set_option maxRecDepth 20000 in
theorem gX7_hourOf_X7_actIs1 : GoodIn wsX7_hourOf (wsV RX7 67 RX7 yX7_actIs1 wsX7_actIs1) := goodIn_app (goodIn_r _ [2, 3, 4, 5] rfl (by decide +kernel)) ggX7_hourOf_X7_actIs1
theorem dX7_hourOf_0 : decode cX7_hourOf 0 = .ok (.iconst 0, 1) := by decide +kernel
theorem dX7_hourOf_1 : decode cX7_hourOf 1 = .ok (.istore_n 3, 1) := by decide +kernel
theorem dX7_hourOf_2 : decode cX7_hourOf 2 = .ok (.iconst 0, 1) := by decide +kernel
theorem dX7_hourOf_3 : decode cX7_hourOf 3 = .ok (.istore 4, 2) := by decide +kernel
theorem dX7_hourOf_5 : decode cX7_hourOf 5 = .ok (.iload 4, 2) := by decide +kernel
theorem dX7_hourOf_7 : decode cX7_hourOf 7 = .ok (.aload_n 0, 1) := by decide +kernel
theorem dX7_hourOf_8 : decode cX7_hourOf 8 = .ok (.getfield 7, 3) := by decide +kernel
theorem dX7_hourOf_11 : decode cX7_hourOf 11 = .ok (.iconst 1, 1) := by decide +kernel
theorem dX7_hourOf_12 : decode cX7_hourOf 12 = .ok (.iaload, 1) := by decide +kernel
theorem dX7_hourOf_13 : decode cX7_hourOf 13 = .ok (.if_icmp .ge 45, 3) := by decide +kernel
theorem dX7_hourOf_16 : decode cX7_hourOf 16 = .ok (.iload_n 3, 1) := by decide +kernel
theorem dX7_hourOf_17 : decode cX7_hourOf 17 = .ok (.aload_n 0, 1) := by decide +kernel
theorem dX7_hourOf_18 : decode cX7_hourOf 18 = .ok (.iload 4, 2) := by decide +kernel
theorem dX7_hourOf_20 : decode cX7_hourOf 20 = .ok (.iconst 1, 1) := by decide +kernel
theorem dX7_hourOf_21 : decode cX7_hourOf 21 = .ok (.invokevirtual 67, 3) := by decide +kernel
theorem dX7_hourOf_24 : decode cX7_hourOf 24 = .ok (.iload_n 1, 1) := by decide +kernel
theorem dX7_hourOf_25 : decode cX7_hourOf 25 = .ok (.if_icmp .ne 24, 3) := by decide +kernel
theorem dX7_hourOf_28 : decode cX7_hourOf 28 = .ok (.aload_n 0, 1) := by decide +kernel
theorem dX7_hourOf_29 : decode cX7_hourOf 29 = .ok (.iload 4, 2) := by decide +kernel
theorem dX7_hourOf_31 : decode cX7_hourOf 31 = .ok (.iconst 2, 1) := by decide +kernel
theorem dX7_hourOf_32 : decode cX7_hourOf 32 = .ok (.invokevirtual 67, 3) := by decide +kernel
theorem dX7_hourOf_35 : decode cX7_hourOf 35 = .ok (.bipush 60, 2) := by decide +kernel
theorem dX7_hourOf_37 : decode cX7_hourOf 37 = .ok (.idiv, 1) := by decide +kernel
theorem dX7_hourOf_38 : decode cX7_hourOf 38 = .ok (.bipush 24, 2) := by decide +kernel
theorem dX7_hourOf_40 : decode cX7_hourOf 40 = .ok (.irem, 1) := by decide +kernel
theorem dX7_hourOf_41 : decode cX7_hourOf 41 = .ok (.iload_n 2, 1) := by decide +kernel
theorem dX7_hourOf_42 : decode cX7_hourOf 42 = .ok (.if_icmp .ne 7, 3) := by decide +kernel
theorem dX7_hourOf_45 : decode cX7_hourOf 45 = .ok (.iconst 1, 1) := by decide +kernel
theorem dX7_hourOf_46 : decode cX7_hourOf 46 = .ok (.goto 4, 3) := by decide +kernel
theorem dX7_hourOf_49 : decode cX7_hourOf 49 = .ok (.iconst 0, 1) := by decide +kernel
theorem dX7_hourOf_50 : decode cX7_hourOf 50 = .ok (.iadd, 1) := by decide +kernel
theorem dX7_hourOf_51 : decode cX7_hourOf 51 = .ok (.istore_n 3, 1) := by decide +kernel
theorem dX7_hourOf_52 : decode cX7_hourOf 52 = .ok (.iinc 4 1, 3) := by decide +kernel
theorem dX7_hourOf_55 : decode cX7_hourOf 55 = .ok (.goto (-50), 3) := by decide +kernel
theorem dX7_hourOf_58 : decode cX7_hourOf 58 = .ok (.iload_n 3, 1) := by decide +kernel
theorem dX7_hourOf_59 : decode cX7_hourOf 59 = .ok (.ireturn, 1) := by decide +kernel
set_option maxRecDepth 20000 in
theorem ggX7_hand_X7_isWriter : GoodIn wsX7_hand wsX7_isWriter := goodIn_r _ [4, 5, 6, 3, 7] rfl (by decide +kernel)
set_option maxRecDepth 20000 in
theorem gX7_hand_X7_isWriter : GoodIn wsX7_hand (va_wsS RX7 123 yX7_isWriter wsX7_isWriter) := goodIn_app (goodIn_r _ [1, 2, 3] rfl (by decide +kernel)) ggX7_hand_X7_isWriter
set_option maxRecDepth 20000 in
theorem ggX7_hand_X7_error : GoodIn wsX7_hand wsX7_error := goodIn_r _ [11, 12, 13, 27, 28, 29, 30, 31, 32, 33, 34, 35, 36, 37, 38, 39, 40, 41, 42, 43, 44, 45, 46, 47, 48, 49, 50] rfl (by decide +kernel)
set_option maxRecDepth 20000 in
theorem gX7_hand_X7_error : GoodIn wsX7_hand (wsV RX7 64 RX7 yX7_error wsX7_error) := goodIn_app (goodIn_r _ [8, 9, 10, 3] rfl (by decide +kernel)) ggX7_hand_X7_error
set_option maxRecDepth 20000 in
theorem ggX7_hand_X7_actsOf : GoodIn wsX7_hand wsX7_actsOf := goodIn_r _ [17, 18, 19, 20, 21, 3, 22, 27, 28, 29, 30, 31, 32, 33, 34, 35, 36, 37, 38, 39, 40, 41, 42, 43, 44, 45, 46, 47, 48, 49, 50] rfl (by decide +kernel)
set_option maxRecDepth 20000 in
theorem gX7_hand_X7_actsOf : GoodIn wsX7_hand (wsV RX7 86 RX7 yX7_actsOf wsX7_actsOf) := goodIn_app (goodIn_r _ [14, 15, 16, 3] rfl (by decide +kernel)) ggX7_hand_X7_actsOf
set_option maxRecDepth 20000 in
theorem ggX7_hand_X7_hourOf : GoodIn wsX7_hand wsX7_hourOf := goodIn_r _ [26, 18, 19, 20, 21, 3, 22, 27, 28, 29, 30, 31, 32, 33, 34, 35, 36, 37, 38, 39, 40, 41, 42, 43, 44, 45, 46, 47, 48, 49, 50] rfl (by decide +kernel)
set_option maxRecDepth 20000 in
theorem gX7_hand_X7_hourOf : GoodIn wsX7_hand (wsV RX7 237 RX7 yX7_hourOf wsX7_hourOf) := goodIn_app (goodIn_r _ [23, 24, 25, 3] rfl (by decide +kernel)) ggX7_hand_X7_hourOf
theorem dX7_hand_0 : decode cX7_hand 0 = .ok (.iload_n 1, 1) := by decide +kernel
theorem dX7_hand_1 : decode cX7_hand 1 = .ok (.invokestatic 123, 3) := by decide +kernel
theorem dX7_hand_4 : decode cX7_hand 4 = .ok (.ifCond .eq 15, 3) := by decide +kernel
theorem dX7_hand_7 : decode cX7_hand 7 = .ok (.iload_n 2, 1) := by decide +kernel
theorem dX7_hand_8 : decode cX7_hand 8 = .ok (.invokestatic 123, 3) := by decide +kernel
theorem dX7_hand_11 : decode cX7_hand 11 = .ok (.ifCond .eq 8, 3) := by decide +kernel
theorem dX7_hand_14 : decode cX7_hand 14 = .ok (.iload_n 1, 1) := by decide +kernel
theorem dX7_hand_15 : decode cX7_hand 15 = .ok (.iload_n 2, 1) := by decide +kernel
theorem dX7_hand_16 : decode cX7_hand 16 = .ok (.if_icmp .ne 9, 3) := by decide +kernel
theorem dX7_hand_19 : decode cX7_hand 19 = .ok (.aload_n 0, 1) := by decide +kernel
theorem dX7_hand_20 : decode cX7_hand 20 = .ok (.iconst 1, 1) := by decide +kernel
theorem dX7_hand_21 : decode cX7_hand 21 = .ok (.invokevirtual 64, 3) := by decide +kernel
theorem dX7_hand_24 : decode cX7_hand 24 = .ok (.ireturn, 1) := by decide +kernel
theorem dX7_hand_25 : decode cX7_hand 25 = .ok (.aload_n 0, 1) := by decide +kernel
theorem dX7_hand_26 : decode cX7_hand 26 = .ok (.iload_n 1, 1) := by decide +kernel
theorem dX7_hand_27 : decode cX7_hand 27 = .ok (.invokevirtual 86, 3) := by decide +kernel
theorem dX7_hand_30 : decode cX7_hand 30 = .ok (.istore_n 3, 1) := by decide +kernel
theorem dX7_hand_31 : decode cX7_hand 31 = .ok (.aload_n 0, 1) := by decide +kernel
theorem dX7_hand_32 : decode cX7_hand 32 = .ok (.iload_n 2, 1) := by decide +kernel
theorem dX7_hand_33 : decode cX7_hand 33 = .ok (.invokevirtual 86, 3) := by decide +kernel
theorem dX7_hand_36 : decode cX7_hand 36 = .ok (.istore 4, 2) := by decide +kernel
theorem dX7_hand_38 : decode cX7_hand 38 = .ok (.iload_n 3, 1) := by decide +kernel
theorem dX7_hand_39 : decode cX7_hand 39 = .ok (.ifCond .eq 8, 3) := by decide +kernel
theorem dX7_hand_42 : decode cX7_hand 42 = .ok (.iload 4, 2) := by decide +kernel
theorem dX7_hand_44 : decode cX7_hand 44 = .ok (.ifCond .ne 9, 3) := by decide +kernel
theorem dX7_hand_47 : decode cX7_hand 47 = .ok (.aload_n 0, 1) := by decide +kernel
theorem dX7_hand_48 : decode cX7_hand 48 = .ok (.iconst 2, 1) := by decide +kernel
theorem dX7_hand_49 : decode cX7_hand 49 = .ok (.invokevirtual 64, 3) := by decide +kernel
theorem dX7_hand_52 : decode cX7_hand 52 = .ok (.ireturn, 1) := by decide +kernel
theorem dX7_hand_53 : decode cX7_hand 53 = .ok (.iconst 0, 1) := by decide +kernel
theorem dX7_hand_54 : decode cX7_hand 54 = .ok (.istore 5, 2) := by decide +kernel
theorem dX7_hand_56 : decode cX7_hand 56 = .ok (.iconst 0, 1) := by decide +kernel
theorem dX7_hand_57 : decode cX7_hand 57 = .ok (.istore 6, 2) := by decide +kernel
theorem dX7_hand_59 : decode cX7_hand 59 = .ok (.iload 6, 2) := by decide +kernel
theorem dX7_hand_61 : decode cX7_hand 61 = .ok (.bipush 24, 2) := by decide +kernel
theorem dX7_hand_63 : decode cX7_hand 63 = .ok (.if_icmp .ge 46, 3) := by decide +kernel
theorem dX7_hand_66 : decode cX7_hand 66 = .ok (.aload_n 0, 1) := by decide +kernel
theorem dX7_hand_67 : decode cX7_hand 67 = .ok (.iload_n 1, 1) := by decide +kernel
theorem dX7_hand_68 : decode cX7_hand 68 = .ok (.iload 6, 2) := by decide +kernel
theorem dX7_hand_70 : decode cX7_hand 70 = .ok (.invokevirtual 237, 3) := by decide +kernel
theorem dX7_hand_73 : decode cX7_hand 73 = .ok (.istore 7, 2) := by decide +kernel
theorem dX7_hand_75 : decode cX7_hand 75 = .ok (.aload_n 0, 1) := by decide +kernel
theorem dX7_hand_76 : decode cX7_hand 76 = .ok (.iload_n 2, 1) := by decide +kernel
theorem dX7_hand_77 : decode cX7_hand 77 = .ok (.iload 6, 2) := by decide +kernel
theorem dX7_hand_79 : decode cX7_hand 79 = .ok (.invokevirtual 237, 3) := by decide +kernel
theorem dX7_hand_82 : decode cX7_hand 82 = .ok (.istore 8, 2) := by decide +kernel
theorem dX7_hand_84 : decode cX7_hand 84 = .ok (.iload 5, 2) := by decide +kernel
theorem dX7_hand_86 : decode cX7_hand 86 = .ok (.iload 7, 2) := by decide +kernel
theorem dX7_hand_88 : decode cX7_hand 88 = .ok (.iload 8, 2) := by decide +kernel
theorem dX7_hand_90 : decode cX7_hand 90 = .ok (.if_icmp .ge 8, 3) := by decide +kernel
theorem dX7_hand_93 : decode cX7_hand 93 = .ok (.iload 7, 2) := by decide +kernel
theorem dX7_hand_95 : decode cX7_hand 95 = .ok (.goto 5, 3) := by decide +kernel
theorem dX7_hand_98 : decode cX7_hand 98 = .ok (.iload 8, 2) := by decide +kernel
theorem dX7_hand_100 : decode cX7_hand 100 = .ok (.iadd, 1) := by decide +kernel
theorem dX7_hand_101 : decode cX7_hand 101 = .ok (.istore 5, 2) := by decide +kernel
theorem dX7_hand_103 : decode cX7_hand 103 = .ok (.iinc 6 1, 3) := by decide +kernel
theorem dX7_hand_106 : decode cX7_hand 106 = .ok (.goto (-47), 3) := by decide +kernel
theorem dX7_hand_109 : decode cX7_hand 109 = .ok (.bipush 100, 2) := by decide +kernel
theorem dX7_hand_111 : decode cX7_hand 111 = .ok (.iload 5, 2) := by decide +kernel
theorem dX7_hand_113 : decode cX7_hand 113 = .ok (.imul, 1) := by decide +kernel
theorem dX7_hand_114 : decode cX7_hand 114 = .ok (.iload_n 3, 1) := by decide +kernel
theorem dX7_hand_115 : decode cX7_hand 115 = .ok (.iload 4, 2) := by decide +kernel
theorem dX7_hand_117 : decode cX7_hand 117 = .ok (.if_icmp .ge 7, 3) := by decide +kernel
theorem dX7_hand_120 : decode cX7_hand 120 = .ok (.iload_n 3, 1) := by decide +kernel
theorem dX7_hand_121 : decode cX7_hand 121 = .ok (.goto 5, 3) := by decide +kernel
theorem dX7_hand_124 : decode cX7_hand 124 = .ok (.iload 4, 2) := by decide +kernel
theorem dX7_hand_126 : decode cX7_hand 126 = .ok (.idiv, 1) := by decide +kernel
theorem dX7_hand_127 : decode cX7_hand 127 = .ok (.ireturn, 1) := by decide +kernel
set_option maxRecDepth 20000 in
theorem ggX7_score_X7_isAct : GoodIn wsX7_score wsX7_isAct := goodIn_r _ [6, 1, 7, 8, 5, 9, 20, 21, 22, 23, 24, 25, 26, 27, 28, 29, 30, 31, 32, 33, 34, 35, 36, 37, 38, 39, 40, 41, 42, 43] rfl (by decide +kernel)
set_option maxRecDepth 20000 in
theorem gX7_score_X7_isAct : GoodIn wsX7_score (wsV RX7 146 RX7 yX7_isAct wsX7_isAct) := goodIn_app (goodIn_r _ [2, 3, 4, 5] rfl (by decide +kernel)) ggX7_score_X7_isAct
set_option maxRecDepth 20000 in
theorem ggX7_score_X7_in : GoodIn wsX7_score wsX7_in := goodIn_r _ [9] rfl (by decide +kernel)
set_option maxRecDepth 20000 in
theorem gX7_score_X7_in : GoodIn wsX7_score (va_wsS RX7 56 yX7_in wsX7_in) := goodIn_app (goodIn_r _ [7, 8, 5] rfl (by decide +kernel)) ggX7_score_X7_in
set_option maxRecDepth 20000 in
theorem ggX7_score_X7_error : GoodIn wsX7_score wsX7_error := goodIn_r _ [13, 14, 15, 20, 21, 22, 23, 24, 25, 26, 27, 28, 29, 30, 31, 32, 33, 34, 35, 36, 37, 38, 39, 40, 41, 42, 43] rfl (by decide +kernel)
set_option maxRecDepth 20000 in
theorem gX7_score_X7_error : GoodIn wsX7_score (wsV RX7 64 RX7 yX7_error wsX7_error) := goodIn_app (goodIn_r _ [10, 11, 12, 5] rfl (by decide +kernel)) ggX7_score_X7_error
set_option maxRecDepth 20000 in
theorem ggX7_score_X7_actIs1 : GoodIn wsX7_score wsX7_actIs1 := goodIn_r _ [19, 1, 20, 21, 22, 23, 24, 25, 26, 27, 28, 29, 30, 31, 32, 33, 34, 35, 36, 37, 38, 39, 40, 41, 42, 43] rfl (by decide +kernel)
set_option maxRecDepth 20000 in
theorem gX7_score_X7_actIs1 : GoodIn wsX7_score (wsV RX7 67 RX7 yX7_actIs1 wsX7_actIs1) := goodIn_app (goodIn_r _ [16, 17, 18, 5] rfl (by decide +kernel)) ggX7_score_X7_actIs1
theorem dX7_score_0 : decode cX7_score 0 = .ok (.aload_n 0, 1) := by decide +kernel
theorem dX7_score_1 : decode cX7_score 1 = .ok (.iload_n 1, 1) := by decide +kernel
theorem dX7_score_2 : decode cX7_score 2 = .ok (.invokevirtual 146, 3) := by decide +kernel
theorem dX7_score_5 : decode cX7_score 5 = .ok (.ifCond .eq 13, 3) := by decide +kernel
theorem dX7_score_8 : decode cX7_score 8 = .ok (.iload_n 2, 1) := by decide +kernel
theorem dX7_score_9 : decode cX7_score 9 = .ok (.iconst (-1), 1) := by decide +kernel
theorem dX7_score_10 : decode cX7_score 10 = .ok (.bipush 100, 2) := by decide +kernel
theorem dX7_score_12 : decode cX7_score 12 = .ok (.invokestatic 56, 3) := by decide +kernel
theorem dX7_score_15 : decode cX7_score 15 = .ok (.ifCond .ne 9, 3) := by decide +kernel
theorem dX7_score_18 : decode cX7_score 18 = .ok (.aload_n 0, 1) := by decide +kernel
theorem dX7_score_19 : decode cX7_score 19 = .ok (.iconst 1, 1) := by decide +kernel
theorem dX7_score_20 : decode cX7_score 20 = .ok (.invokevirtual 64, 3) := by decide +kernel
theorem dX7_score_23 : decode cX7_score 23 = .ok (.ireturn, 1) := by decide +kernel
theorem dX7_score_24 : decode cX7_score 24 = .ok (.aload_n 0, 1) := by decide +kernel
theorem dX7_score_25 : decode cX7_score 25 = .ok (.iload_n 1, 1) := by decide +kernel
theorem dX7_score_26 : decode cX7_score 26 = .ok (.iconst 4, 1) := by decide +kernel
theorem dX7_score_27 : decode cX7_score 27 = .ok (.invokevirtual 67, 3) := by decide +kernel
theorem dX7_score_30 : decode cX7_score 30 = .ok (.istore_n 3, 1) := by decide +kernel
theorem dX7_score_31 : decode cX7_score 31 = .ok (.aload_n 0, 1) := by decide +kernel
theorem dX7_score_32 : decode cX7_score 32 = .ok (.getfield 7, 3) := by decide +kernel
theorem dX7_score_35 : decode cX7_score 35 = .ok (.bipush 10, 2) := by decide +kernel
theorem dX7_score_37 : decode cX7_score 37 = .ok (.iconst 5, 1) := by decide +kernel
theorem dX7_score_38 : decode cX7_score 38 = .ok (.iload_n 1, 1) := by decide +kernel
theorem dX7_score_39 : decode cX7_score 39 = .ok (.imul, 1) := by decide +kernel
theorem dX7_score_40 : decode cX7_score 40 = .ok (.iadd, 1) := by decide +kernel
theorem dX7_score_41 : decode cX7_score 41 = .ok (.iconst 4, 1) := by decide +kernel
theorem dX7_score_42 : decode cX7_score 42 = .ok (.iadd, 1) := by decide +kernel
theorem dX7_score_43 : decode cX7_score 43 = .ok (.iload_n 2, 1) := by decide +kernel
theorem dX7_score_44 : decode cX7_score 44 = .ok (.iastore, 1) := by decide +kernel
theorem dX7_score_45 : decode cX7_score 45 = .ok (.iload_n 3, 1) := by decide +kernel
theorem dX7_score_46 : decode cX7_score 46 = .ok (.ireturn, 1) := by decide +kernel
set_option maxRecDepth 20000 in
theorem ggX7_costs_X7_actIs1 : GoodIn wsX7_costs wsX7_actIs1 := goodIn_r _ [6, 1, 7, 8, 9, 10, 11, 12, 13, 14, 15, 16, 17, 18, 19, 20, 21, 22, 23, 24, 25, 26, 27, 28, 29, 30] rfl (by decide +kernel)
set_option maxRecDepth 20000 in
theorem gX7_costs_X7_actIs1 : GoodIn wsX7_costs (wsV RX7 67 RX7 yX7_actIs1 wsX7_actIs1) := goodIn_app (goodIn_r _ [2, 3, 4, 5] rfl (by decide +kernel)) ggX7_costs_X7_actIs1
theorem dX7_costs_0 : decode cX7_costs 0 = .ok (.iconst 0, 1) := by decide +kernel
theorem dX7_costs_1 : decode cX7_costs 1 = .ok (.istore 4, 2) := by decide +kernel
theorem dX7_costs_3 : decode cX7_costs 3 = .ok (.iconst 0, 1) := by decide +kernel
theorem dX7_costs_4 : decode cX7_costs 4 = .ok (.istore 5, 2) := by decide +kernel
theorem dX7_costs_6 : decode cX7_costs 6 = .ok (.iload 5, 2) := by decide +kernel
theorem dX7_costs_8 : decode cX7_costs 8 = .ok (.aload_n 0, 1) := by decide +kernel
theorem dX7_costs_9 : decode cX7_costs 9 = .ok (.getfield 7, 3) := by decide +kernel
theorem dX7_costs_12 : decode cX7_costs 12 = .ok (.iconst 1, 1) := by decide +kernel
theorem dX7_costs_13 : decode cX7_costs 13 = .ok (.iaload, 1) := by decide +kernel
theorem dX7_costs_14 : decode cX7_costs 14 = .ok (.if_icmp .ge 79, 3) := by decide +kernel
theorem dX7_costs_17 : decode cX7_costs 17 = .ok (.aload_n 0, 1) := by decide +kernel
theorem dX7_costs_18 : decode cX7_costs 18 = .ok (.iload 5, 2) := by decide +kernel
theorem dX7_costs_20 : decode cX7_costs 20 = .ok (.iconst 4, 1) := by decide +kernel
theorem dX7_costs_21 : decode cX7_costs 21 = .ok (.invokevirtual 67, 3) := by decide +kernel
theorem dX7_costs_24 : decode cX7_costs 24 = .ok (.istore 6, 2) := by decide +kernel
theorem dX7_costs_26 : decode cX7_costs 26 = .ok (.aload_n 0, 1) := by decide +kernel
theorem dX7_costs_27 : decode cX7_costs 27 = .ok (.iload 5, 2) := by decide +kernel
theorem dX7_costs_29 : decode cX7_costs 29 = .ok (.iconst 0, 1) := by decide +kernel
theorem dX7_costs_30 : decode cX7_costs 30 = .ok (.invokevirtual 67, 3) := by decide +kernel
theorem dX7_costs_33 : decode cX7_costs 33 = .ok (.iconst 4, 1) := by decide +kernel
theorem dX7_costs_34 : decode cX7_costs 34 = .ok (.if_icmp .ne 7, 3) := by decide +kernel
theorem dX7_costs_37 : decode cX7_costs 37 = .ok (.iconst 1, 1) := by decide +kernel
theorem dX7_costs_38 : decode cX7_costs 38 = .ok (.goto 4, 3) := by decide +kernel
theorem dX7_costs_41 : decode cX7_costs 41 = .ok (.iconst 0, 1) := by decide +kernel
theorem dX7_costs_42 : decode cX7_costs 42 = .ok (.istore 7, 2) := by decide +kernel
theorem dX7_costs_44 : decode cX7_costs 44 = .ok (.iload 4, 2) := by decide +kernel
theorem dX7_costs_46 : decode cX7_costs 46 = .ok (.iload 6, 2) := by decide +kernel
theorem dX7_costs_48 : decode cX7_costs 48 = .ok (.ifCond .ge 7, 3) := by decide +kernel
theorem dX7_costs_51 : decode cX7_costs 51 = .ok (.iconst 0, 1) := by decide +kernel
theorem dX7_costs_52 : decode cX7_costs 52 = .ok (.goto 32, 3) := by decide +kernel
theorem dX7_costs_55 : decode cX7_costs 55 = .ok (.iload 6, 2) := by decide +kernel
theorem dX7_costs_57 : decode cX7_costs 57 = .ok (.iload_n 1, 1) := by decide +kernel
theorem dX7_costs_58 : decode cX7_costs 58 = .ok (.if_icmp .lt 16, 3) := by decide +kernel
theorem dX7_costs_61 : decode cX7_costs 61 = .ok (.iload 7, 2) := by decide +kernel
theorem dX7_costs_63 : decode cX7_costs 63 = .ok (.ifCond .eq 7, 3) := by decide +kernel
theorem dX7_costs_66 : decode cX7_costs 66 = .ok (.iconst 0, 1) := by decide +kernel
theorem dX7_costs_67 : decode cX7_costs 67 = .ok (.goto 17, 3) := by decide +kernel
theorem dX7_costs_70 : decode cX7_costs 70 = .ok (.iload_n 2, 1) := by decide +kernel
theorem dX7_costs_71 : decode cX7_costs 71 = .ok (.goto 13, 3) := by decide +kernel
theorem dX7_costs_74 : decode cX7_costs 74 = .ok (.iload 7, 2) := by decide +kernel
theorem dX7_costs_76 : decode cX7_costs 76 = .ok (.ifCond .eq 7, 3) := by decide +kernel
theorem dX7_costs_79 : decode cX7_costs 79 = .ok (.iload_n 3, 1) := by decide +kernel
theorem dX7_costs_80 : decode cX7_costs 80 = .ok (.goto 4, 3) := by decide +kernel
theorem dX7_costs_83 : decode cX7_costs 83 = .ok (.iconst 0, 1) := by decide +kernel
theorem dX7_costs_84 : decode cX7_costs 84 = .ok (.iadd, 1) := by decide +kernel
theorem dX7_costs_85 : decode cX7_costs 85 = .ok (.istore 4, 2) := by decide +kernel
theorem dX7_costs_87 : decode cX7_costs 87 = .ok (.iinc 5 1, 3) := by decide +kernel
theorem dX7_costs_90 : decode cX7_costs 90 = .ok (.goto (-84), 3) := by decide +kernel
theorem dX7_costs_93 : decode cX7_costs 93 = .ok (.iload 4, 2) := by decide +kernel
theorem dX7_costs_95 : decode cX7_costs 95 = .ok (.ireturn, 1) := by decide +kernel
set_option maxRecDepth 20000 in
theorem ggX7_line_X7_in : GoodIn wsX7_line wsX7_in := goodIn_r _ [4] rfl (by decide +kernel)
set_option maxRecDepth 20000 in
theorem gX7_line_X7_in : GoodIn wsX7_line (va_wsS RX7 56 yX7_in wsX7_in) := goodIn_app (goodIn_r _ [1, 2, 3] rfl (by decide +kernel)) ggX7_line_X7_in
set_option maxRecDepth 20000 in
theorem ggX7_line_X7_error : GoodIn wsX7_line wsX7_error := goodIn_r _ [8, 9, 10, 20, 21, 22, 23, 24, 25, 26, 27, 28, 29, 30, 31, 32, 33, 34, 35, 36, 37, 38, 39, 40, 41, 42, 43] rfl (by decide +kernel)
set_option maxRecDepth 20000 in
theorem gX7_line_X7_error : GoodIn wsX7_line (wsV RX7 64 RX7 yX7_error wsX7_error) := goodIn_app (goodIn_r _ [5, 6, 7, 3] rfl (by decide +kernel)) ggX7_line_X7_error
set_option maxRecDepth 20000 in
theorem ggX7_line_X7_costs : GoodIn wsX7_line wsX7_costs := goodIn_r _ [14, 15, 16, 17, 18, 3, 19, 20, 21, 22, 23, 24, 25, 26, 27, 28, 29, 30, 31, 32, 33, 34, 35, 36, 37, 38, 39, 40, 41, 42, 43] rfl (by decide +kernel)
set_option maxRecDepth 20000 in
theorem gX7_line_X7_costs : GoodIn wsX7_line (wsV RX7 240 RX7 yX7_costs wsX7_costs) := goodIn_app (goodIn_r _ [11, 12, 13, 3] rfl (by decide +kernel)) ggX7_line_X7_costs
theorem dX7_line_0 : decode cX7_line 0 = .ok (.iload_n 1, 1) := by decide +kernel
theorem dX7_line_1 : decode cX7_line 1 = .ok (.iconst 0, 1) := by decide +kernel
theorem dX7_line_2 : decode cX7_line 2 = .ok (.bipush 99, 2) := by decide +kernel
theorem dX7_line_4 : decode cX7_line 4 = .ok (.invokestatic 56, 3) := by decide +kernel
theorem dX7_line_7 : decode cX7_line 7 = .ok (.ifCond .eq 22, 3) := by decide +kernel
theorem dX7_line_10 : decode cX7_line 10 = .ok (.iload_n 2, 1) := by decide +kernel
theorem dX7_line_11 : decode cX7_line 11 = .ok (.iconst 0, 1) := by decide +kernel
theorem dX7_line_12 : decode cX7_line 12 = .ok (.bipush 99, 2) := by decide +kernel
theorem dX7_line_14 : decode cX7_line 14 = .ok (.invokestatic 56, 3) := by decide +kernel
theorem dX7_line_17 : decode cX7_line 17 = .ok (.ifCond .eq 12, 3) := by decide +kernel
theorem dX7_line_20 : decode cX7_line 20 = .ok (.iload_n 3, 1) := by decide +kernel
theorem dX7_line_21 : decode cX7_line 21 = .ok (.iconst 0, 1) := by decide +kernel
theorem dX7_line_22 : decode cX7_line 22 = .ok (.iconst 1, 1) := by decide +kernel
theorem dX7_line_23 : decode cX7_line 23 = .ok (.invokestatic 56, 3) := by decide +kernel
theorem dX7_line_26 : decode cX7_line 26 = .ok (.ifCond .ne 9, 3) := by decide +kernel
theorem dX7_line_29 : decode cX7_line 29 = .ok (.aload_n 0, 1) := by decide +kernel
theorem dX7_line_30 : decode cX7_line 30 = .ok (.iconst 1, 1) := by decide +kernel
theorem dX7_line_31 : decode cX7_line 31 = .ok (.invokevirtual 64, 3) := by decide +kernel
theorem dX7_line_34 : decode cX7_line 34 = .ok (.ireturn, 1) := by decide +kernel
theorem dX7_line_35 : decode cX7_line 35 = .ok (.iconst 0, 1) := by decide +kernel
theorem dX7_line_36 : decode cX7_line 36 = .ok (.istore 4, 2) := by decide +kernel
theorem dX7_line_38 : decode cX7_line 38 = .ok (.iconst 1, 1) := by decide +kernel
theorem dX7_line_39 : decode cX7_line 39 = .ok (.istore 5, 2) := by decide +kernel
theorem dX7_line_41 : decode cX7_line 41 = .ok (.iload 5, 2) := by decide +kernel
theorem dX7_line_43 : decode cX7_line 43 = .ok (.bipush 101, 2) := by decide +kernel
theorem dX7_line_45 : decode cX7_line 45 = .ok (.if_icmp .gt 37, 3) := by decide +kernel
theorem dX7_line_48 : decode cX7_line 48 = .ok (.aload_n 0, 1) := by decide +kernel
theorem dX7_line_49 : decode cX7_line 49 = .ok (.iload 5, 2) := by decide +kernel
theorem dX7_line_51 : decode cX7_line 51 = .ok (.iload_n 1, 1) := by decide +kernel
theorem dX7_line_52 : decode cX7_line 52 = .ok (.iload_n 2, 1) := by decide +kernel
theorem dX7_line_53 : decode cX7_line 53 = .ok (.invokevirtual 240, 3) := by decide +kernel
theorem dX7_line_56 : decode cX7_line 56 = .ok (.aload_n 0, 1) := by decide +kernel
theorem dX7_line_57 : decode cX7_line 57 = .ok (.iload 4, 2) := by decide +kernel
theorem dX7_line_59 : decode cX7_line 59 = .ok (.iload_n 1, 1) := by decide +kernel
theorem dX7_line_60 : decode cX7_line 60 = .ok (.iload_n 2, 1) := by decide +kernel
theorem dX7_line_61 : decode cX7_line 61 = .ok (.invokevirtual 240, 3) := by decide +kernel
theorem dX7_line_64 : decode cX7_line 64 = .ok (.if_icmp .gt 8, 3) := by decide +kernel
theorem dX7_line_67 : decode cX7_line 67 = .ok (.iload 5, 2) := by decide +kernel
theorem dX7_line_69 : decode cX7_line 69 = .ok (.goto 5, 3) := by decide +kernel
theorem dX7_line_72 : decode cX7_line 72 = .ok (.iload 4, 2) := by decide +kernel
theorem dX7_line_74 : decode cX7_line 74 = .ok (.istore 4, 2) := by decide +kernel
theorem dX7_line_76 : decode cX7_line 76 = .ok (.iinc 5 1, 3) := by decide +kernel
theorem dX7_line_79 : decode cX7_line 79 = .ok (.goto (-38), 3) := by decide +kernel
theorem dX7_line_82 : decode cX7_line 82 = .ok (.iload_n 3, 1) := by decide +kernel
theorem dX7_line_83 : decode cX7_line 83 = .ok (.ifCond .ne 8, 3) := by decide +kernel
theorem dX7_line_86 : decode cX7_line 86 = .ok (.iload 4, 2) := by decide +kernel
theorem dX7_line_88 : decode cX7_line 88 = .ok (.goto 11, 3) := by decide +kernel
theorem dX7_line_91 : decode cX7_line 91 = .ok (.aload_n 0, 1) := by decide +kernel
theorem dX7_line_92 : decode cX7_line 92 = .ok (.iload 4, 2) := by decide +kernel
theorem dX7_line_94 : decode cX7_line 94 = .ok (.iload_n 1, 1) := by decide +kernel
theorem dX7_line_95 : decode cX7_line 95 = .ok (.iload_n 2, 1) := by decide +kernel
theorem dX7_line_96 : decode cX7_line 96 = .ok (.invokevirtual 240, 3) := by decide +kernel
theorem dX7_line_99 : decode cX7_line 99 = .ok (.ireturn, 1) := by decide +kernel
set_option maxRecDepth 20000 in
theorem ggX7_worth_X7_in : GoodIn wsX7_worth wsX7_in := goodIn_r _ [5] rfl (by decide +kernel)
set_option maxRecDepth 20000 in
theorem gX7_worth_X7_in : GoodIn wsX7_worth (va_wsS RX7 56 yX7_in wsX7_in) := goodIn_app (goodIn_r _ [2, 3, 4] rfl (by decide +kernel)) ggX7_worth_X7_in
set_option maxRecDepth 20000 in
theorem ggX7_worth_X7_error : GoodIn wsX7_worth wsX7_error := goodIn_r _ [9, 10, 11, 12, 13, 14, 15, 16, 17, 18, 19, 20, 21, 22, 23, 24, 25, 26, 27, 28, 29, 30, 31, 32, 33, 34, 35] rfl (by decide +kernel)
set_option maxRecDepth 20000 in
theorem gX7_worth_X7_error : GoodIn wsX7_worth (wsV RX7 64 RX7 yX7_error wsX7_error) := goodIn_app (goodIn_r _ [6, 7, 8, 4] rfl (by decide +kernel)) ggX7_worth_X7_error
theorem dX7_worth_0 : decode cX7_worth 0 = .ok (.iload_n 1, 1) := by decide +kernel
theorem dX7_worth_1 : decode cX7_worth 1 = .ok (.iconst 1, 1) := by decide +kernel
theorem dX7_worth_2 : decode cX7_worth 2 = .ok (.bipush 60, 2) := by decide +kernel
theorem dX7_worth_4 : decode cX7_worth 4 = .ok (.invokestatic 56, 3) := by decide +kernel
theorem dX7_worth_7 : decode cX7_worth 7 = .ok (.ifCond .eq 14, 3) := by decide +kernel
theorem dX7_worth_10 : decode cX7_worth 10 = .ok (.iload_n 2, 1) := by decide +kernel
theorem dX7_worth_11 : decode cX7_worth 11 = .ok (.bipush (-9), 2) := by decide +kernel
theorem dX7_worth_13 : decode cX7_worth 13 = .ok (.bipush 9, 2) := by decide +kernel
theorem dX7_worth_15 : decode cX7_worth 15 = .ok (.invokestatic 56, 3) := by decide +kernel
theorem dX7_worth_18 : decode cX7_worth 18 = .ok (.ifCond .ne 9, 3) := by decide +kernel
theorem dX7_worth_21 : decode cX7_worth 21 = .ok (.aload_n 0, 1) := by decide +kernel
theorem dX7_worth_22 : decode cX7_worth 22 = .ok (.iconst 1, 1) := by decide +kernel
theorem dX7_worth_23 : decode cX7_worth 23 = .ok (.invokevirtual 64, 3) := by decide +kernel
theorem dX7_worth_26 : decode cX7_worth 26 = .ok (.ireturn, 1) := by decide +kernel
theorem dX7_worth_27 : decode cX7_worth 27 = .ok (.aload_n 0, 1) := by decide +kernel
theorem dX7_worth_28 : decode cX7_worth 28 = .ok (.getfield 7, 3) := by decide +kernel
theorem dX7_worth_31 : decode cX7_worth 31 = .ok (.sipush 2820, 3) := by decide +kernel
theorem dX7_worth_34 : decode cX7_worth 34 = .ok (.iload_n 1, 1) := by decide +kernel
theorem dX7_worth_35 : decode cX7_worth 35 = .ok (.iadd, 1) := by decide +kernel
theorem dX7_worth_36 : decode cX7_worth 36 = .ok (.iaload, 1) := by decide +kernel
theorem dX7_worth_37 : decode cX7_worth 37 = .ok (.istore_n 3, 1) := by decide +kernel
theorem dX7_worth_38 : decode cX7_worth 38 = .ok (.aload_n 0, 1) := by decide +kernel
theorem dX7_worth_39 : decode cX7_worth 39 = .ok (.getfield 7, 3) := by decide +kernel
theorem dX7_worth_42 : decode cX7_worth 42 = .ok (.sipush 2820, 3) := by decide +kernel
theorem dX7_worth_45 : decode cX7_worth 45 = .ok (.iload_n 1, 1) := by decide +kernel
theorem dX7_worth_46 : decode cX7_worth 46 = .ok (.iadd, 1) := by decide +kernel
theorem dX7_worth_47 : decode cX7_worth 47 = .ok (.iload_n 2, 1) := by decide +kernel
theorem dX7_worth_48 : decode cX7_worth 48 = .ok (.iastore, 1) := by decide +kernel
theorem dX7_worth_49 : decode cX7_worth 49 = .ok (.iload_n 3, 1) := by decide +kernel
theorem dX7_worth_50 : decode cX7_worth 50 = .ok (.ireturn, 1) := by decide +kernel
set_option maxRecDepth 20000 in
theorem ggX7_valueOf_X7_sizeOf : GoodIn wsX7_valueOf wsX7_sizeOf := goodIn_r _ [6, 1, 11, 12, 13, 14, 15, 16, 17, 18, 19, 20, 21, 22, 23, 24, 25, 26, 27, 28, 29, 30, 31, 32, 33, 34] rfl (by decide +kernel)
set_option maxRecDepth 20000 in
theorem gX7_valueOf_X7_sizeOf : GoodIn wsX7_valueOf (wsV RX7 60 RX7 yX7_sizeOf wsX7_sizeOf) := goodIn_app (goodIn_r _ [2, 3, 4, 5] rfl (by decide +kernel)) ggX7_valueOf_X7_sizeOf
set_option maxRecDepth 20000 in
theorem ggX7_valueOf_X7_wordAt : GoodIn wsX7_valueOf wsX7_wordAt := goodIn_r _ [10, 1, 11, 12, 13, 14, 15, 16, 17, 18, 19, 20, 21, 22, 23, 24, 25, 26, 27, 28, 29, 30, 31, 32, 33, 34] rfl (by decide +kernel)
set_option maxRecDepth 20000 in
theorem gX7_valueOf_X7_wordAt : GoodIn wsX7_valueOf (wsV RX7 96 RX7 yX7_wordAt wsX7_wordAt) := goodIn_app (goodIn_r _ [7, 8, 9, 5] rfl (by decide +kernel)) ggX7_valueOf_X7_wordAt
theorem dX7_valueOf_0 : decode cX7_valueOf 0 = .ok (.iconst 0, 1) := by decide +kernel
theorem dX7_valueOf_1 : decode cX7_valueOf 1 = .ok (.istore_n 2, 1) := by decide +kernel
theorem dX7_valueOf_2 : decode cX7_valueOf 2 = .ok (.iconst 0, 1) := by decide +kernel
theorem dX7_valueOf_3 : decode cX7_valueOf 3 = .ok (.istore_n 3, 1) := by decide +kernel
theorem dX7_valueOf_4 : decode cX7_valueOf 4 = .ok (.iload_n 3, 1) := by decide +kernel
theorem dX7_valueOf_5 : decode cX7_valueOf 5 = .ok (.aload_n 0, 1) := by decide +kernel
theorem dX7_valueOf_6 : decode cX7_valueOf 6 = .ok (.iload_n 1, 1) := by decide +kernel
theorem dX7_valueOf_7 : decode cX7_valueOf 7 = .ok (.invokevirtual 60, 3) := by decide +kernel
theorem dX7_valueOf_10 : decode cX7_valueOf 10 = .ok (.if_icmp .ge 27, 3) := by decide +kernel
theorem dX7_valueOf_13 : decode cX7_valueOf 13 = .ok (.iload_n 2, 1) := by decide +kernel
theorem dX7_valueOf_14 : decode cX7_valueOf 14 = .ok (.aload_n 0, 1) := by decide +kernel
theorem dX7_valueOf_15 : decode cX7_valueOf 15 = .ok (.getfield 7, 3) := by decide +kernel
theorem dX7_valueOf_18 : decode cX7_valueOf 18 = .ok (.sipush 2820, 3) := by decide +kernel
theorem dX7_valueOf_21 : decode cX7_valueOf 21 = .ok (.aload_n 0, 1) := by decide +kernel
theorem dX7_valueOf_22 : decode cX7_valueOf 22 = .ok (.iload_n 1, 1) := by decide +kernel
theorem dX7_valueOf_23 : decode cX7_valueOf 23 = .ok (.iload_n 3, 1) := by decide +kernel
theorem dX7_valueOf_24 : decode cX7_valueOf 24 = .ok (.invokevirtual 96, 3) := by decide +kernel
theorem dX7_valueOf_27 : decode cX7_valueOf 27 = .ok (.iadd, 1) := by decide +kernel
theorem dX7_valueOf_28 : decode cX7_valueOf 28 = .ok (.iaload, 1) := by decide +kernel
theorem dX7_valueOf_29 : decode cX7_valueOf 29 = .ok (.iadd, 1) := by decide +kernel
theorem dX7_valueOf_30 : decode cX7_valueOf 30 = .ok (.istore_n 2, 1) := by decide +kernel
theorem dX7_valueOf_31 : decode cX7_valueOf 31 = .ok (.iinc 3 1, 3) := by decide +kernel
theorem dX7_valueOf_34 : decode cX7_valueOf 34 = .ok (.goto (-30), 3) := by decide +kernel
theorem dX7_valueOf_37 : decode cX7_valueOf 37 = .ok (.iload_n 2, 1) := by decide +kernel
theorem dX7_valueOf_38 : decode cX7_valueOf 38 = .ok (.ireturn, 1) := by decide +kernel
set_option maxRecDepth 20000 in
theorem ggX7_value_X7_isVersion : GoodIn wsX7_value wsX7_isVersion := goodIn_r _ [5, 6, 7, 8, 4, 9, 28, 29, 30, 31, 32, 33, 34, 35, 36, 37, 38, 39, 40, 41, 42, 43, 44, 45, 46, 47, 48, 49, 50, 51] rfl (by decide +kernel)
set_option maxRecDepth 20000 in
theorem gX7_value_X7_isVersion : GoodIn wsX7_value (wsV RX7 137 RX7 yX7_isVersion wsX7_isVersion) := goodIn_app (goodIn_r _ [1, 2, 3, 4] rfl (by decide +kernel)) ggX7_value_X7_isVersion
set_option maxRecDepth 20000 in
theorem ggX7_value_X7_valueOf : GoodIn wsX7_value wsX7_valueOf := goodIn_r _ [13, 6, 14, 15, 16, 4, 17, 18, 19, 20, 21, 28, 29, 30, 31, 32, 33, 34, 35, 36, 37, 38, 39, 40, 41, 42, 43, 44, 45, 46, 47, 48, 49, 50, 51] rfl (by decide +kernel)
set_option maxRecDepth 20000 in
theorem gX7_value_X7_valueOf : GoodIn wsX7_value (wsV RX7 243 RX7 yX7_valueOf wsX7_valueOf) := goodIn_app (goodIn_r _ [10, 11, 12, 4] rfl (by decide +kernel)) ggX7_value_X7_valueOf
set_option maxRecDepth 20000 in
theorem ggX7_value_X7_error : GoodIn wsX7_value wsX7_error := goodIn_r _ [25, 26, 27, 28, 29, 30, 31, 32, 33, 34, 35, 36, 37, 38, 39, 40, 41, 42, 43, 44, 45, 46, 47, 48, 49, 50, 51] rfl (by decide +kernel)
set_option maxRecDepth 20000 in
theorem gX7_value_X7_error : GoodIn wsX7_value (wsV RX7 64 RX7 yX7_error wsX7_error) := goodIn_app (goodIn_r _ [22, 23, 24, 4] rfl (by decide +kernel)) ggX7_value_X7_error
theorem dX7_value_0 : decode cX7_value 0 = .ok (.aload_n 0, 1) := by decide +kernel
theorem dX7_value_1 : decode cX7_value 1 = .ok (.iload_n 1, 1) := by decide +kernel
theorem dX7_value_2 : decode cX7_value 2 = .ok (.invokevirtual 137, 3) := by decide +kernel
theorem dX7_value_5 : decode cX7_value 5 = .ok (.ifCond .eq 11, 3) := by decide +kernel
theorem dX7_value_8 : decode cX7_value 8 = .ok (.aload_n 0, 1) := by decide +kernel
theorem dX7_value_9 : decode cX7_value 9 = .ok (.iload_n 1, 1) := by decide +kernel
theorem dX7_value_10 : decode cX7_value 10 = .ok (.invokevirtual 243, 3) := by decide +kernel
theorem dX7_value_13 : decode cX7_value 13 = .ok (.goto 8, 3) := by decide +kernel
theorem dX7_value_16 : decode cX7_value 16 = .ok (.aload_n 0, 1) := by decide +kernel
theorem dX7_value_17 : decode cX7_value 17 = .ok (.iconst 1, 1) := by decide +kernel
theorem dX7_value_18 : decode cX7_value 18 = .ok (.invokevirtual 64, 3) := by decide +kernel
theorem dX7_value_21 : decode cX7_value 21 = .ok (.ireturn, 1) := by decide +kernel
set_option maxRecDepth 20000 in
theorem ggX7_best_X7_valueOf : GoodIn wsX7_best wsX7_valueOf := goodIn_r _ [6, 1, 7, 8, 9, 5, 10, 11, 12, 13, 14, 15, 16, 17, 18, 19, 20, 21, 22, 23, 24, 25, 26, 27, 28, 29, 30, 31, 32, 33, 34, 35, 36, 37, 38] rfl (by decide +kernel)
set_option maxRecDepth 20000 in
theorem gX7_best_X7_valueOf : GoodIn wsX7_best (wsV RX7 243 RX7 yX7_valueOf wsX7_valueOf) := goodIn_app (goodIn_r _ [2, 3, 4, 5] rfl (by decide +kernel)) ggX7_best_X7_valueOf
theorem dX7_best_0 : decode cX7_best 0 = .ok (.iconst 0, 1) := by decide +kernel
theorem dX7_best_1 : decode cX7_best 1 = .ok (.istore_n 1, 1) := by decide +kernel
theorem dX7_best_2 : decode cX7_best 2 = .ok (.iconst 1, 1) := by decide +kernel
theorem dX7_best_3 : decode cX7_best 3 = .ok (.istore_n 2, 1) := by decide +kernel
theorem dX7_best_4 : decode cX7_best 4 = .ok (.iload_n 2, 1) := by decide +kernel
theorem dX7_best_5 : decode cX7_best 5 = .ok (.aload_n 0, 1) := by decide +kernel
theorem dX7_best_6 : decode cX7_best 6 = .ok (.getfield 7, 3) := by decide +kernel
theorem dX7_best_9 : decode cX7_best 9 = .ok (.iconst 1, 1) := by decide +kernel
theorem dX7_best_10 : decode cX7_best 10 = .ok (.iaload, 1) := by decide +kernel
theorem dX7_best_11 : decode cX7_best 11 = .ok (.if_icmp .gt 28, 3) := by decide +kernel
theorem dX7_best_14 : decode cX7_best 14 = .ok (.aload_n 0, 1) := by decide +kernel
theorem dX7_best_15 : decode cX7_best 15 = .ok (.iload_n 2, 1) := by decide +kernel
theorem dX7_best_16 : decode cX7_best 16 = .ok (.invokevirtual 243, 3) := by decide +kernel
theorem dX7_best_19 : decode cX7_best 19 = .ok (.aload_n 0, 1) := by decide +kernel
theorem dX7_best_20 : decode cX7_best 20 = .ok (.iload_n 1, 1) := by decide +kernel
theorem dX7_best_21 : decode cX7_best 21 = .ok (.invokevirtual 243, 3) := by decide +kernel
theorem dX7_best_24 : decode cX7_best 24 = .ok (.if_icmp .le 7, 3) := by decide +kernel
theorem dX7_best_27 : decode cX7_best 27 = .ok (.iload_n 2, 1) := by decide +kernel
theorem dX7_best_28 : decode cX7_best 28 = .ok (.goto 4, 3) := by decide +kernel
theorem dX7_best_31 : decode cX7_best 31 = .ok (.iload_n 1, 1) := by decide +kernel
theorem dX7_best_32 : decode cX7_best 32 = .ok (.istore_n 1, 1) := by decide +kernel
theorem dX7_best_33 : decode cX7_best 33 = .ok (.iinc 2 1, 3) := by decide +kernel
theorem dX7_best_36 : decode cX7_best 36 = .ok (.goto (-32), 3) := by decide +kernel
theorem dX7_best_39 : decode cX7_best 39 = .ok (.iload_n 1, 1) := by decide +kernel
theorem dX7_best_40 : decode cX7_best 40 = .ok (.ireturn, 1) := by decide +kernel
set_option maxRecDepth 20000 in
theorem ggX7_got_X7_areMinutes : GoodIn wsX7_got wsX7_areMinutes := goodIn_r _ [6, 1, 33, 34, 35, 36, 37, 38, 39, 40, 41, 42, 43, 44, 45, 46, 47, 48, 49, 50, 51, 52, 53, 54, 55, 56] rfl (by decide +kernel)
set_option maxRecDepth 20000 in
theorem gX7_got_X7_areMinutes : GoodIn wsX7_got (wsV RX7 231 RX7 yX7_areMinutes wsX7_areMinutes) := goodIn_app (goodIn_r _ [2, 3, 4, 5] rfl (by decide +kernel)) ggX7_got_X7_areMinutes
set_option maxRecDepth 20000 in
theorem ggX7_got_X7_error : GoodIn wsX7_got wsX7_error := goodIn_r _ [10, 11, 12, 33, 34, 35, 36, 37, 38, 39, 40, 41, 42, 43, 44, 45, 46, 47, 48, 49, 50, 51, 52, 53, 54, 55, 56] rfl (by decide +kernel)
set_option maxRecDepth 20000 in
theorem gX7_got_X7_error : GoodIn wsX7_got (wsV RX7 64 RX7 yX7_error wsX7_error) := goodIn_app (goodIn_r _ [7, 8, 9, 5] rfl (by decide +kernel)) ggX7_got_X7_error
set_option maxRecDepth 20000 in
theorem ggX7_got_X7_valueOf : GoodIn wsX7_got wsX7_valueOf := goodIn_r _ [16, 1, 17, 18, 19, 5, 20, 21, 22, 23, 24, 33, 34, 35, 36, 37, 38, 39, 40, 41, 42, 43, 44, 45, 46, 47, 48, 49, 50, 51, 52, 53, 54, 55, 56] rfl (by decide +kernel)
set_option maxRecDepth 20000 in
theorem gX7_got_X7_valueOf : GoodIn wsX7_got (wsV RX7 243 RX7 yX7_valueOf wsX7_valueOf) := goodIn_app (goodIn_r _ [13, 14, 15, 5] rfl (by decide +kernel)) ggX7_got_X7_valueOf
set_option maxRecDepth 20000 in
theorem ggX7_got_X7_within : GoodIn wsX7_got wsX7_within := goodIn_r _ [28, 1, 29, 30, 31, 5, 32, 33, 34, 35, 36, 37, 38, 39, 40, 41, 42, 43, 44, 45, 46, 47, 48, 49, 50, 51, 52, 53, 54, 55, 56] rfl (by decide +kernel)
set_option maxRecDepth 20000 in
theorem gX7_got_X7_within : GoodIn wsX7_got (wsV RX7 234 RX7 yX7_within wsX7_within) := goodIn_app (goodIn_r _ [25, 26, 27, 5] rfl (by decide +kernel)) ggX7_got_X7_within
theorem dX7_got_0 : decode cX7_got 0 = .ok (.aload_n 0, 1) := by decide +kernel
theorem dX7_got_1 : decode cX7_got 1 = .ok (.iload_n 1, 1) := by decide +kernel
theorem dX7_got_2 : decode cX7_got 2 = .ok (.iload_n 2, 1) := by decide +kernel
theorem dX7_got_3 : decode cX7_got 3 = .ok (.invokevirtual 231, 3) := by decide +kernel
theorem dX7_got_6 : decode cX7_got 6 = .ok (.ifCond .ne 9, 3) := by decide +kernel
theorem dX7_got_9 : decode cX7_got 9 = .ok (.aload_n 0, 1) := by decide +kernel
theorem dX7_got_10 : decode cX7_got 10 = .ok (.iconst 1, 1) := by decide +kernel
theorem dX7_got_11 : decode cX7_got 11 = .ok (.invokevirtual 64, 3) := by decide +kernel
theorem dX7_got_14 : decode cX7_got 14 = .ok (.ireturn, 1) := by decide +kernel
theorem dX7_got_15 : decode cX7_got 15 = .ok (.iconst 0, 1) := by decide +kernel
theorem dX7_got_16 : decode cX7_got 16 = .ok (.istore_n 3, 1) := by decide +kernel
theorem dX7_got_17 : decode cX7_got 17 = .ok (.iconst 0, 1) := by decide +kernel
theorem dX7_got_18 : decode cX7_got 18 = .ok (.istore 4, 2) := by decide +kernel
theorem dX7_got_20 : decode cX7_got 20 = .ok (.iload 4, 2) := by decide +kernel
theorem dX7_got_22 : decode cX7_got 22 = .ok (.aload_n 0, 1) := by decide +kernel
theorem dX7_got_23 : decode cX7_got 23 = .ok (.getfield 7, 3) := by decide +kernel
theorem dX7_got_26 : decode cX7_got 26 = .ok (.iconst 1, 1) := by decide +kernel
theorem dX7_got_27 : decode cX7_got 27 = .ok (.iaload, 1) := by decide +kernel
theorem dX7_got_28 : decode cX7_got 28 = .ok (.if_icmp .gt 27, 3) := by decide +kernel
theorem dX7_got_31 : decode cX7_got 31 = .ok (.iload_n 3, 1) := by decide +kernel
theorem dX7_got_32 : decode cX7_got 32 = .ok (.aload_n 0, 1) := by decide +kernel
theorem dX7_got_33 : decode cX7_got 33 = .ok (.iload 4, 2) := by decide +kernel
theorem dX7_got_35 : decode cX7_got 35 = .ok (.invokevirtual 243, 3) := by decide +kernel
theorem dX7_got_38 : decode cX7_got 38 = .ok (.aload_n 0, 1) := by decide +kernel
theorem dX7_got_39 : decode cX7_got 39 = .ok (.iload 4, 2) := by decide +kernel
theorem dX7_got_41 : decode cX7_got 41 = .ok (.iload_n 1, 1) := by decide +kernel
theorem dX7_got_42 : decode cX7_got 42 = .ok (.iload_n 2, 1) := by decide +kernel
theorem dX7_got_43 : decode cX7_got 43 = .ok (.invokevirtual 234, 3) := by decide +kernel
theorem dX7_got_46 : decode cX7_got 46 = .ok (.imul, 1) := by decide +kernel
theorem dX7_got_47 : decode cX7_got 47 = .ok (.iadd, 1) := by decide +kernel
theorem dX7_got_48 : decode cX7_got 48 = .ok (.istore_n 3, 1) := by decide +kernel
theorem dX7_got_49 : decode cX7_got 49 = .ok (.iinc 4 1, 3) := by decide +kernel
theorem dX7_got_52 : decode cX7_got 52 = .ok (.goto (-32), 3) := by decide +kernel
theorem dX7_got_55 : decode cX7_got 55 = .ok (.iload_n 3, 1) := by decide +kernel
theorem dX7_got_56 : decode cX7_got 56 = .ok (.ireturn, 1) := by decide +kernel
theorem dX7_begins_0 : decode cX7_begins 0 = .ok (.aload_n 0, 1) := by decide +kernel
theorem dX7_begins_1 : decode cX7_begins 1 = .ok (.getfield 246, 3) := by decide +kernel
theorem dX7_begins_4 : decode cX7_begins 4 = .ok (.bipush 30, 2) := by decide +kernel
theorem dX7_begins_6 : decode cX7_begins 6 = .ok (.if_icmp .ge 23, 3) := by decide +kernel
theorem dX7_begins_9 : decode cX7_begins 9 = .ok (.aload_n 0, 1) := by decide +kernel
theorem dX7_begins_10 : decode cX7_begins 10 = .ok (.getfield 40, 3) := by decide +kernel
theorem dX7_begins_13 : decode cX7_begins 13 = .ok (.aload_n 0, 1) := by decide +kernel
theorem dX7_begins_14 : decode cX7_begins 14 = .ok (.getfield 246, 3) := by decide +kernel
theorem dX7_begins_17 : decode cX7_begins 17 = .ok (.iload_n 1, 1) := by decide +kernel
theorem dX7_begins_18 : decode cX7_begins 18 = .ok (.iastore, 1) := by decide +kernel
theorem dX7_begins_19 : decode cX7_begins 19 = .ok (.aload_n 0, 1) := by decide +kernel
theorem dX7_begins_20 : decode cX7_begins 20 = .ok (.dup, 1) := by decide +kernel
theorem dX7_begins_21 : decode cX7_begins 21 = .ok (.getfield 246, 3) := by decide +kernel
theorem dX7_begins_24 : decode cX7_begins 24 = .ok (.iconst 1, 1) := by decide +kernel
theorem dX7_begins_25 : decode cX7_begins 25 = .ok (.iadd, 1) := by decide +kernel
theorem dX7_begins_26 : decode cX7_begins 26 = .ok (.putfield 246, 3) := by decide +kernel
theorem dX7_begins_29 : decode cX7_begins 29 = .ok (.return_, 1) := by decide +kernel
theorem dX7_above_0 : decode cX7_above 0 = .ok (.iload_n 0, 1) := by decide +kernel
theorem dX7_above_1 : decode cX7_above 1 = .ok (.iconst 4, 1) := by decide +kernel
theorem dX7_above_2 : decode cX7_above 2 = .ok (.if_icmp .eq 8, 3) := by decide +kernel
theorem dX7_above_5 : decode cX7_above 5 = .ok (.iload_n 0, 1) := by decide +kernel
theorem dX7_above_6 : decode cX7_above 6 = .ok (.iconst 5, 1) := by decide +kernel
theorem dX7_above_7 : decode cX7_above 7 = .ok (.if_icmp .ne 7, 3) := by decide +kernel
theorem dX7_above_10 : decode cX7_above 10 = .ok (.iconst 1, 1) := by decide +kernel
theorem dX7_above_11 : decode cX7_above 11 = .ok (.goto 13, 3) := by decide +kernel
theorem dX7_above_14 : decode cX7_above 14 = .ok (.iload_n 0, 1) := by decide +kernel
theorem dX7_above_15 : decode cX7_above 15 = .ok (.iconst 3, 1) := by decide +kernel
theorem dX7_above_16 : decode cX7_above 16 = .ok (.if_icmp .ne 7, 3) := by decide +kernel
theorem dX7_above_19 : decode cX7_above 19 = .ok (.iconst 2, 1) := by decide +kernel
theorem dX7_above_20 : decode cX7_above 20 = .ok (.goto 4, 3) := by decide +kernel
theorem dX7_above_23 : decode cX7_above 23 = .ok (.iconst 0, 1) := by decide +kernel
theorem dX7_above_24 : decode cX7_above 24 = .ok (.ireturn, 1) := by decide +kernel
set_option maxRecDepth 20000 in
theorem ggX7_kindNow_X7_actIs1 : GoodIn wsX7_kindNow wsX7_actIs1 := goodIn_r _ [6, 7, 8, 9, 10, 11, 12, 13, 14, 15, 16, 17, 18, 19, 20, 21, 22, 23, 24, 25, 26, 27, 28, 29, 30, 31] rfl (by decide +kernel)
set_option maxRecDepth 20000 in
theorem gX7_kindNow_X7_actIs1 : GoodIn wsX7_kindNow (wsV RX7 67 RX7 yX7_actIs1 wsX7_actIs1) := goodIn_app (goodIn_r _ [2, 3, 4, 5] rfl (by decide +kernel)) ggX7_kindNow_X7_actIs1
theorem dX7_kindNow_0 : decode cX7_kindNow 0 = .ok (.aload_n 0, 1) := by decide +kernel
theorem dX7_kindNow_1 : decode cX7_kindNow 1 = .ok (.aload_n 0, 1) := by decide +kernel
theorem dX7_kindNow_2 : decode cX7_kindNow 2 = .ok (.getfield 249, 3) := by decide +kernel
theorem dX7_kindNow_5 : decode cX7_kindNow 5 = .ok (.iconst 0, 1) := by decide +kernel
theorem dX7_kindNow_6 : decode cX7_kindNow 6 = .ok (.invokevirtual 67, 3) := by decide +kernel
theorem dX7_kindNow_9 : decode cX7_kindNow 9 = .ok (.ireturn, 1) := by decide +kernel
set_option maxRecDepth 20000 in
theorem ggX7_writerNow_X7_actIs1 : GoodIn wsX7_writerNow wsX7_actIs1 := goodIn_r _ [6, 7, 8, 9, 10, 11, 12, 13, 14, 15, 16, 17, 18, 19, 20, 21, 22, 23, 24, 25, 26, 27, 28, 29, 30, 31] rfl (by decide +kernel)
set_option maxRecDepth 20000 in
theorem gX7_writerNow_X7_actIs1 : GoodIn wsX7_writerNow (wsV RX7 67 RX7 yX7_actIs1 wsX7_actIs1) := goodIn_app (goodIn_r _ [2, 3, 4, 5] rfl (by decide +kernel)) ggX7_writerNow_X7_actIs1
theorem dX7_writerNow_0 : decode cX7_writerNow 0 = .ok (.aload_n 0, 1) := by decide +kernel
theorem dX7_writerNow_1 : decode cX7_writerNow 1 = .ok (.aload_n 0, 1) := by decide +kernel
theorem dX7_writerNow_2 : decode cX7_writerNow 2 = .ok (.getfield 249, 3) := by decide +kernel
theorem dX7_writerNow_5 : decode cX7_writerNow 5 = .ok (.iconst 1, 1) := by decide +kernel
theorem dX7_writerNow_6 : decode cX7_writerNow 6 = .ok (.invokevirtual 67, 3) := by decide +kernel
theorem dX7_writerNow_9 : decode cX7_writerNow 9 = .ok (.ireturn, 1) := by decide +kernel
set_option maxRecDepth 20000 in
theorem ggX7_does_X7_begins : GoodIn wsX7_does wsX7_begins := goodIn_r _ [5, 6, 7, 24, 25, 26, 27, 28, 29, 30, 31, 32, 33, 34, 35, 36, 37, 38, 39, 40, 41, 42, 43, 44, 45, 46, 47] rfl (by decide +kernel)
set_option maxRecDepth 20000 in
theorem gX7_does_X7_begins : GoodIn wsX7_does (wsV RX7 252 RX7 yX7_begins wsX7_begins) := goodIn_app (goodIn_r _ [1, 2, 3, 4] rfl (by decide +kernel)) ggX7_does_X7_begins
set_option maxRecDepth 20000 in
theorem ggX7_does_X7_writerNow : GoodIn wsX7_does wsX7_writerNow := goodIn_r _ [11, 12, 13, 14, 15, 4, 16, 17, 24, 25, 26, 27, 28, 29, 30, 31, 32, 33, 34, 35, 36, 37, 38, 39, 40, 41, 42, 43, 44, 45, 46, 47] rfl (by decide +kernel)
set_option maxRecDepth 20000 in
theorem gX7_does_X7_writerNow : GoodIn wsX7_does (wsV RX7 255 RX7 yX7_writerNow wsX7_writerNow) := goodIn_app (goodIn_r _ [8, 9, 10, 4] rfl (by decide +kernel)) ggX7_does_X7_writerNow
set_option maxRecDepth 20000 in
theorem ggX7_does_X7_above : GoodIn wsX7_does wsX7_above := goodIn_r _ [20] rfl (by decide +kernel)
set_option maxRecDepth 20000 in
theorem gX7_does_X7_above : GoodIn wsX7_does (va_wsS RX7 258 yX7_above wsX7_above) := goodIn_app (goodIn_r _ [18, 19, 4] rfl (by decide +kernel)) ggX7_does_X7_above
set_option maxRecDepth 20000 in
theorem ggX7_does_X7_does : GoodIn wsX7_does wsX7_does := goodIn_r _ [0, 1, 2, 3, 4, 5, 6, 7, 8, 9, 10, 11, 12, 13, 14, 15, 16, 17, 18, 19, 20, 21, 22, 23, 24, 25, 26, 27, 28, 29, 30, 31, 32, 33, 34, 35, 36, 37, 38, 39, 40, 41, 42, 43, 44, 45, 46, 47] rfl (by decide +kernel)
set_option maxRecDepth 20000 in
theorem gX7_does_X7_does : GoodIn wsX7_does (wsV RX7 261 RX7 yX7_does wsX7_does) := goodIn_app (goodIn_r _ [21, 22, 23, 4] rfl (by decide +kernel)) ggX7_does_X7_does
theorem dX7_does_0 : decode cX7_does 0 = .ok (.iload_n 1, 1) := by decide +kernel
theorem dX7_does_1 : decode cX7_does 1 = .ok (.tableswitch 100 0 6 #[43, 56, 100, 100, 74, 100, 92], 43) := by decide +kernel
theorem dX7_does_44 : decode cX7_does 44 = .ok (.aload_n 0, 1) := by decide +kernel
theorem dX7_does_45 : decode cX7_does 45 = .ok (.bipush 10, 2) := by decide +kernel
theorem dX7_does_47 : decode cX7_does 47 = .ok (.invokevirtual 252, 3) := by decide +kernel
theorem dX7_does_50 : decode cX7_does 50 = .ok (.iload_n 2, 1) := by decide +kernel
theorem dX7_does_51 : decode cX7_does 51 = .ok (.aload_n 0, 1) := by decide +kernel
theorem dX7_does_52 : decode cX7_does 52 = .ok (.invokevirtual 255, 3) := by decide +kernel
theorem dX7_does_55 : decode cX7_does 55 = .ok (.iadd, 1) := by decide +kernel
theorem dX7_does_56 : decode cX7_does 56 = .ok (.ireturn, 1) := by decide +kernel
theorem dX7_does_57 : decode cX7_does 57 = .ok (.aload_n 0, 1) := by decide +kernel
theorem dX7_does_58 : decode cX7_does 58 = .ok (.bipush 20, 2) := by decide +kernel
theorem dX7_does_60 : decode cX7_does 60 = .ok (.invokevirtual 252, 3) := by decide +kernel
theorem dX7_does_63 : decode cX7_does 63 = .ok (.aload_n 0, 1) := by decide +kernel
theorem dX7_does_64 : decode cX7_does 64 = .ok (.iconst 1, 1) := by decide +kernel
theorem dX7_does_65 : decode cX7_does 65 = .ok (.invokestatic 258, 3) := by decide +kernel
theorem dX7_does_68 : decode cX7_does 68 = .ok (.iload_n 2, 1) := by decide +kernel
theorem dX7_does_69 : decode cX7_does 69 = .ok (.invokevirtual 261, 3) := by decide +kernel
theorem dX7_does_72 : decode cX7_does 72 = .ok (.iconst 3, 1) := by decide +kernel
theorem dX7_does_73 : decode cX7_does 73 = .ok (.iadd, 1) := by decide +kernel
theorem dX7_does_74 : decode cX7_does 74 = .ok (.ireturn, 1) := by decide +kernel
theorem dX7_does_75 : decode cX7_does 75 = .ok (.aload_n 0, 1) := by decide +kernel
theorem dX7_does_76 : decode cX7_does 76 = .ok (.bipush 50, 2) := by decide +kernel
theorem dX7_does_78 : decode cX7_does 78 = .ok (.invokevirtual 252, 3) := by decide +kernel
theorem dX7_does_81 : decode cX7_does 81 = .ok (.aload_n 0, 1) := by decide +kernel
theorem dX7_does_82 : decode cX7_does 82 = .ok (.iconst 4, 1) := by decide +kernel
theorem dX7_does_83 : decode cX7_does 83 = .ok (.invokestatic 258, 3) := by decide +kernel
theorem dX7_does_86 : decode cX7_does 86 = .ok (.iload_n 2, 1) := by decide +kernel
theorem dX7_does_87 : decode cX7_does 87 = .ok (.invokevirtual 261, 3) := by decide +kernel
theorem dX7_does_90 : decode cX7_does 90 = .ok (.iconst 3, 1) := by decide +kernel
theorem dX7_does_91 : decode cX7_does 91 = .ok (.imul, 1) := by decide +kernel
theorem dX7_does_92 : decode cX7_does 92 = .ok (.ireturn, 1) := by decide +kernel
theorem dX7_does_93 : decode cX7_does 93 = .ok (.aload_n 0, 1) := by decide +kernel
theorem dX7_does_94 : decode cX7_does 94 = .ok (.bipush 70, 2) := by decide +kernel
theorem dX7_does_96 : decode cX7_does 96 = .ok (.invokevirtual 252, 3) := by decide +kernel
theorem dX7_does_99 : decode cX7_does 99 = .ok (.iconst 0, 1) := by decide +kernel
theorem dX7_does_100 : decode cX7_does 100 = .ok (.ireturn, 1) := by decide +kernel
theorem dX7_does_101 : decode cX7_does 101 = .ok (.aload_n 0, 1) := by decide +kernel
theorem dX7_does_102 : decode cX7_does 102 = .ok (.iload_n 1, 1) := by decide +kernel
theorem dX7_does_103 : decode cX7_does 103 = .ok (.invokestatic 258, 3) := by decide +kernel
theorem dX7_does_106 : decode cX7_does 106 = .ok (.iload_n 2, 1) := by decide +kernel
theorem dX7_does_107 : decode cX7_does 107 = .ok (.invokevirtual 261, 3) := by decide +kernel
theorem dX7_does_110 : decode cX7_does 110 = .ok (.ireturn, 1) := by decide +kernel
set_option maxRecDepth 20000 in
theorem ggX7_undoes_X7_begins : GoodIn wsX7_undoes wsX7_begins := goodIn_r _ [6, 7, 8, 32, 33, 34, 35, 36, 37, 38, 39, 40, 41, 42, 43, 44, 45, 46, 47, 48, 49, 50, 51, 52, 53, 54, 55] rfl (by decide +kernel)
set_option maxRecDepth 20000 in
theorem gX7_undoes_X7_begins : GoodIn wsX7_undoes (wsV RX7 252 RX7 yX7_begins wsX7_begins) := goodIn_app (goodIn_r _ [2, 3, 4, 5] rfl (by decide +kernel)) ggX7_undoes_X7_begins
set_option maxRecDepth 20000 in
theorem ggX7_undoes_X7_kindNow : GoodIn wsX7_undoes wsX7_kindNow := goodIn_r _ [12, 1, 13, 14, 15, 5, 16, 17, 32, 33, 34, 35, 36, 37, 38, 39, 40, 41, 42, 43, 44, 45, 46, 47, 48, 49, 50, 51, 52, 53, 54, 55] rfl (by decide +kernel)
set_option maxRecDepth 20000 in
theorem gX7_undoes_X7_kindNow : GoodIn wsX7_undoes (wsV RX7 264 RX7 yX7_kindNow wsX7_kindNow) := goodIn_app (goodIn_r _ [9, 10, 11, 5] rfl (by decide +kernel)) ggX7_undoes_X7_kindNow
set_option maxRecDepth 20000 in
theorem ggX7_undoes_X7_does : GoodIn wsX7_undoes wsX7_does := goodIn_r _ [21, 2, 3, 4, 5, 6, 7, 8, 22, 23, 24, 25, 1, 13, 14, 15, 16, 17, 26, 27, 28, 18, 19, 20, 32, 33, 34, 35, 36, 37, 38, 39, 40, 41, 42, 43, 44, 45, 46, 47, 48, 49, 50, 51, 52, 53, 54, 55] rfl (by decide +kernel)
set_option maxRecDepth 20000 in
theorem gX7_undoes_X7_does : GoodIn wsX7_undoes (wsV RX7 261 RX7 yX7_does wsX7_does) := goodIn_app (goodIn_r _ [18, 19, 20, 5] rfl (by decide +kernel)) ggX7_undoes_X7_does
set_option maxRecDepth 20000 in
theorem ggX7_undoes_X7_above : GoodIn wsX7_undoes wsX7_above := goodIn_r _ [28] rfl (by decide +kernel)
set_option maxRecDepth 20000 in
theorem gX7_undoes_X7_above : GoodIn wsX7_undoes (va_wsS RX7 258 yX7_above wsX7_above) := goodIn_app (goodIn_r _ [26, 27, 5] rfl (by decide +kernel)) ggX7_undoes_X7_above
set_option maxRecDepth 20000 in
theorem ggX7_undoes_X7_undoes : GoodIn wsX7_undoes wsX7_undoes := goodIn_r _ [0, 1, 2, 3, 4, 5, 6, 7, 8, 9, 10, 11, 12, 13, 14, 15, 16, 17, 18, 19, 20, 21, 22, 23, 24, 25, 26, 27, 28, 29, 30, 31, 32, 33, 34, 35, 36, 37, 38, 39, 40, 41, 42, 43, 44, 45, 46, 47, 48, 49, 50, 51, 52, 53, 54, 55] rfl (by decide +kernel)
set_option maxRecDepth 20000 in
theorem gX7_undoes_X7_undoes : GoodIn wsX7_undoes (wsV RX7 267 RX7 yX7_undoes wsX7_undoes) := goodIn_app (goodIn_r _ [29, 30, 31, 5] rfl (by decide +kernel)) ggX7_undoes_X7_undoes
theorem dX7_undoes_0 : decode cX7_undoes 0 = .ok (.iload_n 1, 1) := by decide +kernel
theorem dX7_undoes_1 : decode cX7_undoes 1 = .ok (.tableswitch 123 0 7 #[47, 123, 65, 83, 123, 123, 123, 101], 47) := by decide +kernel
theorem dX7_undoes_48 : decode cX7_undoes 48 = .ok (.aload_n 0, 1) := by decide +kernel
theorem dX7_undoes_49 : decode cX7_undoes 49 = .ok (.bipush 11, 2) := by decide +kernel
theorem dX7_undoes_51 : decode cX7_undoes 51 = .ok (.invokevirtual 252, 3) := by decide +kernel
theorem dX7_undoes_54 : decode cX7_undoes 54 = .ok (.aload_n 0, 1) := by decide +kernel
theorem dX7_undoes_55 : decode cX7_undoes 55 = .ok (.aload_n 0, 1) := by decide +kernel
theorem dX7_undoes_56 : decode cX7_undoes 56 = .ok (.invokevirtual 264, 3) := by decide +kernel
theorem dX7_undoes_59 : decode cX7_undoes 59 = .ok (.iload_n 2, 1) := by decide +kernel
theorem dX7_undoes_60 : decode cX7_undoes 60 = .ok (.invokevirtual 261, 3) := by decide +kernel
theorem dX7_undoes_63 : decode cX7_undoes 63 = .ok (.iconst 2, 1) := by decide +kernel
theorem dX7_undoes_64 : decode cX7_undoes 64 = .ok (.imul, 1) := by decide +kernel
theorem dX7_undoes_65 : decode cX7_undoes 65 = .ok (.ireturn, 1) := by decide +kernel
theorem dX7_undoes_66 : decode cX7_undoes 66 = .ok (.aload_n 0, 1) := by decide +kernel
theorem dX7_undoes_67 : decode cX7_undoes 67 = .ok (.bipush 30, 2) := by decide +kernel
theorem dX7_undoes_69 : decode cX7_undoes 69 = .ok (.invokevirtual 252, 3) := by decide +kernel
theorem dX7_undoes_72 : decode cX7_undoes 72 = .ok (.iconst 0, 1) := by decide +kernel
