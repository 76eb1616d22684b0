theorem dX6_put_0 : decode cX6_put 0 = .ok (.iload_n 1, 1) := by decide +kernel
theorem dX6_put_1 : decode cX6_put 1 = .ok (.invokestatic 260, 3) := by decide +kernel
theorem dX6_put_4 : decode cX6_put 4 = .ok (.ifCond .ne 9, 3) := by decide +kernel
theorem dX6_put_7 : decode cX6_put 7 = .ok (.aload_n 0, 1) := by decide +kernel
theorem dX6_put_8 : decode cX6_put 8 = .ok (.iconst 1, 1) := by decide +kernel
theorem dX6_put_9 : decode cX6_put 9 = .ok (.invokevirtual 41, 3) := by decide +kernel
theorem dX6_put_12 : decode cX6_put 12 = .ok (.ireturn, 1) := by decide +kernel
theorem dX6_put_13 : decode cX6_put 13 = .ok (.aload_n 0, 1) := by decide +kernel
theorem dX6_put_14 : decode cX6_put 14 = .ok (.getfield 33, 3) := by decide +kernel
theorem dX6_put_17 : decode cX6_put 17 = .ok (.getfield 267, 3) := by decide +kernel
theorem dX6_put_20 : decode cX6_put 20 = .ok (.iload_n 1, 1) := by decide +kernel
theorem dX6_put_21 : decode cX6_put 21 = .ok (.iaload, 1) := by decide +kernel
theorem dX6_put_22 : decode cX6_put 22 = .ok (.ifCond .ne 9, 3) := by decide +kernel
theorem dX6_put_25 : decode cX6_put 25 = .ok (.aload_n 0, 1) := by decide +kernel
theorem dX6_put_26 : decode cX6_put 26 = .ok (.iconst 2, 1) := by decide +kernel
theorem dX6_put_27 : decode cX6_put 27 = .ok (.invokevirtual 41, 3) := by decide +kernel
theorem dX6_put_30 : decode cX6_put 30 = .ok (.ireturn, 1) := by decide +kernel
theorem dX6_put_31 : decode cX6_put 31 = .ok (.iload_n 2, 1) := by decide +kernel
theorem dX6_put_32 : decode cX6_put 32 = .ok (.ifCond .lt 16, 3) := by decide +kernel
theorem dX6_put_35 : decode cX6_put 35 = .ok (.iload_n 2, 1) := by decide +kernel
theorem dX6_put_36 : decode cX6_put 36 = .ok (.aload_n 0, 1) := by decide +kernel
theorem dX6_put_37 : decode cX6_put 37 = .ok (.getfield 33, 3) := by decide +kernel
theorem dX6_put_40 : decode cX6_put 40 = .ok (.getfield 270, 3) := by decide +kernel
theorem dX6_put_43 : decode cX6_put 43 = .ok (.iload_n 1, 1) := by decide +kernel
theorem dX6_put_44 : decode cX6_put 44 = .ok (.iaload, 1) := by decide +kernel
theorem dX6_put_45 : decode cX6_put 45 = .ok (.if_icmp .lt 9, 3) := by decide +kernel
theorem dX6_put_48 : decode cX6_put 48 = .ok (.aload_n 0, 1) := by decide +kernel
theorem dX6_put_49 : decode cX6_put 49 = .ok (.iconst 1, 1) := by decide +kernel
theorem dX6_put_50 : decode cX6_put 50 = .ok (.invokevirtual 41, 3) := by decide +kernel
theorem dX6_put_53 : decode cX6_put 53 = .ok (.ireturn, 1) := by decide +kernel
theorem dX6_put_54 : decode cX6_put 54 = .ok (.aload_n 0, 1) := by decide +kernel
theorem dX6_put_55 : decode cX6_put 55 = .ok (.getfield 33, 3) := by decide +kernel
theorem dX6_put_58 : decode cX6_put 58 = .ok (.iload_n 1, 1) := by decide +kernel
theorem dX6_put_59 : decode cX6_put 59 = .ok (.iload_n 2, 1) := by decide +kernel
theorem dX6_put_60 : decode cX6_put 60 = .ok (.iload_n 3, 1) := by decide +kernel
theorem dX6_put_61 : decode cX6_put 61 = .ok (.invokevirtual 271, 3) := by decide +kernel
theorem dX6_put_64 : decode cX6_put 64 = .ok (.iconst 1, 1) := by decide +kernel
theorem dX6_put_65 : decode cX6_put 65 = .ok (.ireturn, 1) := by decide +kernel
set_option maxRecDepth 20000 in
theorem ggX6_move_X6_isSheet : GoodIn wsX6_move wsX6_isSheet := goodIn_r _ [5] rfl (by decide +kernel)
set_option maxRecDepth 20000 in
theorem gX6_move_X6_isSheet : GoodIn wsX6_move (va_wsS RX6 260 yX6_isSheet wsX6_isSheet) := goodIn_app (goodIn_r _ [2, 3, 4] rfl (by decide +kernel)) ggX6_move_X6_isSheet
set_option maxRecDepth 20000 in
theorem ggX6_move_X6_error : GoodIn wsX6_move wsX6_error := goodIn_r _ [9, 10, 11, 27, 28, 29, 30, 31, 32, 33] rfl (by decide +kernel)
set_option maxRecDepth 20000 in
theorem gX6_move_X6_error : GoodIn wsX6_move (wsV RX6 41 RX6 yX6_error wsX6_error) := goodIn_app (goodIn_r _ [6, 7, 8, 4] rfl (by decide +kernel)) ggX6_move_X6_error
set_option maxRecDepth 20000 in
theorem ggX6_move_X3_hold : GoodIn wsX6_move wsX3_hold := goodIn_r _ [16, 17, 34, 35, 36] rfl (by decide +kernel)
set_option maxRecDepth 20000 in
theorem gX6_move_X3_hold : GoodIn wsX6_move (wsV RX6 274 RX3 yX3_hold wsX3_hold) := goodIn_app (goodIn_r _ [12, 13, 14, 15] rfl (by decide +kernel)) ggX6_move_X3_hold
set_option maxRecDepth 20000 in
theorem ggX6_move_X3_copies : GoodIn wsX6_move wsX3_copies := goodIn_r _ [21, 22, 23, 24, 25, 26, 34, 35, 36] rfl (by decide +kernel)
set_option maxRecDepth 20000 in
theorem gX6_move_X3_copies : GoodIn wsX6_move (wsV RX6 278 RX3 yX3_copies wsX3_copies) := goodIn_app (goodIn_r _ [18, 19, 20, 15] rfl (by decide +kernel)) ggX6_move_X3_copies
theorem dX6_move_0 : decode cX6_move 0 = .ok (.iload_n 1, 1) := by decide +kernel
theorem dX6_move_1 : decode cX6_move 1 = .ok (.invokestatic 260, 3) := by decide +kernel
theorem dX6_move_4 : decode cX6_move 4 = .ok (.ifCond .eq 10, 3) := by decide +kernel
theorem dX6_move_7 : decode cX6_move 7 = .ok (.iload_n 3, 1) := by decide +kernel
theorem dX6_move_8 : decode cX6_move 8 = .ok (.invokestatic 260, 3) := by decide +kernel
theorem dX6_move_11 : decode cX6_move 11 = .ok (.ifCond .ne 9, 3) := by decide +kernel
theorem dX6_move_14 : decode cX6_move 14 = .ok (.aload_n 0, 1) := by decide +kernel
theorem dX6_move_15 : decode cX6_move 15 = .ok (.iconst 1, 1) := by decide +kernel
theorem dX6_move_16 : decode cX6_move 16 = .ok (.invokevirtual 41, 3) := by decide +kernel
theorem dX6_move_19 : decode cX6_move 19 = .ok (.ireturn, 1) := by decide +kernel
theorem dX6_move_20 : decode cX6_move 20 = .ok (.aload_n 0, 1) := by decide +kernel
theorem dX6_move_21 : decode cX6_move 21 = .ok (.getfield 33, 3) := by decide +kernel
theorem dX6_move_24 : decode cX6_move 24 = .ok (.getfield 267, 3) := by decide +kernel
theorem dX6_move_27 : decode cX6_move 27 = .ok (.iload_n 1, 1) := by decide +kernel
theorem dX6_move_28 : decode cX6_move 28 = .ok (.iaload, 1) := by decide +kernel
theorem dX6_move_29 : decode cX6_move 29 = .ok (.ifCond .eq 15, 3) := by decide +kernel
theorem dX6_move_32 : decode cX6_move 32 = .ok (.aload_n 0, 1) := by decide +kernel
theorem dX6_move_33 : decode cX6_move 33 = .ok (.getfield 33, 3) := by decide +kernel
theorem dX6_move_36 : decode cX6_move 36 = .ok (.getfield 267, 3) := by decide +kernel
theorem dX6_move_39 : decode cX6_move 39 = .ok (.iload_n 3, 1) := by decide +kernel
theorem dX6_move_40 : decode cX6_move 40 = .ok (.iaload, 1) := by decide +kernel
theorem dX6_move_41 : decode cX6_move 41 = .ok (.ifCond .ne 9, 3) := by decide +kernel
theorem dX6_move_44 : decode cX6_move 44 = .ok (.aload_n 0, 1) := by decide +kernel
theorem dX6_move_45 : decode cX6_move 45 = .ok (.iconst 2, 1) := by decide +kernel
theorem dX6_move_46 : decode cX6_move 46 = .ok (.invokevirtual 41, 3) := by decide +kernel
theorem dX6_move_49 : decode cX6_move 49 = .ok (.ireturn, 1) := by decide +kernel
theorem dX6_move_50 : decode cX6_move 50 = .ok (.aload_n 0, 1) := by decide +kernel
theorem dX6_move_51 : decode cX6_move 51 = .ok (.getfield 33, 3) := by decide +kernel
theorem dX6_move_54 : decode cX6_move 54 = .ok (.getfield 267, 3) := by decide +kernel
theorem dX6_move_57 : decode cX6_move 57 = .ok (.iload_n 1, 1) := by decide +kernel
theorem dX6_move_58 : decode cX6_move 58 = .ok (.iaload, 1) := by decide +kernel
theorem dX6_move_59 : decode cX6_move 59 = .ok (.aload_n 0, 1) := by decide +kernel
theorem dX6_move_60 : decode cX6_move 60 = .ok (.getfield 33, 3) := by decide +kernel
theorem dX6_move_63 : decode cX6_move 63 = .ok (.getfield 267, 3) := by decide +kernel
theorem dX6_move_66 : decode cX6_move 66 = .ok (.iload_n 3, 1) := by decide +kernel
theorem dX6_move_67 : decode cX6_move 67 = .ok (.iaload, 1) := by decide +kernel
theorem dX6_move_68 : decode cX6_move 68 = .ok (.if_icmp .eq 9, 3) := by decide +kernel
theorem dX6_move_71 : decode cX6_move 71 = .ok (.aload_n 0, 1) := by decide +kernel
theorem dX6_move_72 : decode cX6_move 72 = .ok (.iconst 5, 1) := by decide +kernel
theorem dX6_move_73 : decode cX6_move 73 = .ok (.invokevirtual 41, 3) := by decide +kernel
theorem dX6_move_76 : decode cX6_move 76 = .ok (.ireturn, 1) := by decide +kernel
theorem dX6_move_77 : decode cX6_move 77 = .ok (.aload_n 0, 1) := by decide +kernel
theorem dX6_move_78 : decode cX6_move 78 = .ok (.getfield 33, 3) := by decide +kernel
theorem dX6_move_81 : decode cX6_move 81 = .ok (.iload_n 1, 1) := by decide +kernel
theorem dX6_move_82 : decode cX6_move 82 = .ok (.iload_n 2, 1) := by decide +kernel
theorem dX6_move_83 : decode cX6_move 83 = .ok (.iload 5, 2) := by decide +kernel
theorem dX6_move_85 : decode cX6_move 85 = .ok (.invokevirtual 274, 3) := by decide +kernel
theorem dX6_move_88 : decode cX6_move 88 = .ok (.ifCond .eq 18, 3) := by decide +kernel
theorem dX6_move_91 : decode cX6_move 91 = .ok (.aload_n 0, 1) := by decide +kernel
theorem dX6_move_92 : decode cX6_move 92 = .ok (.getfield 33, 3) := by decide +kernel
theorem dX6_move_95 : decode cX6_move 95 = .ok (.iload_n 3, 1) := by decide +kernel
theorem dX6_move_96 : decode cX6_move 96 = .ok (.iload 4, 2) := by decide +kernel
theorem dX6_move_98 : decode cX6_move 98 = .ok (.iload 5, 2) := by decide +kernel
theorem dX6_move_100 : decode cX6_move 100 = .ok (.invokevirtual 274, 3) := by decide +kernel
theorem dX6_move_103 : decode cX6_move 103 = .ok (.ifCond .ne 9, 3) := by decide +kernel
theorem dX6_move_106 : decode cX6_move 106 = .ok (.aload_n 0, 1) := by decide +kernel
theorem dX6_move_107 : decode cX6_move 107 = .ok (.iconst 1, 1) := by decide +kernel
theorem dX6_move_108 : decode cX6_move 108 = .ok (.invokevirtual 41, 3) := by decide +kernel
theorem dX6_move_111 : decode cX6_move 111 = .ok (.ireturn, 1) := by decide +kernel
theorem dX6_move_112 : decode cX6_move 112 = .ok (.aload_n 0, 1) := by decide +kernel
theorem dX6_move_113 : decode cX6_move 113 = .ok (.getfield 33, 3) := by decide +kernel
theorem dX6_move_116 : decode cX6_move 116 = .ok (.iload_n 1, 1) := by decide +kernel
theorem dX6_move_117 : decode cX6_move 117 = .ok (.iload_n 2, 1) := by decide +kernel
theorem dX6_move_118 : decode cX6_move 118 = .ok (.iload_n 3, 1) := by decide +kernel
theorem dX6_move_119 : decode cX6_move 119 = .ok (.iload 4, 2) := by decide +kernel
theorem dX6_move_121 : decode cX6_move 121 = .ok (.iload 5, 2) := by decide +kernel
theorem dX6_move_123 : decode cX6_move 123 = .ok (.invokevirtual 278, 3) := by decide +kernel
theorem dX6_move_126 : decode cX6_move 126 = .ok (.iload 5, 2) := by decide +kernel
theorem dX6_move_128 : decode cX6_move 128 = .ok (.ireturn, 1) := by decide +kernel
set_option maxRecDepth 20000 in
theorem ggX6_words_X6_isSheet : GoodIn wsX6_words wsX6_isSheet := goodIn_r _ [6] rfl (by decide +kernel)
set_option maxRecDepth 20000 in
theorem gX6_words_X6_isSheet : GoodIn wsX6_words (va_wsS RX6 260 yX6_isSheet wsX6_isSheet) := goodIn_app (goodIn_r _ [3, 4, 5] rfl (by decide +kernel)) ggX6_words_X6_isSheet
set_option maxRecDepth 20000 in
theorem ggX6_words_X6_isWriter : GoodIn wsX6_words wsX6_isWriter := goodIn_r _ [9] rfl (by decide +kernel)
set_option maxRecDepth 20000 in
theorem gX6_words_X6_isWriter : GoodIn wsX6_words (va_wsS RX6 59 yX6_isWriter wsX6_isWriter) := goodIn_app (goodIn_r _ [7, 8, 5] rfl (by decide +kernel)) ggX6_words_X6_isWriter
set_option maxRecDepth 20000 in
theorem ggX6_words_X6_error : GoodIn wsX6_words wsX6_error := goodIn_r _ [13, 14, 15, 148, 149, 150, 151, 152, 153, 154] rfl (by decide +kernel)
set_option maxRecDepth 20000 in
theorem gX6_words_X6_error : GoodIn wsX6_words (wsV RX6 41 RX6 yX6_error wsX6_error) := goodIn_app (goodIn_r _ [10, 11, 12, 5] rfl (by decide +kernel)) ggX6_words_X6_error
set_option maxRecDepth 20000 in
theorem ggX6_words_X0_pageSize : GoodIn wsX6_words wsX0_pageSize := goodIn_r _ [20, 21, 22, 167, 168, 169, 170, 171, 172, 173, 174, 175, 176] rfl (by decide +kernel)
set_option maxRecDepth 20000 in
theorem gX6_words_X0_pageSize : GoodIn wsX6_words (wsV RX6 67 RX0 yX0_pageSize wsX0_pageSize) := goodIn_app (goodIn_r _ [16, 17, 18, 19] rfl (by decide +kernel)) ggX6_words_X0_pageSize
set_option maxRecDepth 20000 in
theorem ggX6_words_X3_numberAt : GoodIn wsX6_words wsX3_numberAt := goodIn_r _ [27, 28, 155, 156, 157] rfl (by decide +kernel)
set_option maxRecDepth 20000 in
theorem gX6_words_X3_numberAt : GoodIn wsX6_words (wsV RX6 282 RX3 yX3_numberAt wsX3_numberAt) := goodIn_app (goodIn_r _ [23, 24, 25, 26] rfl (by decide +kernel)) ggX6_words_X3_numberAt
set_option maxRecDepth 20000 in
theorem ggX6_words_X1_refusesPutting : GoodIn wsX6_words wsX1_refusesPutting := goodIn_r _ [33, 34, 35, 17, 18, 19, 20, 21, 22, 8, 5, 9, 36, 37, 38, 39, 40, 32, 41, 42, 43, 44, 45, 46, 47, 48, 49, 50, 51, 52, 53, 54, 55, 56, 57, 58, 59, 60, 61, 62, 63, 64, 65, 66, 67, 68, 69, 70, 71, 72, 73, 74, 75, 76, 77, 78, 79, 80, 81, 82, 83, 84, 85, 86, 87, 158, 159, 160, 161, 162, 163, 164, 165, 166, 167, 168, 169, 170, 171, 172, 173, 174, 175, 176, 177, 178, 179, 180, 181, 182] rfl (by decide +kernel)
set_option maxRecDepth 20000 in
theorem gX6_words_X1_refusesPutting : GoodIn wsX6_words (wsV RX6 49 RX1 yX1_refusesPutting wsX1_refusesPutting) := goodIn_app (goodIn_r _ [29, 30, 31, 32] rfl (by decide +kernel)) ggX6_words_X1_refusesPutting
set_option maxRecDepth 20000 in
theorem ggX6_words_X1_puts : GoodIn wsX6_words wsX1_puts := goodIn_r _ [91, 34, 46, 92, 93, 94, 19, 95, 22, 96, 97, 98, 99, 100, 21, 101, 102, 103, 104, 105, 106, 107, 108, 109, 110, 111, 112, 113, 114, 115, 116, 117, 118, 119, 62, 60, 61, 120, 121, 122, 123, 124, 125, 126, 127, 128, 129, 130, 158, 159, 160, 161, 162, 163, 164, 165, 166, 167, 168, 169, 170, 171, 172, 173, 174, 175, 176] rfl (by decide +kernel)
set_option maxRecDepth 20000 in
theorem gX6_words_X1_puts : GoodIn wsX6_words (wsV RX6 53 RX1 yX1_puts wsX1_puts) := goodIn_app (goodIn_r _ [88, 89, 90, 32] rfl (by decide +kernel)) ggX6_words_X1_puts
set_option maxRecDepth 20000 in
theorem ggX6_words_X6_answered : GoodIn wsX6_words wsX6_answered := goodIn_r _ [134, 2, 135, 136, 137, 32, 138, 34, 49, 50, 51, 52, 53, 54, 55, 139, 140, 141, 19, 142, 121, 70, 71, 72, 73, 74, 75, 76, 77, 78, 79, 80, 81, 82, 83, 84, 85, 86, 87, 22, 42, 43, 44, 45, 46, 47, 48, 56, 57, 58, 59, 60, 61, 62, 63, 64, 65, 35, 17, 18, 20, 21, 66, 67, 68, 69, 143, 144, 145, 146, 147, 98, 99, 100, 101, 102, 103, 104, 105, 106, 107, 96, 108, 109, 110, 111, 116, 117, 118, 119, 120, 122, 123, 124, 125, 126, 127, 128, 129, 130, 148, 149, 150, 151, 152, 153, 154, 158, 159, 160, 161, 162, 163, 164, 165, 166, 167, 168, 169, 170, 171, 172, 173, 174, 175, 176, 177, 178, 179, 180, 181, 182] rfl (by decide +kernel)
set_option maxRecDepth 20000 in
theorem gX6_words_X6_answered : GoodIn wsX6_words (wsV RX6 56 RX6 yX6_answered wsX6_answered) := goodIn_app (goodIn_r _ [131, 132, 133, 5] rfl (by decide +kernel)) ggX6_words_X6_answered
theorem dX6_words_0 : decode cX6_words 0 = .ok (.iload_n 1, 1) := by decide +kernel
theorem dX6_words_1 : decode cX6_words 1 = .ok (.invokestatic 260, 3) := by decide +kernel
theorem dX6_words_4 : decode cX6_words 4 = .ok (.ifCond .eq 10, 3) := by decide +kernel
theorem dX6_words_7 : decode cX6_words 7 = .ok (.iload_n 2, 1) := by decide +kernel
theorem dX6_words_8 : decode cX6_words 8 = .ok (.invokestatic 59, 3) := by decide +kernel
theorem dX6_words_11 : decode cX6_words 11 = .ok (.ifCond .ne 9, 3) := by decide +kernel
theorem dX6_words_14 : decode cX6_words 14 = .ok (.aload_n 0, 1) := by decide +kernel
theorem dX6_words_15 : decode cX6_words 15 = .ok (.iconst 1, 1) := by decide +kernel
theorem dX6_words_16 : decode cX6_words 16 = .ok (.invokevirtual 41, 3) := by decide +kernel
theorem dX6_words_19 : decode cX6_words 19 = .ok (.ireturn, 1) := by decide +kernel
theorem dX6_words_20 : decode cX6_words 20 = .ok (.aload_n 0, 1) := by decide +kernel
theorem dX6_words_21 : decode cX6_words 21 = .ok (.getfield 33, 3) := by decide +kernel
theorem dX6_words_24 : decode cX6_words 24 = .ok (.getfield 267, 3) := by decide +kernel
theorem dX6_words_27 : decode cX6_words 27 = .ok (.iload_n 1, 1) := by decide +kernel
theorem dX6_words_28 : decode cX6_words 28 = .ok (.iaload, 1) := by decide +kernel
theorem dX6_words_29 : decode cX6_words 29 = .ok (.ifCond .ne 9, 3) := by decide +kernel
theorem dX6_words_32 : decode cX6_words 32 = .ok (.aload_n 0, 1) := by decide +kernel
theorem dX6_words_33 : decode cX6_words 33 = .ok (.iconst 2, 1) := by decide +kernel
theorem dX6_words_34 : decode cX6_words 34 = .ok (.invokevirtual 41, 3) := by decide +kernel
theorem dX6_words_37 : decode cX6_words 37 = .ok (.ireturn, 1) := by decide +kernel
theorem dX6_words_38 : decode cX6_words 38 = .ok (.iconst 0, 1) := by decide +kernel
theorem dX6_words_39 : decode cX6_words 39 = .ok (.istore_n 3, 1) := by decide +kernel
theorem dX6_words_40 : decode cX6_words 40 = .ok (.iload_n 3, 1) := by decide +kernel
theorem dX6_words_41 : decode cX6_words 41 = .ok (.aload_n 0, 1) := by decide +kernel
theorem dX6_words_42 : decode cX6_words 42 = .ok (.getfield 33, 3) := by decide +kernel
theorem dX6_words_45 : decode cX6_words 45 = .ok (.getfield 270, 3) := by decide +kernel
theorem dX6_words_48 : decode cX6_words 48 = .ok (.iload_n 1, 1) := by decide +kernel
theorem dX6_words_49 : decode cX6_words 49 = .ok (.iaload, 1) := by decide +kernel
theorem dX6_words_50 : decode cX6_words 50 = .ok (.if_icmp .ge 71, 3) := by decide +kernel
theorem dX6_words_53 : decode cX6_words 53 = .ok (.bipush 100, 2) := by decide +kernel
theorem dX6_words_55 : decode cX6_words 55 = .ok (.iload_n 2, 1) := by decide +kernel
theorem dX6_words_56 : decode cX6_words 56 = .ok (.imul, 1) := by decide +kernel
theorem dX6_words_57 : decode cX6_words 57 = .ok (.aload_n 0, 1) := by decide +kernel
theorem dX6_words_58 : decode cX6_words 58 = .ok (.getfield 10, 3) := by decide +kernel
theorem dX6_words_61 : decode cX6_words 61 = .ok (.getfield 63, 3) := by decide +kernel
theorem dX6_words_64 : decode cX6_words 64 = .ok (.invokevirtual 67, 3) := by decide +kernel
theorem dX6_words_67 : decode cX6_words 67 = .ok (.iadd, 1) := by decide +kernel
theorem dX6_words_68 : decode cX6_words 68 = .ok (.istore 4, 2) := by decide +kernel
theorem dX6_words_70 : decode cX6_words 70 = .ok (.aload_n 0, 1) := by decide +kernel
theorem dX6_words_71 : decode cX6_words 71 = .ok (.getfield 33, 3) := by decide +kernel
theorem dX6_words_74 : decode cX6_words 74 = .ok (.iload_n 1, 1) := by decide +kernel
theorem dX6_words_75 : decode cX6_words 75 = .ok (.iload_n 3, 1) := by decide +kernel
theorem dX6_words_76 : decode cX6_words 76 = .ok (.invokevirtual 282, 3) := by decide +kernel
theorem dX6_words_79 : decode cX6_words 79 = .ok (.istore 5, 2) := by decide +kernel
theorem dX6_words_81 : decode cX6_words 81 = .ok (.aload_n 0, 1) := by decide +kernel
theorem dX6_words_82 : decode cX6_words 82 = .ok (.getfield 10, 3) := by decide +kernel
theorem dX6_words_85 : decode cX6_words 85 = .ok (.iconst 1, 1) := by decide +kernel
theorem dX6_words_86 : decode cX6_words 86 = .ok (.iload 4, 2) := by decide +kernel
theorem dX6_words_88 : decode cX6_words 88 = .ok (.iload 5, 2) := by decide +kernel
theorem dX6_words_90 : decode cX6_words 90 = .ok (.invokevirtual 49, 3) := by decide +kernel
theorem dX6_words_93 : decode cX6_words 93 = .ok (.ifCond .eq 5, 3) := by decide +kernel
theorem dX6_words_96 : decode cX6_words 96 = .ok (.iload_n 3, 1) := by decide +kernel
theorem dX6_words_97 : decode cX6_words 97 = .ok (.ireturn, 1) := by decide +kernel
theorem dX6_words_98 : decode cX6_words 98 = .ok (.aload_n 0, 1) := by decide +kernel
theorem dX6_words_99 : decode cX6_words 99 = .ok (.aload_n 0, 1) := by decide +kernel
theorem dX6_words_100 : decode cX6_words 100 = .ok (.getfield 10, 3) := by decide +kernel
theorem dX6_words_103 : decode cX6_words 103 = .ok (.iconst 1, 1) := by decide +kernel
theorem dX6_words_104 : decode cX6_words 104 = .ok (.iload 4, 2) := by decide +kernel
theorem dX6_words_106 : decode cX6_words 106 = .ok (.iload 5, 2) := by decide +kernel
theorem dX6_words_108 : decode cX6_words 108 = .ok (.invokevirtual 53, 3) := by decide +kernel
theorem dX6_words_111 : decode cX6_words 111 = .ok (.invokevirtual 56, 3) := by decide +kernel
theorem dX6_words_114 : decode cX6_words 114 = .ok (.pop, 1) := by decide +kernel
theorem dX6_words_115 : decode cX6_words 115 = .ok (.iinc 3 1, 3) := by decide +kernel
theorem dX6_words_118 : decode cX6_words 118 = .ok (.goto (-78), 3) := by decide +kernel
theorem dX6_words_121 : decode cX6_words 121 = .ok (.aload_n 0, 1) := by decide +kernel
theorem dX6_words_122 : decode cX6_words 122 = .ok (.getfield 33, 3) := by decide +kernel
theorem dX6_words_125 : decode cX6_words 125 = .ok (.getfield 270, 3) := by decide +kernel
theorem dX6_words_128 : decode cX6_words 128 = .ok (.iload_n 1, 1) := by decide +kernel
theorem dX6_words_129 : decode cX6_words 129 = .ok (.iaload, 1) := by decide +kernel
theorem dX6_words_130 : decode cX6_words 130 = .ok (.ireturn, 1) := by decide +kernel
set_option maxRecDepth 20000 in
theorem ggX6_image_X1_init : GoodIn wsX6_image wsX1_init := goodIn_r _ [8, 9, 10, 11, 12, 13, 14, 15, 16, 17, 18, 19, 20, 21, 22, 23, 24, 25, 26, 27, 28, 29, 30, 31, 32, 33, 34, 35, 36, 37, 38, 39, 40, 41, 42, 43, 75, 76, 77, 78, 79, 80, 81, 82, 83, 84, 85, 86, 87, 88, 89, 90, 91, 92, 93, 94, 95, 96, 97, 98, 99] rfl (by decide +kernel)
set_option maxRecDepth 20000 in
theorem gX6_image_X1_init_n9 : GoodIn wsX6_image (wsX1_init) := ggX6_image_X1_init
set_option maxRecDepth 20000 in
theorem ggX6_image_X1_becomes : GoodIn wsX6_image wsX1_becomes := goodIn_r _ [47, 48, 49, 50, 12, 51, 14, 52, 53, 54, 55, 15, 19, 23, 56, 57, 58, 18, 59, 60, 27, 61, 28, 29, 30, 31, 32, 33, 34, 62, 63, 64, 22, 65, 66, 39, 67, 40, 41, 75, 76, 77, 78, 79, 80, 81, 82, 83, 84, 85, 86, 87, 88, 89, 90, 91, 92, 93, 94, 95, 96, 97, 98, 99] rfl (by decide +kernel)
set_option maxRecDepth 20000 in
theorem gX6_image_X1_becomes : GoodIn wsX6_image (wsV RX6 288 RX1 yX1_becomes wsX1_becomes) := goodIn_app (goodIn_r _ [44, 45, 46, 4] rfl (by decide +kernel)) ggX6_image_X1_becomes
theorem dX6_image_0 : decode cX6_image 0 = .ok (.aload_n 0, 1) := by decide +kernel
theorem dX6_image_1 : decode cX6_image 1 = .ok (.getfield 285, 3) := by decide +kernel
theorem dX6_image_4 : decode cX6_image 4 = .ok (.ifnonnull 14, 3) := by decide +kernel
theorem dX6_image_7 : decode cX6_image 7 = .ok (.aload_n 0, 1) := by decide +kernel
theorem dX6_image_8 : decode cX6_image 8 = .ok (.new 7, 3) := by decide +kernel
theorem dX6_image_11 : decode cX6_image 11 = .ok (.dup, 1) := by decide +kernel
theorem dX6_image_12 : decode cX6_image 12 = .ok (.invokespecial 9, 3) := by decide +kernel
theorem dX6_image_15 : decode cX6_image 15 = .ok (.putfield 285, 3) := by decide +kernel
theorem dX6_image_18 : decode cX6_image 18 = .ok (.aload_n 0, 1) := by decide +kernel
theorem dX6_image_19 : decode cX6_image 19 = .ok (.getfield 285, 3) := by decide +kernel
theorem dX6_image_22 : decode cX6_image 22 = .ok (.aload_n 0, 1) := by decide +kernel
theorem dX6_image_23 : decode cX6_image 23 = .ok (.getfield 10, 3) := by decide +kernel
theorem dX6_image_26 : decode cX6_image 26 = .ok (.invokevirtual 288, 3) := by decide +kernel
theorem dX6_image_29 : decode cX6_image 29 = .ok (.aload_n 0, 1) := by decide +kernel
theorem dX6_image_30 : decode cX6_image 30 = .ok (.dup, 1) := by decide +kernel
theorem dX6_image_31 : decode cX6_image 31 = .ok (.getfield 292, 3) := by decide +kernel
theorem dX6_image_34 : decode cX6_image 34 = .ok (.iconst 1, 1) := by decide +kernel
theorem dX6_image_35 : decode cX6_image 35 = .ok (.iadd, 1) := by decide +kernel
theorem dX6_image_36 : decode cX6_image 36 = .ok (.putfield 292, 3) := by decide +kernel
theorem dX6_image_39 : decode cX6_image 39 = .ok (.aload_n 0, 1) := by decide +kernel
theorem dX6_image_40 : decode cX6_image 40 = .ok (.getfield 292, 3) := by decide +kernel
theorem dX6_image_43 : decode cX6_image 43 = .ok (.ireturn, 1) := by decide +kernel
set_option maxRecDepth 20000 in
theorem ggX6_restore_X6_error : GoodIn wsX6_restore wsX6_error := goodIn_r _ [7, 8, 9, 53, 54, 55, 56, 57, 58, 59] rfl (by decide +kernel)
set_option maxRecDepth 20000 in
theorem gX6_restore_X6_error : GoodIn wsX6_restore (wsV RX6 41 RX6 yX6_error wsX6_error) := goodIn_app (goodIn_r _ [3, 4, 5, 6] rfl (by decide +kernel)) ggX6_restore_X6_error
set_option maxRecDepth 20000 in
theorem ggX6_restore_X1_becomes : GoodIn wsX6_restore wsX1_becomes := goodIn_r _ [14, 15, 16, 17, 18, 19, 20, 21, 22, 23, 24, 25, 26, 27, 28, 29, 30, 31, 32, 33, 34, 35, 36, 37, 38, 39, 40, 41, 42, 43, 44, 45, 46, 47, 48, 49, 50, 51, 52, 60, 61, 62, 63, 64, 65, 66, 67, 68, 69, 70, 71, 72, 73, 74, 75, 76, 77, 78, 79, 80, 81, 82, 83, 84] rfl (by decide +kernel)
set_option maxRecDepth 20000 in
theorem gX6_restore_X1_becomes : GoodIn wsX6_restore (wsV RX6 288 RX1 yX1_becomes wsX1_becomes) := goodIn_app (goodIn_r _ [10, 11, 12, 13] rfl (by decide +kernel)) ggX6_restore_X1_becomes
theorem dX6_restore_0 : decode cX6_restore 0 = .ok (.aload_n 0, 1) := by decide +kernel
theorem dX6_restore_1 : decode cX6_restore 1 = .ok (.getfield 285, 3) := by decide +kernel
theorem dX6_restore_4 : decode cX6_restore 4 = .ok (.ifnonnull 9, 3) := by decide +kernel
theorem dX6_restore_7 : decode cX6_restore 7 = .ok (.aload_n 0, 1) := by decide +kernel
theorem dX6_restore_8 : decode cX6_restore 8 = .ok (.iconst 2, 1) := by decide +kernel
theorem dX6_restore_9 : decode cX6_restore 9 = .ok (.invokevirtual 41, 3) := by decide +kernel
theorem dX6_restore_12 : decode cX6_restore 12 = .ok (.ireturn, 1) := by decide +kernel
theorem dX6_restore_13 : decode cX6_restore 13 = .ok (.aload_n 0, 1) := by decide +kernel
theorem dX6_restore_14 : decode cX6_restore 14 = .ok (.getfield 10, 3) := by decide +kernel
theorem dX6_restore_17 : decode cX6_restore 17 = .ok (.aload_n 0, 1) := by decide +kernel
theorem dX6_restore_18 : decode cX6_restore 18 = .ok (.getfield 285, 3) := by decide +kernel
theorem dX6_restore_21 : decode cX6_restore 21 = .ok (.invokevirtual 288, 3) := by decide +kernel
theorem dX6_restore_24 : decode cX6_restore 24 = .ok (.aload_n 0, 1) := by decide +kernel
theorem dX6_restore_25 : decode cX6_restore 25 = .ok (.getfield 10, 3) := by decide +kernel
theorem dX6_restore_28 : decode cX6_restore 28 = .ok (.getfield 45, 3) := by decide +kernel
theorem dX6_restore_31 : decode cX6_restore 31 = .ok (.ireturn, 1) := by decide +kernel
set_option maxRecDepth 20000 in
theorem ggX6_tell_X6_error : GoodIn wsX6_tell wsX6_error := goodIn_r _ [6, 7, 8, 9, 10, 11, 12, 13, 14, 15] rfl (by decide +kernel)
set_option maxRecDepth 20000 in
theorem gX6_tell_X6_error : GoodIn wsX6_tell (wsV RX6 41 RX6 yX6_error wsX6_error) := goodIn_app (goodIn_r _ [2, 3, 4, 5] rfl (by decide +kernel)) ggX6_tell_X6_error
theorem dX6_tell_0 : decode cX6_tell 0 = .ok (.aload_n 0, 1) := by decide +kernel
theorem dX6_tell_1 : decode cX6_tell 1 = .ok (.getfield 10, 3) := by decide +kernel
theorem dX6_tell_4 : decode cX6_tell 4 = .ok (.getfield 295, 3) := by decide +kernel
theorem dX6_tell_7 : decode cX6_tell 7 = .ok (.bipush 24, 2) := by decide +kernel
theorem dX6_tell_9 : decode cX6_tell 9 = .ok (.if_icmp .lt 9, 3) := by decide +kernel
theorem dX6_tell_12 : decode cX6_tell 12 = .ok (.aload_n 0, 1) := by decide +kernel
theorem dX6_tell_13 : decode cX6_tell 13 = .ok (.iconst 4, 1) := by decide +kernel
theorem dX6_tell_14 : decode cX6_tell 14 = .ok (.invokevirtual 41, 3) := by decide +kernel
theorem dX6_tell_17 : decode cX6_tell 17 = .ok (.ireturn, 1) := by decide +kernel
theorem dX6_tell_18 : decode cX6_tell 18 = .ok (.aload_n 0, 1) := by decide +kernel
theorem dX6_tell_19 : decode cX6_tell 19 = .ok (.getfield 10, 3) := by decide +kernel
theorem dX6_tell_22 : decode cX6_tell 22 = .ok (.getfield 298, 3) := by decide +kernel
theorem dX6_tell_25 : decode cX6_tell 25 = .ok (.aload_n 0, 1) := by decide +kernel
theorem dX6_tell_26 : decode cX6_tell 26 = .ok (.getfield 10, 3) := by decide +kernel
theorem dX6_tell_29 : decode cX6_tell 29 = .ok (.getfield 295, 3) := by decide +kernel
theorem dX6_tell_32 : decode cX6_tell 32 = .ok (.iload_n 1, 1) := by decide +kernel
theorem dX6_tell_33 : decode cX6_tell 33 = .ok (.iastore, 1) := by decide +kernel
theorem dX6_tell_34 : decode cX6_tell 34 = .ok (.aload_n 0, 1) := by decide +kernel
theorem dX6_tell_35 : decode cX6_tell 35 = .ok (.getfield 10, 3) := by decide +kernel
theorem dX6_tell_38 : decode cX6_tell 38 = .ok (.dup, 1) := by decide +kernel
theorem dX6_tell_39 : decode cX6_tell 39 = .ok (.getfield 295, 3) := by decide +kernel
theorem dX6_tell_42 : decode cX6_tell 42 = .ok (.iconst 1, 1) := by decide +kernel
theorem dX6_tell_43 : decode cX6_tell 43 = .ok (.iadd, 1) := by decide +kernel
theorem dX6_tell_44 : decode cX6_tell 44 = .ok (.putfield 295, 3) := by decide +kernel
theorem dX6_tell_47 : decode cX6_tell 47 = .ok (.aload_n 0, 1) := by decide +kernel
theorem dX6_tell_48 : decode cX6_tell 48 = .ok (.getfield 10, 3) := by decide +kernel
theorem dX6_tell_51 : decode cX6_tell 51 = .ok (.getfield 295, 3) := by decide +kernel
theorem dX6_tell_54 : decode cX6_tell 54 = .ok (.ireturn, 1) := by decide +kernel
set_option maxRecDepth 20000 in
theorem ggX6_check_X6_isVersion : GoodIn wsX6_check wsX6_isVersion := goodIn_r _ [6, 1, 30, 31, 32, 33, 34, 35, 36, 37, 38, 39, 40, 41, 42, 43, 44, 45, 46, 47, 48, 49, 50, 51, 52, 53, 54, 55] rfl (by decide +kernel)
set_option maxRecDepth 20000 in
theorem gX6_check_X6_isVersion : GoodIn wsX6_check (wsV RX6 80 RX6 yX6_isVersion wsX6_isVersion) := goodIn_app (goodIn_r _ [2, 3, 4, 5] rfl (by decide +kernel)) ggX6_check_X6_isVersion
set_option maxRecDepth 20000 in
theorem ggX6_check_X6_error : GoodIn wsX6_check wsX6_error := goodIn_r _ [10, 11, 12, 30, 31, 32, 33, 34, 35, 36] rfl (by decide +kernel)
set_option maxRecDepth 20000 in
theorem gX6_check_X6_error : GoodIn wsX6_check (wsV RX6 41 RX6 yX6_error wsX6_error) := goodIn_app (goodIn_r _ [7, 8, 9, 5] rfl (by decide +kernel)) ggX6_check_X6_error
set_option maxRecDepth 20000 in
theorem ggX6_check_X1_firstUnlike : GoodIn wsX6_check wsX1_firstUnlike := goodIn_r _ [17, 18, 19, 20, 21, 22, 23, 24, 25, 26, 27, 28, 29, 37, 38, 39, 40, 41, 42, 43, 44, 45, 46, 47, 48, 49, 50, 51, 52, 53, 54, 55] rfl (by decide +kernel)
set_option maxRecDepth 20000 in
theorem gX6_check_X1_firstUnlike : GoodIn wsX6_check (wsV RX6 301 RX1 yX1_firstUnlike wsX1_firstUnlike) := goodIn_app (goodIn_r _ [13, 14, 15, 16] rfl (by decide +kernel)) ggX6_check_X1_firstUnlike
theorem dX6_check_0 : decode cX6_check 0 = .ok (.aload_n 0, 1) := by decide +kernel
theorem dX6_check_1 : decode cX6_check 1 = .ok (.getfield 10, 3) := by decide +kernel
theorem dX6_check_4 : decode cX6_check 4 = .ok (.getfield 295, 3) := by decide +kernel
theorem dX6_check_7 : decode cX6_check 7 = .ok (.istore_n 2, 1) := by decide +kernel
theorem dX6_check_8 : decode cX6_check 8 = .ok (.aload_n 0, 1) := by decide +kernel
theorem dX6_check_9 : decode cX6_check 9 = .ok (.getfield 10, 3) := by decide +kernel
theorem dX6_check_12 : decode cX6_check 12 = .ok (.iconst 0, 1) := by decide +kernel
theorem dX6_check_13 : decode cX6_check 13 = .ok (.putfield 295, 3) := by decide +kernel
theorem dX6_check_16 : decode cX6_check 16 = .ok (.aload_n 0, 1) := by decide +kernel
theorem dX6_check_17 : decode cX6_check 17 = .ok (.iload_n 1, 1) := by decide +kernel
theorem dX6_check_18 : decode cX6_check 18 = .ok (.invokevirtual 80, 3) := by decide +kernel
theorem dX6_check_21 : decode cX6_check 21 = .ok (.ifCond .ne 9, 3) := by decide +kernel
theorem dX6_check_24 : decode cX6_check 24 = .ok (.aload_n 0, 1) := by decide +kernel
theorem dX6_check_25 : decode cX6_check 25 = .ok (.iconst 1, 1) := by decide +kernel
theorem dX6_check_26 : decode cX6_check 26 = .ok (.invokevirtual 41, 3) := by decide +kernel
theorem dX6_check_29 : decode cX6_check 29 = .ok (.ireturn, 1) := by decide +kernel
theorem dX6_check_30 : decode cX6_check 30 = .ok (.aload_n 0, 1) := by decide +kernel
theorem dX6_check_31 : decode cX6_check 31 = .ok (.getfield 10, 3) := by decide +kernel
theorem dX6_check_34 : decode cX6_check 34 = .ok (.iload_n 1, 1) := by decide +kernel
theorem dX6_check_35 : decode cX6_check 35 = .ok (.iload_n 2, 1) := by decide +kernel
theorem dX6_check_36 : decode cX6_check 36 = .ok (.invokevirtual 301, 3) := by decide +kernel
theorem dX6_check_39 : decode cX6_check 39 = .ok (.iconst 1, 1) := by decide +kernel
theorem dX6_check_40 : decode cX6_check 40 = .ok (.iadd, 1) := by decide +kernel
theorem dX6_check_41 : decode cX6_check 41 = .ok (.ireturn, 1) := by decide +kernel
set_option maxRecDepth 20000 in
theorem ggX6_count_X0_pageSize : GoodIn wsX6_count wsX0_pageSize := goodIn_r _ [7, 8, 9, 33, 34, 35, 36, 37, 38, 39, 40, 41, 42] rfl (by decide +kernel)
set_option maxRecDepth 20000 in
theorem gX6_count_X0_pageSize : GoodIn wsX6_count (wsV RX6 67 RX0 yX0_pageSize wsX0_pageSize) := goodIn_app (goodIn_r _ [3, 4, 5, 6] rfl (by decide +kernel)) ggX6_count_X0_pageSize
set_option maxRecDepth 20000 in
theorem ggX6_count_X6_error : GoodIn wsX6_count wsX6_error := goodIn_r _ [14, 15, 16, 17, 18, 19, 20, 21, 22, 23] rfl (by decide +kernel)
set_option maxRecDepth 20000 in
theorem gX6_count_X6_error : GoodIn wsX6_count (wsV RX6 41 RX6 yX6_error wsX6_error) := goodIn_app (goodIn_r _ [10, 11, 12, 13] rfl (by decide +kernel)) ggX6_count_X6_error
theorem dX6_count_0 : decode cX6_count 0 = .ok (.iload_n 1, 1) := by decide +kernel
theorem dX6_count_1 : decode cX6_count 1 = .ok (.tableswitch 120 0 7 #[47, 55, 66, 77, 85, 96, 104, 112], 47) := by decide +kernel
theorem dX6_count_48 : decode cX6_count 48 = .ok (.aload_n 0, 1) := by decide +kernel
theorem dX6_count_49 : decode cX6_count 49 = .ok (.getfield 10, 3) := by decide +kernel
theorem dX6_count_52 : decode cX6_count 52 = .ok (.getfield 45, 3) := by decide +kernel
theorem dX6_count_55 : decode cX6_count 55 = .ok (.ireturn, 1) := by decide +kernel
theorem dX6_count_56 : decode cX6_count 56 = .ok (.aload_n 0, 1) := by decide +kernel
theorem dX6_count_57 : decode cX6_count 57 = .ok (.getfield 10, 3) := by decide +kernel
theorem dX6_count_60 : decode cX6_count 60 = .ok (.getfield 63, 3) := by decide +kernel
theorem dX6_count_63 : decode cX6_count 63 = .ok (.getfield 181, 3) := by decide +kernel
theorem dX6_count_66 : decode cX6_count 66 = .ok (.ireturn, 1) := by decide +kernel
theorem dX6_count_67 : decode cX6_count 67 = .ok (.aload_n 0, 1) := by decide +kernel
theorem dX6_count_68 : decode cX6_count 68 = .ok (.getfield 10, 3) := by decide +kernel
theorem dX6_count_71 : decode cX6_count 71 = .ok (.getfield 63, 3) := by decide +kernel
theorem dX6_count_74 : decode cX6_count 74 = .ok (.invokevirtual 67, 3) := by decide +kernel
theorem dX6_count_77 : decode cX6_count 77 = .ok (.ireturn, 1) := by decide +kernel
theorem dX6_count_78 : decode cX6_count 78 = .ok (.aload_n 0, 1) := by decide +kernel
theorem dX6_count_79 : decode cX6_count 79 = .ok (.getfield 10, 3) := by decide +kernel
theorem dX6_count_82 : decode cX6_count 82 = .ok (.getfield 304, 3) := by decide +kernel
theorem dX6_count_85 : decode cX6_count 85 = .ok (.ireturn, 1) := by decide +kernel
theorem dX6_count_86 : decode cX6_count 86 = .ok (.aload_n 0, 1) := by decide +kernel
theorem dX6_count_87 : decode cX6_count 87 = .ok (.getfield 10, 3) := by decide +kernel
theorem dX6_count_90 : decode cX6_count 90 = .ok (.getfield 133, 3) := by decide +kernel
theorem dX6_count_93 : decode cX6_count 93 = .ok (.getfield 137, 3) := by decide +kernel
theorem dX6_count_96 : decode cX6_count 96 = .ok (.ireturn, 1) := by decide +kernel
theorem dX6_count_97 : decode cX6_count 97 = .ok (.aload_n 0, 1) := by decide +kernel
theorem dX6_count_98 : decode cX6_count 98 = .ok (.getfield 10, 3) := by decide +kernel
theorem dX6_count_101 : decode cX6_count 101 = .ok (.getfield 295, 3) := by decide +kernel
theorem dX6_count_104 : decode cX6_count 104 = .ok (.ireturn, 1) := by decide +kernel
theorem dX6_count_105 : decode cX6_count 105 = .ok (.aload_n 0, 1) := by decide +kernel
theorem dX6_count_106 : decode cX6_count 106 = .ok (.getfield 26, 3) := by decide +kernel
theorem dX6_count_109 : decode cX6_count 109 = .ok (.getfield 254, 3) := by decide +kernel
theorem dX6_count_112 : decode cX6_count 112 = .ok (.ireturn, 1) := by decide +kernel
theorem dX6_count_113 : decode cX6_count 113 = .ok (.aload_n 0, 1) := by decide +kernel
theorem dX6_count_114 : decode cX6_count 114 = .ok (.getfield 10, 3) := by decide +kernel
theorem dX6_count_117 : decode cX6_count 117 = .ok (.getfield 160, 3) := by decide +kernel
theorem dX6_count_120 : decode cX6_count 120 = .ok (.ireturn, 1) := by decide +kernel
theorem dX6_count_121 : decode cX6_count 121 = .ok (.aload_n 0, 1) := by decide +kernel
theorem dX6_count_122 : decode cX6_count 122 = .ok (.iconst 1, 1) := by decide +kernel
theorem dX6_count_123 : decode cX6_count 123 = .ok (.invokevirtual 41, 3) := by decide +kernel
theorem dX6_count_126 : decode cX6_count 126 = .ok (.ireturn, 1) := by decide +kernel
set_option maxRecDepth 20000 in
theorem ggX6_told_X6_error : GoodIn wsX6_told wsX6_error := goodIn_r _ [6, 1, 7, 8, 9, 10, 11, 12, 13, 14] rfl (by decide +kernel)
set_option maxRecDepth 20000 in
theorem gX6_told_X6_error : GoodIn wsX6_told (wsV RX6 41 RX6 yX6_error wsX6_error) := goodIn_app (goodIn_r _ [2, 3, 4, 5] rfl (by decide +kernel)) ggX6_told_X6_error
theorem dX6_told_0 : decode cX6_told 0 = .ok (.iload_n 1, 1) := by decide +kernel
theorem dX6_told_1 : decode cX6_told 1 = .ok (.iconst 1, 1) := by decide +kernel
theorem dX6_told_2 : decode cX6_told 2 = .ok (.if_icmp .lt 9, 3) := by decide +kernel
theorem dX6_told_5 : decode cX6_told 5 = .ok (.iload_n 1, 1) := by decide +kernel
theorem dX6_told_6 : decode cX6_told 6 = .ok (.bipush 6, 2) := by decide +kernel
theorem dX6_told_8 : decode cX6_told 8 = .ok (.if_icmp .le 9, 3) := by decide +kernel
theorem dX6_told_11 : decode cX6_told 11 = .ok (.aload_n 0, 1) := by decide +kernel
theorem dX6_told_12 : decode cX6_told 12 = .ok (.iconst 1, 1) := by decide +kernel
theorem dX6_told_13 : decode cX6_told 13 = .ok (.invokevirtual 41, 3) := by decide +kernel
theorem dX6_told_16 : decode cX6_told 16 = .ok (.ireturn, 1) := by decide +kernel
theorem dX6_told_17 : decode cX6_told 17 = .ok (.aload_n 0, 1) := by decide +kernel
theorem dX6_told_18 : decode cX6_told 18 = .ok (.getfield 37, 3) := by decide +kernel
theorem dX6_told_21 : decode cX6_told 21 = .ok (.iload_n 1, 1) := by decide +kernel
theorem dX6_told_22 : decode cX6_told 22 = .ok (.iaload, 1) := by decide +kernel
theorem dX6_told_23 : decode cX6_told 23 = .ok (.ireturn, 1) := by decide +kernel
theorem dX6_error_0 : decode cX6_error 0 = .ok (.aload_n 0, 1) := by decide +kernel
theorem dX6_error_1 : decode cX6_error 1 = .ok (.getfield 37, 3) := by decide +kernel
theorem dX6_error_4 : decode cX6_error 4 = .ok (.iload_n 1, 1) := by decide +kernel
theorem dX6_error_5 : decode cX6_error 5 = .ok (.dup2, 1) := by decide +kernel
theorem dX6_error_6 : decode cX6_error 6 = .ok (.iaload, 1) := by decide +kernel
theorem dX6_error_7 : decode cX6_error 7 = .ok (.iconst 1, 1) := by decide +kernel
theorem dX6_error_8 : decode cX6_error 8 = .ok (.iadd, 1) := by decide +kernel
theorem dX6_error_9 : decode cX6_error 9 = .ok (.iastore, 1) := by decide +kernel
theorem dX6_error_10 : decode cX6_error 10 = .ok (.ldc_w 307, 3) := by decide +kernel
theorem dX6_error_13 : decode cX6_error 13 = .ok (.iload_n 1, 1) := by decide +kernel
theorem dX6_error_14 : decode cX6_error 14 = .ok (.isub, 1) := by decide +kernel
theorem dX6_error_15 : decode cX6_error 15 = .ok (.ireturn, 1) := by decide +kernel
set_option maxRecDepth 20000 in
theorem ggX6_answered_X1_machineAnswers : GoodIn wsX6_answered wsX1_machineAnswers := goodIn_r _ [6, 7, 8, 9, 10, 11, 12, 13, 14, 15, 16, 17, 18, 19, 20, 21, 22, 23, 24, 25, 26, 27, 28, 29, 30, 31, 32, 33, 34, 35, 36, 37, 38, 39, 40, 41, 42, 5, 43, 44, 45, 46, 47, 48, 49, 50, 51, 52, 53, 54, 55, 56, 57, 58, 59, 60, 61, 62, 63, 64, 65, 66, 67, 68, 69, 70, 71, 72, 73, 74, 75, 76, 77, 78, 79, 80, 81, 82, 83, 84, 85, 86, 87, 88, 89, 90, 91, 92, 93, 94, 95, 96, 97, 98, 99, 107, 108, 109, 110, 111, 112, 113, 114, 115, 116, 117, 118, 119, 120, 121, 122, 123, 124, 125, 126, 127, 128, 129, 130, 131] rfl (by decide +kernel)
set_option maxRecDepth 20000 in
theorem gX6_answered_X1_machineAnswers : GoodIn wsX6_answered (wsV RX6 308 RX1 yX1_machineAnswers wsX1_machineAnswers) := goodIn_app (goodIn_r _ [2, 3, 4, 5] rfl (by decide +kernel)) ggX6_answered_X1_machineAnswers
theorem dX6_answered_0 : decode cX6_answered 0 = .ok (.aload_n 0, 1) := by decide +kernel
theorem dX6_answered_1 : decode cX6_answered 1 = .ok (.getfield 10, 3) := by decide +kernel
theorem dX6_answered_4 : decode cX6_answered 4 = .ok (.iload_n 1, 1) := by decide +kernel
theorem dX6_answered_5 : decode cX6_answered 5 = .ok (.invokevirtual 308, 3) := by decide +kernel
theorem dX6_answered_8 : decode cX6_answered 8 = .ok (.iload_n 1, 1) := by decide +kernel
theorem dX6_answered_9 : decode cX6_answered 9 = .ok (.ireturn, 1) := by decide +kernel
theorem dX6_isAct_0 : decode cX6_isAct 0 = .ok (.iload_n 1, 1) := by decide +kernel
theorem dX6_isAct_1 : decode cX6_isAct 1 = .ok (.ifCond .lt 21, 3) := by decide +kernel
theorem dX6_isAct_4 : decode cX6_isAct 4 = .ok (.iload_n 1, 1) := by decide +kernel
theorem dX6_isAct_5 : decode cX6_isAct 5 = .ok (.aload_n 0, 1) := by decide +kernel
theorem dX6_isAct_6 : decode cX6_isAct 6 = .ok (.getfield 10, 3) := by decide +kernel
theorem dX6_isAct_9 : decode cX6_isAct 9 = .ok (.getfield 63, 3) := by decide +kernel
theorem dX6_isAct_12 : decode cX6_isAct 12 = .ok (.getfield 181, 3) := by decide +kernel
theorem dX6_isAct_15 : decode cX6_isAct 15 = .ok (.if_icmp .ge 7, 3) := by decide +kernel
theorem dX6_isAct_18 : decode cX6_isAct 18 = .ok (.iconst 1, 1) := by decide +kernel
theorem dX6_isAct_19 : decode cX6_isAct 19 = .ok (.goto 4, 3) := by decide +kernel
theorem dX6_isAct_22 : decode cX6_isAct 22 = .ok (.iconst 0, 1) := by decide +kernel
theorem dX6_isAct_23 : decode cX6_isAct 23 = .ok (.ireturn, 1) := by decide +kernel
theorem dX6_isVersion_0 : decode cX6_isVersion 0 = .ok (.iload_n 1, 1) := by decide +kernel
theorem dX6_isVersion_1 : decode cX6_isVersion 1 = .ok (.ifCond .lt 21, 3) := by decide +kernel
theorem dX6_isVersion_4 : decode cX6_isVersion 4 = .ok (.iload_n 1, 1) := by decide +kernel
theorem dX6_isVersion_5 : decode cX6_isVersion 5 = .ok (.aload_n 0, 1) := by decide +kernel
theorem dX6_isVersion_6 : decode cX6_isVersion 6 = .ok (.getfield 10, 3) := by decide +kernel
theorem dX6_isVersion_9 : decode cX6_isVersion 9 = .ok (.getfield 63, 3) := by decide +kernel
theorem dX6_isVersion_12 : decode cX6_isVersion 12 = .ok (.getfield 181, 3) := by decide +kernel
theorem dX6_isVersion_15 : decode cX6_isVersion 15 = .ok (.if_icmp .gt 7, 3) := by decide +kernel
theorem dX6_isVersion_18 : decode cX6_isVersion 18 = .ok (.iconst 1, 1) := by decide +kernel
theorem dX6_isVersion_19 : decode cX6_isVersion 19 = .ok (.goto 4, 3) := by decide +kernel
theorem dX6_isVersion_22 : decode cX6_isVersion 22 = .ok (.iconst 0, 1) := by decide +kernel
theorem dX6_isVersion_23 : decode cX6_isVersion 23 = .ok (.ireturn, 1) := by decide +kernel
theorem dX6_areMinutes_0 : decode cX6_areMinutes 0 = .ok (.iload_n 1, 1) := by decide +kernel
theorem dX6_areMinutes_1 : decode cX6_areMinutes 1 = .ok (.ifCond .lt 23, 3) := by decide +kernel
theorem dX6_areMinutes_4 : decode cX6_areMinutes 4 = .ok (.iload_n 1, 1) := by decide +kernel
theorem dX6_areMinutes_5 : decode cX6_areMinutes 5 = .ok (.iload_n 2, 1) := by decide +kernel
theorem dX6_areMinutes_6 : decode cX6_areMinutes 6 = .ok (.if_icmp .gt 18, 3) := by decide +kernel
theorem dX6_areMinutes_9 : decode cX6_areMinutes 9 = .ok (.iload_n 2, 1) := by decide +kernel
theorem dX6_areMinutes_10 : decode cX6_areMinutes 10 = .ok (.aload_n 0, 1) := by decide +kernel
theorem dX6_areMinutes_11 : decode cX6_areMinutes 11 = .ok (.getfield 10, 3) := by decide +kernel
theorem dX6_areMinutes_14 : decode cX6_areMinutes 14 = .ok (.getfield 45, 3) := by decide +kernel
theorem dX6_areMinutes_17 : decode cX6_areMinutes 17 = .ok (.if_icmp .gt 7, 3) := by decide +kernel
theorem dX6_areMinutes_20 : decode cX6_areMinutes 20 = .ok (.iconst 1, 1) := by decide +kernel
theorem dX6_areMinutes_21 : decode cX6_areMinutes 21 = .ok (.goto 4, 3) := by decide +kernel
theorem dX6_areMinutes_24 : decode cX6_areMinutes 24 = .ok (.iconst 0, 1) := by decide +kernel
theorem dX6_areMinutes_25 : decode cX6_areMinutes 25 = .ok (.ireturn, 1) := by decide +kernel
theorem dX6_isWriter_0 : decode cX6_isWriter 0 = .ok (.iload_n 0, 1) := by decide +kernel
theorem dX6_isWriter_1 : decode cX6_isWriter 1 = .ok (.ifCond .lt 13, 3) := by decide +kernel
theorem dX6_isWriter_4 : decode cX6_isWriter 4 = .ok (.iload_n 0, 1) := by decide +kernel
theorem dX6_isWriter_5 : decode cX6_isWriter 5 = .ok (.bipush 8, 2) := by decide +kernel
theorem dX6_isWriter_7 : decode cX6_isWriter 7 = .ok (.if_icmp .ge 7, 3) := by decide +kernel
theorem dX6_isWriter_10 : decode cX6_isWriter 10 = .ok (.iconst 1, 1) := by decide +kernel
theorem dX6_isWriter_11 : decode cX6_isWriter 11 = .ok (.goto 4, 3) := by decide +kernel
theorem dX6_isWriter_14 : decode cX6_isWriter 14 = .ok (.iconst 0, 1) := by decide +kernel
theorem dX6_isWriter_15 : decode cX6_isWriter 15 = .ok (.ireturn, 1) := by decide +kernel
theorem dX6_isWord_0 : decode cX6_isWord 0 = .ok (.iload_n 0, 1) := by decide +kernel
theorem dX6_isWord_1 : decode cX6_isWord 1 = .ok (.iconst 1, 1) := by decide +kernel
theorem dX6_isWord_2 : decode cX6_isWord 2 = .ok (.if_icmp .lt 13, 3) := by decide +kernel
theorem dX6_isWord_5 : decode cX6_isWord 5 = .ok (.iload_n 0, 1) := by decide +kernel
theorem dX6_isWord_6 : decode cX6_isWord 6 = .ok (.bipush 60, 2) := by decide +kernel
theorem dX6_isWord_8 : decode cX6_isWord 8 = .ok (.if_icmp .gt 7, 3) := by decide +kernel
theorem dX6_isWord_11 : decode cX6_isWord 11 = .ok (.iconst 1, 1) := by decide +kernel
theorem dX6_isWord_12 : decode cX6_isWord 12 = .ok (.goto 4, 3) := by decide +kernel
theorem dX6_isWord_15 : decode cX6_isWord 15 = .ok (.iconst 0, 1) := by decide +kernel
theorem dX6_isWord_16 : decode cX6_isWord 16 = .ok (.ireturn, 1) := by decide +kernel
theorem dX6_isUse_0 : decode cX6_isUse 0 = .ok (.iload_n 0, 1) := by decide +kernel
theorem dX6_isUse_1 : decode cX6_isUse 1 = .ok (.ifCond .lt 13, 3) := by decide +kernel
theorem dX6_isUse_4 : decode cX6_isUse 4 = .ok (.iload_n 0, 1) := by decide +kernel
theorem dX6_isUse_5 : decode cX6_isUse 5 = .ok (.bipush 8, 2) := by decide +kernel
theorem dX6_isUse_7 : decode cX6_isUse 7 = .ok (.if_icmp .ge 7, 3) := by decide +kernel
theorem dX6_isUse_10 : decode cX6_isUse 10 = .ok (.iconst 1, 1) := by decide +kernel
theorem dX6_isUse_11 : decode cX6_isUse 11 = .ok (.goto 4, 3) := by decide +kernel
theorem dX6_isUse_14 : decode cX6_isUse 14 = .ok (.iconst 0, 1) := by decide +kernel
theorem dX6_isUse_15 : decode cX6_isUse 15 = .ok (.ireturn, 1) := by decide +kernel
theorem dX6_isSheet_0 : decode cX6_isSheet 0 = .ok (.iload_n 0, 1) := by decide +kernel
theorem dX6_isSheet_1 : decode cX6_isSheet 1 = .ok (.ifCond .lt 12, 3) := by decide +kernel
theorem dX6_isSheet_4 : decode cX6_isSheet 4 = .ok (.iload_n 0, 1) := by decide +kernel
theorem dX6_isSheet_5 : decode cX6_isSheet 5 = .ok (.iconst 4, 1) := by decide +kernel
theorem dX6_isSheet_6 : decode cX6_isSheet 6 = .ok (.if_icmp .ge 7, 3) := by decide +kernel
theorem dX6_isSheet_9 : decode cX6_isSheet 9 = .ok (.iconst 1, 1) := by decide +kernel
theorem dX6_isSheet_10 : decode cX6_isSheet 10 = .ok (.goto 4, 3) := by decide +kernel
theorem dX6_isSheet_13 : decode cX6_isSheet 13 = .ok (.iconst 0, 1) := by decide +kernel
theorem dX6_isSheet_14 : decode cX6_isSheet 14 = .ok (.ireturn, 1) := by decide +kernel
theorem dX7_init_0 : decode cX7_init 0 = .ok (.aload_n 0, 1) := by decide +kernel
theorem dX7_init_1 : decode cX7_init 1 = .ok (.invokespecial 1, 3) := by decide +kernel
theorem dX7_init_4 : decode cX7_init 4 = .ok (.aload_n 0, 1) := by decide +kernel
theorem dX7_init_5 : decode cX7_init 5 = .ok (.sipush 3974, 3) := by decide +kernel
theorem dX7_init_8 : decode cX7_init 8 = .ok (.newarray .int, 2) := by decide +kernel
theorem dX7_init_10 : decode cX7_init 10 = .ok (.putfield 7, 3) := by decide +kernel
theorem dX7_init_13 : decode cX7_init 13 = .ok (.aload_n 0, 1) := by decide +kernel
theorem dX7_init_14 : decode cX7_init 14 = .ok (.sipush 3974, 3) := by decide +kernel
theorem dX7_init_17 : decode cX7_init 17 = .ok (.newarray .int, 2) := by decide +kernel
theorem dX7_init_19 : decode cX7_init 19 = .ok (.putfield 13, 3) := by decide +kernel
theorem dX7_init_22 : decode cX7_init 22 = .ok (.aload_n 0, 1) := by decide +kernel
theorem dX7_init_23 : decode cX7_init 23 = .ok (.bipush 7, 2) := by decide +kernel
theorem dX7_init_25 : decode cX7_init 25 = .ok (.newarray .int, 2) := by decide +kernel
theorem dX7_init_27 : decode cX7_init 27 = .ok (.putfield 16, 3) := by decide +kernel
theorem dX7_init_30 : decode cX7_init 30 = .ok (.aload_n 0, 1) := by decide +kernel
theorem dX7_init_31 : decode cX7_init 31 = .ok (.bipush 40, 2) := by decide +kernel
theorem dX7_init_33 : decode cX7_init 33 = .ok (.newarray .int, 2) := by decide +kernel
theorem dX7_init_35 : decode cX7_init 35 = .ok (.putfield 19, 3) := by decide +kernel
theorem dX7_init_38 : decode cX7_init 38 = .ok (.aload_n 0, 1) := by decide +kernel
theorem dX7_init_39 : decode cX7_init 39 = .ok (.bipush 40, 2) := by decide +kernel
theorem dX7_init_41 : decode cX7_init 41 = .ok (.newarray .int, 2) := by decide +kernel
theorem dX7_init_43 : decode cX7_init 43 = .ok (.putfield 22, 3) := by decide +kernel
theorem dX7_init_46 : decode cX7_init 46 = .ok (.aload_n 0, 1) := by decide +kernel
theorem dX7_init_47 : decode cX7_init 47 = .ok (.bipush 124, 2) := by decide +kernel
theorem dX7_init_49 : decode cX7_init 49 = .ok (.newarray .int, 2) := by decide +kernel
theorem dX7_init_51 : decode cX7_init 51 = .ok (.putfield 25, 3) := by decide +kernel
theorem dX7_init_54 : decode cX7_init 54 = .ok (.aload_n 0, 1) := by decide +kernel
theorem dX7_init_55 : decode cX7_init 55 = .ok (.sipush 128, 3) := by decide +kernel
theorem dX7_init_58 : decode cX7_init 58 = .ok (.newarray .int, 2) := by decide +kernel
theorem dX7_init_60 : decode cX7_init 60 = .ok (.putfield 28, 3) := by decide +kernel
theorem dX7_init_63 : decode cX7_init 63 = .ok (.aload_n 0, 1) := by decide +kernel
theorem dX7_init_64 : decode cX7_init 64 = .ok (.bipush 64, 2) := by decide +kernel
theorem dX7_init_66 : decode cX7_init 66 = .ok (.newarray .int, 2) := by decide +kernel
theorem dX7_init_68 : decode cX7_init 68 = .ok (.putfield 31, 3) := by decide +kernel
theorem dX7_init_71 : decode cX7_init 71 = .ok (.aload_n 0, 1) := by decide +kernel
theorem dX7_init_72 : decode cX7_init 72 = .ok (.bipush 21, 2) := by decide +kernel
theorem dX7_init_74 : decode cX7_init 74 = .ok (.newarray .int, 2) := by decide +kernel
theorem dX7_init_76 : decode cX7_init 76 = .ok (.putfield 34, 3) := by decide +kernel
theorem dX7_init_79 : decode cX7_init 79 = .ok (.aload_n 0, 1) := by decide +kernel
theorem dX7_init_80 : decode cX7_init 80 = .ok (.bipush 60, 2) := by decide +kernel
theorem dX7_init_82 : decode cX7_init 82 = .ok (.newarray .int, 2) := by decide +kernel
theorem dX7_init_84 : decode cX7_init 84 = .ok (.putfield 37, 3) := by decide +kernel
theorem dX7_init_87 : decode cX7_init 87 = .ok (.aload_n 0, 1) := by decide +kernel
theorem dX7_init_88 : decode cX7_init 88 = .ok (.bipush 30, 2) := by decide +kernel
theorem dX7_init_90 : decode cX7_init 90 = .ok (.newarray .int, 2) := by decide +kernel
theorem dX7_init_92 : decode cX7_init 92 = .ok (.putfield 40, 3) := by decide +kernel
theorem dX7_init_95 : decode cX7_init 95 = .ok (.aload_n 0, 1) := by decide +kernel
theorem dX7_init_96 : decode cX7_init 96 = .ok (.iconst 4, 1) := by decide +kernel
theorem dX7_init_97 : decode cX7_init 97 = .ok (.newarray .int, 2) := by decide +kernel
theorem dX7_init_99 : decode cX7_init 99 = .ok (.putfield 43, 3) := by decide +kernel
theorem dX7_init_102 : decode cX7_init 102 = .ok (.aload_n 0, 1) := by decide +kernel
theorem dX7_init_103 : decode cX7_init 103 = .ok (.iconst 4, 1) := by decide +kernel
theorem dX7_init_104 : decode cX7_init 104 = .ok (.newarray .int, 2) := by decide +kernel
theorem dX7_init_106 : decode cX7_init 106 = .ok (.putfield 46, 3) := by decide +kernel
theorem dX7_init_109 : decode cX7_init 109 = .ok (.aload_n 0, 1) := by decide +kernel
theorem dX7_init_110 : decode cX7_init 110 = .ok (.bipush 96, 2) := by decide +kernel
theorem dX7_init_112 : decode cX7_init 112 = .ok (.newarray .int, 2) := by decide +kernel
theorem dX7_init_114 : decode cX7_init 114 = .ok (.putfield 49, 3) := by decide +kernel
theorem dX7_init_117 : decode cX7_init 117 = .ok (.aload_n 0, 1) := by decide +kernel
theorem dX7_init_118 : decode cX7_init 118 = .ok (.bipush 24, 2) := by decide +kernel
theorem dX7_init_120 : decode cX7_init 120 = .ok (.newarray .int, 2) := by decide +kernel
theorem dX7_init_122 : decode cX7_init 122 = .ok (.putfield 52, 3) := by decide +kernel
theorem dX7_init_125 : decode cX7_init 125 = .ok (.aload_n 0, 1) := by decide +kernel
theorem dX7_init_126 : decode cX7_init 126 = .ok (.getfield 7, 3) := by decide +kernel
theorem dX7_init_129 : decode cX7_init 129 = .ok (.bipush 6, 2) := by decide +kernel
theorem dX7_init_131 : decode cX7_init 131 = .ok (.iconst 1, 1) := by decide +kernel
theorem dX7_init_132 : decode cX7_init 132 = .ok (.iastore, 1) := by decide +kernel
theorem dX7_init_133 : decode cX7_init 133 = .ok (.return_, 1) := by decide +kernel
theorem dX7_error_0 : decode cX7_error 0 = .ok (.aload_n 0, 1) := by decide +kernel
theorem dX7_error_1 : decode cX7_error 1 = .ok (.getfield 16, 3) := by decide +kernel
theorem dX7_error_4 : decode cX7_error 4 = .ok (.iload_n 1, 1) := by decide +kernel
theorem dX7_error_5 : decode cX7_error 5 = .ok (.dup2, 1) := by decide +kernel
theorem dX7_error_6 : decode cX7_error 6 = .ok (.iaload, 1) := by decide +kernel
theorem dX7_error_7 : decode cX7_error 7 = .ok (.iconst 1, 1) := by decide +kernel
theorem dX7_error_8 : decode cX7_error 8 = .ok (.iadd, 1) := by decide +kernel
theorem dX7_error_9 : decode cX7_error 9 = .ok (.iastore, 1) := by decide +kernel
theorem dX7_error_10 : decode cX7_error 10 = .ok (.ldc 55, 2) := by decide +kernel
theorem dX7_error_12 : decode cX7_error 12 = .ok (.iload_n 1, 1) := by decide +kernel
theorem dX7_error_13 : decode cX7_error 13 = .ok (.isub, 1) := by decide +kernel
theorem dX7_error_14 : decode cX7_error 14 = .ok (.ireturn, 1) := by decide +kernel
theorem dX7_in_0 : decode cX7_in 0 = .ok (.iload_n 0, 1) := by decide +kernel
theorem dX7_in_1 : decode cX7_in 1 = .ok (.iload_n 1, 1) := by decide +kernel
theorem dX7_in_2 : decode cX7_in 2 = .ok (.if_icmp .lt 12, 3) := by decide +kernel
theorem dX7_in_5 : decode cX7_in 5 = .ok (.iload_n 0, 1) := by decide +kernel
theorem dX7_in_6 : decode cX7_in 6 = .ok (.iload_n 2, 1) := by decide +kernel
theorem dX7_in_7 : decode cX7_in 7 = .ok (.if_icmp .gt 7, 3) := by decide +kernel
theorem dX7_in_10 : decode cX7_in 10 = .ok (.iconst 1, 1) := by decide +kernel
theorem dX7_in_11 : decode cX7_in 11 = .ok (.goto 4, 3) := by decide +kernel
theorem dX7_in_14 : decode cX7_in 14 = .ok (.iconst 0, 1) := by decide +kernel
theorem dX7_in_15 : decode cX7_in 15 = .ok (.ireturn, 1) := by decide +kernel
set_option maxRecDepth 20000 in
theorem ggX7_isWriter_X7_in : GoodIn wsX7_isWriter wsX7_in := goodIn_r _ [4] rfl (by decide +kernel)
set_option maxRecDepth 20000 in
theorem gX7_isWriter_X7_in : GoodIn wsX7_isWriter (va_wsS RX7 56 yX7_in wsX7_in) := goodIn_app (goodIn_r _ [1, 2, 3] rfl (by decide +kernel)) ggX7_isWriter_X7_in
theorem dX7_isWriter_0 : decode cX7_isWriter 0 = .ok (.iload_n 0, 1) := by decide +kernel
theorem dX7_isWriter_1 : decode cX7_isWriter 1 = .ok (.iconst 0, 1) := by decide +kernel
theorem dX7_isWriter_2 : decode cX7_isWriter 2 = .ok (.bipush 7, 2) := by decide +kernel
theorem dX7_isWriter_4 : decode cX7_isWriter 4 = .ok (.invokestatic 56, 3) := by decide +kernel
theorem dX7_isWriter_7 : decode cX7_isWriter 7 = .ok (.ireturn, 1) := by decide +kernel
set_option maxRecDepth 20000 in
theorem ggX7_isAct_X7_in : GoodIn wsX7_isAct wsX7_in := goodIn_r _ [5] rfl (by decide +kernel)
set_option maxRecDepth 20000 in
theorem gX7_isAct_X7_in : GoodIn wsX7_isAct (va_wsS RX7 56 yX7_in wsX7_in) := goodIn_app (goodIn_r _ [2, 3, 4] rfl (by decide +kernel)) ggX7_isAct_X7_in
theorem dX7_isAct_0 : decode cX7_isAct 0 = .ok (.iload_n 1, 1) := by decide +kernel
theorem dX7_isAct_1 : decode cX7_isAct 1 = .ok (.iconst 0, 1) := by decide +kernel
theorem dX7_isAct_2 : decode cX7_isAct 2 = .ok (.aload_n 0, 1) := by decide +kernel
theorem dX7_isAct_3 : decode cX7_isAct 3 = .ok (.getfield 7, 3) := by decide +kernel
theorem dX7_isAct_6 : decode cX7_isAct 6 = .ok (.iconst 1, 1) := by decide +kernel
theorem dX7_isAct_7 : decode cX7_isAct 7 = .ok (.iaload, 1) := by decide +kernel
theorem dX7_isAct_8 : decode cX7_isAct 8 = .ok (.iconst 1, 1) := by decide +kernel
theorem dX7_isAct_9 : decode cX7_isAct 9 = .ok (.isub, 1) := by decide +kernel
theorem dX7_isAct_10 : decode cX7_isAct 10 = .ok (.invokestatic 56, 3) := by decide +kernel
theorem dX7_isAct_13 : decode cX7_isAct 13 = .ok (.ireturn, 1) := by decide +kernel
set_option maxRecDepth 20000 in
theorem ggX7_isVersion_X7_in : GoodIn wsX7_isVersion wsX7_in := goodIn_r _ [5] rfl (by decide +kernel)
set_option maxRecDepth 20000 in
theorem gX7_isVersion_X7_in : GoodIn wsX7_isVersion (va_wsS RX7 56 yX7_in wsX7_in) := goodIn_app (goodIn_r _ [2, 3, 4] rfl (by decide +kernel)) ggX7_isVersion_X7_in
theorem dX7_isVersion_0 : decode cX7_isVersion 0 = .ok (.iload_n 1, 1) := by decide +kernel
theorem dX7_isVersion_1 : decode cX7_isVersion 1 = .ok (.iconst 0, 1) := by decide +kernel
theorem dX7_isVersion_2 : decode cX7_isVersion 2 = .ok (.aload_n 0, 1) := by decide +kernel
theorem dX7_isVersion_3 : decode cX7_isVersion 3 = .ok (.getfield 7, 3) := by decide +kernel
theorem dX7_isVersion_6 : decode cX7_isVersion 6 = .ok (.iconst 1, 1) := by decide +kernel
theorem dX7_isVersion_7 : decode cX7_isVersion 7 = .ok (.iaload, 1) := by decide +kernel
theorem dX7_isVersion_8 : decode cX7_isVersion 8 = .ok (.invokestatic 56, 3) := by decide +kernel
theorem dX7_isVersion_11 : decode cX7_isVersion 11 = .ok (.ireturn, 1) := by decide +kernel
theorem dX7_actIs1_0 : decode cX7_actIs1 0 = .ok (.aload_n 0, 1) := by decide +kernel
theorem dX7_actIs1_1 : decode cX7_actIs1 1 = .ok (.getfield 7, 3) := by decide +kernel
theorem dX7_actIs1_4 : decode cX7_actIs1 4 = .ok (.bipush 10, 2) := by decide +kernel
theorem dX7_actIs1_6 : decode cX7_actIs1 6 = .ok (.iconst 5, 1) := by decide +kernel
theorem dX7_actIs1_7 : decode cX7_actIs1 7 = .ok (.iload_n 1, 1) := by decide +kernel
theorem dX7_actIs1_8 : decode cX7_actIs1 8 = .ok (.imul, 1) := by decide +kernel
theorem dX7_actIs1_9 : decode cX7_actIs1 9 = .ok (.iadd, 1) := by decide +kernel
theorem dX7_actIs1_10 : decode cX7_actIs1 10 = .ok (.iload_n 2, 1) := by decide +kernel
theorem dX7_actIs1_11 : decode cX7_actIs1 11 = .ok (.iadd, 1) := by decide +kernel
theorem dX7_actIs1_12 : decode cX7_actIs1 12 = .ok (.iaload, 1) := by decide +kernel
theorem dX7_actIs1_13 : decode cX7_actIs1 13 = .ok (.ireturn, 1) := by decide +kernel
theorem dX7_sizeOf_0 : decode cX7_sizeOf 0 = .ok (.aload_n 0, 1) := by decide +kernel
theorem dX7_sizeOf_1 : decode cX7_sizeOf 1 = .ok (.getfield 7, 3) := by decide +kernel
theorem dX7_sizeOf_4 : decode cX7_sizeOf 4 = .ok (.sipush 310, 3) := by decide +kernel
theorem dX7_sizeOf_7 : decode cX7_sizeOf 7 = .ok (.iload_n 1, 1) := by decide +kernel
theorem dX7_sizeOf_8 : decode cX7_sizeOf 8 = .ok (.iadd, 1) := by decide +kernel
theorem dX7_sizeOf_9 : decode cX7_sizeOf 9 = .ok (.iaload, 1) := by decide +kernel
theorem dX7_sizeOf_10 : decode cX7_sizeOf 10 = .ok (.ireturn, 1) := by decide +kernel
theorem dX7_wordAt_0 : decode cX7_wordAt 0 = .ok (.aload_n 0, 1) := by decide +kernel
theorem dX7_wordAt_1 : decode cX7_wordAt 1 = .ok (.getfield 7, 3) := by decide +kernel
theorem dX7_wordAt_4 : decode cX7_wordAt 4 = .ok (.sipush 380, 3) := by decide +kernel
theorem dX7_wordAt_7 : decode cX7_wordAt 7 = .ok (.bipush 20, 2) := by decide +kernel
theorem dX7_wordAt_9 : decode cX7_wordAt 9 = .ok (.iload_n 1, 1) := by decide +kernel
theorem dX7_wordAt_10 : decode cX7_wordAt 10 = .ok (.imul, 1) := by decide +kernel
theorem dX7_wordAt_11 : decode cX7_wordAt 11 = .ok (.iadd, 1) := by decide +kernel
theorem dX7_wordAt_12 : decode cX7_wordAt 12 = .ok (.iload_n 2, 1) := by decide +kernel
theorem dX7_wordAt_13 : decode cX7_wordAt 13 = .ok (.iadd, 1) := by decide +kernel
theorem dX7_wordAt_14 : decode cX7_wordAt 14 = .ok (.iaload, 1) := by decide +kernel
theorem dX7_wordAt_15 : decode cX7_wordAt 15 = .ok (.ireturn, 1) := by decide +kernel
theorem dX7_originAt_0 : decode cX7_originAt 0 = .ok (.aload_n 0, 1) := by decide +kernel
theorem dX7_originAt_1 : decode cX7_originAt 1 = .ok (.getfield 7, 3) := by decide +kernel
theorem dX7_originAt_4 : decode cX7_originAt 4 = .ok (.sipush 1600, 3) := by decide +kernel
theorem dX7_originAt_7 : decode cX7_originAt 7 = .ok (.bipush 20, 2) := by decide +kernel
theorem dX7_originAt_9 : decode cX7_originAt 9 = .ok (.iload_n 1, 1) := by decide +kernel
theorem dX7_originAt_10 : decode cX7_originAt 10 = .ok (.imul, 1) := by decide +kernel
theorem dX7_originAt_11 : decode cX7_originAt 11 = .ok (.iadd, 1) := by decide +kernel
theorem dX7_originAt_12 : decode cX7_originAt 12 = .ok (.iload_n 2, 1) := by decide +kernel
theorem dX7_originAt_13 : decode cX7_originAt 13 = .ok (.iadd, 1) := by decide +kernel
theorem dX7_originAt_14 : decode cX7_originAt 14 = .ok (.iaload, 1) := by decide +kernel
theorem dX7_originAt_15 : decode cX7_originAt 15 = .ok (.ireturn, 1) := by decide +kernel
set_option maxRecDepth 20000 in
theorem ggX7_page_X7_sizeOf : GoodIn wsX7_page wsX7_sizeOf := goodIn_r _ [6, 1, 7, 8, 9, 10, 11, 12, 13, 14, 15, 16, 17, 18, 19, 20, 21, 22, 23, 24, 25, 26, 27, 28, 29, 30] rfl (by decide +kernel)
set_option maxRecDepth 20000 in
theorem gX7_page_X7_sizeOf : GoodIn wsX7_page (wsV RX7 60 RX7 yX7_sizeOf wsX7_sizeOf) := goodIn_app (goodIn_r _ [2, 3, 4, 5] rfl (by decide +kernel)) ggX7_page_X7_sizeOf
theorem dX7_page_0 : decode cX7_page 0 = .ok (.aload_n 0, 1) := by decide +kernel
theorem dX7_page_1 : decode cX7_page 1 = .ok (.aload_n 0, 1) := by decide +kernel
theorem dX7_page_2 : decode cX7_page 2 = .ok (.getfield 7, 3) := by decide +kernel
theorem dX7_page_5 : decode cX7_page 5 = .ok (.iconst 1, 1) := by decide +kernel
theorem dX7_page_6 : decode cX7_page 6 = .ok (.iaload, 1) := by decide +kernel
theorem dX7_page_7 : decode cX7_page 7 = .ok (.invokevirtual 60, 3) := by decide +kernel
theorem dX7_page_10 : decode cX7_page 10 = .ok (.ireturn, 1) := by decide +kernel
theorem dX7_isUnder_0 : decode cX7_isUnder 0 = .ok (.iload_n 1, 1) := by decide +kernel
theorem dX7_isUnder_1 : decode cX7_isUnder 1 = .ok (.ifCond .eq 33, 3) := by decide +kernel
theorem dX7_isUnder_4 : decode cX7_isUnder 4 = .ok (.iload_n 0, 1) := by decide +kernel
theorem dX7_isUnder_5 : decode cX7_isUnder 5 = .ok (.iload_n 1, 1) := by decide +kernel
theorem dX7_isUnder_6 : decode cX7_isUnder 6 = .ok (.if_icmp .eq 28, 3) := by decide +kernel
theorem dX7_isUnder_9 : decode cX7_isUnder 9 = .ok (.iload_n 1, 1) := by decide +kernel
theorem dX7_isUnder_10 : decode cX7_isUnder 10 = .ok (.iconst 1, 1) := by decide +kernel
theorem dX7_isUnder_11 : decode cX7_isUnder 11 = .ok (.if_icmp .ne 13, 3) := by decide +kernel
theorem dX7_isUnder_14 : decode cX7_isUnder 14 = .ok (.iload_n 0, 1) := by decide +kernel
theorem dX7_isUnder_15 : decode cX7_isUnder 15 = .ok (.iconst 4, 1) := by decide +kernel
theorem dX7_isUnder_16 : decode cX7_isUnder 16 = .ok (.if_icmp .eq 18, 3) := by decide +kernel
theorem dX7_isUnder_19 : decode cX7_isUnder 19 = .ok (.iload_n 0, 1) := by decide +kernel
theorem dX7_isUnder_20 : decode cX7_isUnder 20 = .ok (.iconst 5, 1) := by decide +kernel
theorem dX7_isUnder_21 : decode cX7_isUnder 21 = .ok (.if_icmp .eq 13, 3) := by decide +kernel
theorem dX7_isUnder_24 : decode cX7_isUnder 24 = .ok (.iload_n 1, 1) := by decide +kernel
theorem dX7_isUnder_25 : decode cX7_isUnder 25 = .ok (.iconst 2, 1) := by decide +kernel
theorem dX7_isUnder_26 : decode cX7_isUnder 26 = .ok (.if_icmp .ne 12, 3) := by decide +kernel
theorem dX7_isUnder_29 : decode cX7_isUnder 29 = .ok (.iload_n 0, 1) := by decide +kernel
theorem dX7_isUnder_30 : decode cX7_isUnder 30 = .ok (.iconst 3, 1) := by decide +kernel
theorem dX7_isUnder_31 : decode cX7_isUnder 31 = .ok (.if_icmp .ne 7, 3) := by decide +kernel
theorem dX7_isUnder_34 : decode cX7_isUnder 34 = .ok (.iconst 1, 1) := by decide +kernel
theorem dX7_isUnder_35 : decode cX7_isUnder 35 = .ok (.goto 4, 3) := by decide +kernel
theorem dX7_isUnder_38 : decode cX7_isUnder 38 = .ok (.iconst 0, 1) := by decide +kernel
theorem dX7_isUnder_39 : decode cX7_isUnder 39 = .ok (.ireturn, 1) := by decide +kernel
set_option maxRecDepth 20000 in
theorem ggX7_go_X7_in : GoodIn wsX7_go wsX7_in := goodIn_r _ [5] rfl (by decide +kernel)
set_option maxRecDepth 20000 in
theorem gX7_go_X7_in : GoodIn wsX7_go (va_wsS RX7 56 yX7_in wsX7_in) := goodIn_app (goodIn_r _ [2, 3, 4] rfl (by decide +kernel)) ggX7_go_X7_in
set_option maxRecDepth 20000 in
theorem ggX7_go_X7_error : GoodIn wsX7_go wsX7_error := goodIn_r _ [9, 10, 11, 12, 13, 14, 15, 16, 17, 18, 19, 20, 21, 22, 23, 24, 25, 26, 27, 28, 29, 30, 31, 32, 33, 34, 35] rfl (by decide +kernel)
set_option maxRecDepth 20000 in
theorem gX7_go_X7_error : GoodIn wsX7_go (wsV RX7 64 RX7 yX7_error wsX7_error) := goodIn_app (goodIn_r _ [6, 7, 8, 4] rfl (by decide +kernel)) ggX7_go_X7_error
theorem dX7_go_0 : decode cX7_go 0 = .ok (.iload_n 1, 1) := by decide +kernel
theorem dX7_go_1 : decode cX7_go 1 = .ok (.iconst 1, 1) := by decide +kernel
theorem dX7_go_2 : decode cX7_go 2 = .ok (.sipush 9999, 3) := by decide +kernel
theorem dX7_go_5 : decode cX7_go 5 = .ok (.invokestatic 56, 3) := by decide +kernel
theorem dX7_go_8 : decode cX7_go 8 = .ok (.ifCond .ne 9, 3) := by decide +kernel
theorem dX7_go_11 : decode cX7_go 11 = .ok (.aload_n 0, 1) := by decide +kernel
theorem dX7_go_12 : decode cX7_go 12 = .ok (.iconst 1, 1) := by decide +kernel
theorem dX7_go_13 : decode cX7_go 13 = .ok (.invokevirtual 64, 3) := by decide +kernel
theorem dX7_go_16 : decode cX7_go 16 = .ok (.ireturn, 1) := by decide +kernel
theorem dX7_go_17 : decode cX7_go 17 = .ok (.aload_n 0, 1) := by decide +kernel
theorem dX7_go_18 : decode cX7_go 18 = .ok (.getfield 7, 3) := by decide +kernel
theorem dX7_go_21 : decode cX7_go 21 = .ok (.iconst 0, 1) := by decide +kernel
theorem dX7_go_22 : decode cX7_go 22 = .ok (.iaload, 1) := by decide +kernel
theorem dX7_go_23 : decode cX7_go 23 = .ok (.iload_n 1, 1) := by decide +kernel
theorem dX7_go_24 : decode cX7_go 24 = .ok (.iadd, 1) := by decide +kernel
theorem dX7_go_25 : decode cX7_go 25 = .ok (.sipush 29999, 3) := by decide +kernel
theorem dX7_go_28 : decode cX7_go 28 = .ok (.if_icmp .le 9, 3) := by decide +kernel
theorem dX7_go_31 : decode cX7_go 31 = .ok (.aload_n 0, 1) := by decide +kernel
theorem dX7_go_32 : decode cX7_go 32 = .ok (.iconst 3, 1) := by decide +kernel
theorem dX7_go_33 : decode cX7_go 33 = .ok (.invokevirtual 64, 3) := by decide +kernel
theorem dX7_go_36 : decode cX7_go 36 = .ok (.ireturn, 1) := by decide +kernel
theorem dX7_go_37 : decode cX7_go 37 = .ok (.aload_n 0, 1) := by decide +kernel
theorem dX7_go_38 : decode cX7_go 38 = .ok (.getfield 7, 3) := by decide +kernel
theorem dX7_go_41 : decode cX7_go 41 = .ok (.iconst 0, 1) := by decide +kernel
theorem dX7_go_42 : decode cX7_go 42 = .ok (.dup2, 1) := by decide +kernel
theorem dX7_go_43 : decode cX7_go 43 = .ok (.iaload, 1) := by decide +kernel
theorem dX7_go_44 : decode cX7_go 44 = .ok (.iload_n 1, 1) := by decide +kernel
theorem dX7_go_45 : decode cX7_go 45 = .ok (.iadd, 1) := by decide +kernel
theorem dX7_go_46 : decode cX7_go 46 = .ok (.iastore, 1) := by decide +kernel
theorem dX7_go_47 : decode cX7_go 47 = .ok (.aload_n 0, 1) := by decide +kernel
theorem dX7_go_48 : decode cX7_go 48 = .ok (.getfield 7, 3) := by decide +kernel
theorem dX7_go_51 : decode cX7_go 51 = .ok (.iconst 0, 1) := by decide +kernel
theorem dX7_go_52 : decode cX7_go 52 = .ok (.iaload, 1) := by decide +kernel
theorem dX7_go_53 : decode cX7_go 53 = .ok (.ireturn, 1) := by decide +kernel
set_option maxRecDepth 20000 in
theorem ggX7_backsOf_X7_actIs1 : GoodIn wsX7_backsOf wsX7_actIs1 := goodIn_r _ [6, 1, 10, 11, 12, 13, 14, 15, 16, 17, 18, 19, 20, 21, 22, 23, 24, 25, 26, 27, 28, 29, 30, 31, 32, 33] rfl (by decide +kernel)
set_option maxRecDepth 20000 in
theorem gX7_backsOf_X7_actIs1 : GoodIn wsX7_backsOf (wsV RX7 67 RX7 yX7_actIs1 wsX7_actIs1) := goodIn_app (goodIn_r _ [2, 3, 4, 5] rfl (by decide +kernel)) ggX7_backsOf_X7_actIs1
set_option maxRecDepth 20000 in
theorem ggX7_backsOf_X7_isUnder : GoodIn wsX7_backsOf wsX7_isUnder := goodIn_r _ [9] rfl (by decide +kernel)
set_option maxRecDepth 20000 in
theorem gX7_backsOf_X7_isUnder : GoodIn wsX7_backsOf (va_wsS RX7 71 yX7_isUnder wsX7_isUnder) := goodIn_app (goodIn_r _ [7, 8, 5] rfl (by decide +kernel)) ggX7_backsOf_X7_isUnder
theorem dX7_backsOf_0 : decode cX7_backsOf 0 = .ok (.iconst 0, 1) := by decide +kernel
theorem dX7_backsOf_1 : decode cX7_backsOf 1 = .ok (.istore_n 2, 1) := by decide +kernel
theorem dX7_backsOf_2 : decode cX7_backsOf 2 = .ok (.iconst 0, 1) := by decide +kernel
theorem dX7_backsOf_3 : decode cX7_backsOf 3 = .ok (.istore_n 3, 1) := by decide +kernel
theorem dX7_backsOf_4 : decode cX7_backsOf 4 = .ok (.iload_n 3, 1) := by decide +kernel
theorem dX7_backsOf_5 : decode cX7_backsOf 5 = .ok (.aload_n 0, 1) := by decide +kernel
theorem dX7_backsOf_6 : decode cX7_backsOf 6 = .ok (.getfield 7, 3) := by decide +kernel
theorem dX7_backsOf_9 : decode cX7_backsOf 9 = .ok (.iconst 1, 1) := by decide +kernel
theorem dX7_backsOf_10 : decode cX7_backsOf 10 = .ok (.iaload, 1) := by decide +kernel
theorem dX7_backsOf_11 : decode cX7_backsOf 11 = .ok (.if_icmp .ge 59, 3) := by decide +kernel
theorem dX7_backsOf_14 : decode cX7_backsOf 14 = .ok (.iload_n 2, 1) := by decide +kernel
theorem dX7_backsOf_15 : decode cX7_backsOf 15 = .ok (.aload_n 0, 1) := by decide +kernel
theorem dX7_backsOf_16 : decode cX7_backsOf 16 = .ok (.iload_n 3, 1) := by decide +kernel
theorem dX7_backsOf_17 : decode cX7_backsOf 17 = .ok (.iconst 1, 1) := by decide +kernel
theorem dX7_backsOf_18 : decode cX7_backsOf 18 = .ok (.invokevirtual 67, 3) := by decide +kernel
theorem dX7_backsOf_21 : decode cX7_backsOf 21 = .ok (.iload_n 1, 1) := by decide +kernel
theorem dX7_backsOf_22 : decode cX7_backsOf 22 = .ok (.if_icmp .ne 39, 3) := by decide +kernel
theorem dX7_backsOf_25 : decode cX7_backsOf 25 = .ok (.aload_n 0, 1) := by decide +kernel
theorem dX7_backsOf_26 : decode cX7_backsOf 26 = .ok (.iload_n 3, 1) := by decide +kernel
theorem dX7_backsOf_27 : decode cX7_backsOf 27 = .ok (.iconst 0, 1) := by decide +kernel
theorem dX7_backsOf_28 : decode cX7_backsOf 28 = .ok (.invokevirtual 67, 3) := by decide +kernel
theorem dX7_backsOf_31 : decode cX7_backsOf 31 = .ok (.iconst 2, 1) := by decide +kernel
theorem dX7_backsOf_32 : decode cX7_backsOf 32 = .ok (.invokestatic 71, 3) := by decide +kernel
theorem dX7_backsOf_35 : decode cX7_backsOf 35 = .ok (.ifCond .eq 26, 3) := by decide +kernel
theorem dX7_backsOf_38 : decode cX7_backsOf 38 = .ok (.aload_n 0, 1) := by decide +kernel
theorem dX7_backsOf_39 : decode cX7_backsOf 39 = .ok (.iload_n 3, 1) := by decide +kernel
theorem dX7_backsOf_40 : decode cX7_backsOf 40 = .ok (.iconst 2, 1) := by decide +kernel
theorem dX7_backsOf_41 : decode cX7_backsOf 41 = .ok (.invokevirtual 67, 3) := by decide +kernel
theorem dX7_backsOf_44 : decode cX7_backsOf 44 = .ok (.aload_n 0, 1) := by decide +kernel
theorem dX7_backsOf_45 : decode cX7_backsOf 45 = .ok (.getfield 7, 3) := by decide +kernel
theorem dX7_backsOf_48 : decode cX7_backsOf 48 = .ok (.iconst 0, 1) := by decide +kernel
theorem dX7_backsOf_49 : decode cX7_backsOf 49 = .ok (.iaload, 1) := by decide +kernel
theorem dX7_backsOf_50 : decode cX7_backsOf 50 = .ok (.sipush 1440, 3) := by decide +kernel
theorem dX7_backsOf_53 : decode cX7_backsOf 53 = .ok (.isub, 1) := by decide +kernel
theorem dX7_backsOf_54 : decode cX7_backsOf 54 = .ok (.if_icmp .le 7, 3) := by decide +kernel
theorem dX7_backsOf_57 : decode cX7_backsOf 57 = .ok (.iconst 1, 1) := by decide +kernel
theorem dX7_backsOf_58 : decode cX7_backsOf 58 = .ok (.goto 4, 3) := by decide +kernel
theorem dX7_backsOf_61 : decode cX7_backsOf 61 = .ok (.iconst 0, 1) := by decide +kernel
theorem dX7_backsOf_62 : decode cX7_backsOf 62 = .ok (.iadd, 1) := by decide +kernel
theorem dX7_backsOf_63 : decode cX7_backsOf 63 = .ok (.istore_n 2, 1) := by decide +kernel
theorem dX7_backsOf_64 : decode cX7_backsOf 64 = .ok (.iinc 3 1, 3) := by decide +kernel
theorem dX7_backsOf_67 : decode cX7_backsOf 67 = .ok (.goto (-63), 3) := by decide +kernel
theorem dX7_backsOf_70 : decode cX7_backsOf 70 = .ok (.iload_n 2, 1) := by decide +kernel
theorem dX7_backsOf_71 : decode cX7_backsOf 71 = .ok (.ireturn, 1) := by decide +kernel
set_option maxRecDepth 20000 in
theorem ggX7_actsOf_X7_actIs1 : GoodIn wsX7_actsOf wsX7_actIs1 := goodIn_r _ [6, 1, 7, 8, 9, 10, 11, 12, 13, 14, 15, 16, 17, 18, 19, 20, 21, 22, 23, 24, 25, 26, 27, 28, 29, 30] rfl (by decide +kernel)
set_option maxRecDepth 20000 in
theorem gX7_actsOf_X7_actIs1 : GoodIn wsX7_actsOf (wsV RX7 67 RX7 yX7_actIs1 wsX7_actIs1) := goodIn_app (goodIn_r _ [2, 3, 4, 5] rfl (by decide +kernel)) ggX7_actsOf_X7_actIs1
theorem dX7_actsOf_0 : decode cX7_actsOf 0 = .ok (.iconst 0, 1) := by decide +kernel
theorem dX7_actsOf_1 : decode cX7_actsOf 1 = .ok (.istore_n 2, 1) := by decide +kernel
theorem dX7_actsOf_2 : decode cX7_actsOf 2 = .ok (.iconst 0, 1) := by decide +kernel
theorem dX7_actsOf_3 : decode cX7_actsOf 3 = .ok (.istore_n 3, 1) := by decide +kernel
theorem dX7_actsOf_4 : decode cX7_actsOf 4 = .ok (.iload_n 3, 1) := by decide +kernel
theorem dX7_actsOf_5 : decode cX7_actsOf 5 = .ok (.aload_n 0, 1) := by decide +kernel
theorem dX7_actsOf_6 : decode cX7_actsOf 6 = .ok (.getfield 7, 3) := by decide +kernel
theorem dX7_actsOf_9 : decode cX7_actsOf 9 = .ok (.iconst 1, 1) := by decide +kernel
theorem dX7_actsOf_10 : decode cX7_actsOf 10 = .ok (.iaload, 1) := by decide +kernel
theorem dX7_actsOf_11 : decode cX7_actsOf 11 = .ok (.if_icmp .ge 27, 3) := by decide +kernel
theorem dX7_actsOf_14 : decode cX7_actsOf 14 = .ok (.iload_n 2, 1) := by decide +kernel
theorem dX7_actsOf_15 : decode cX7_actsOf 15 = .ok (.aload_n 0, 1) := by decide +kernel
theorem dX7_actsOf_16 : decode cX7_actsOf 16 = .ok (.iload_n 3, 1) := by decide +kernel
theorem dX7_actsOf_17 : decode cX7_actsOf 17 = .ok (.iconst 1, 1) := by decide +kernel
theorem dX7_actsOf_18 : decode cX7_actsOf 18 = .ok (.invokevirtual 67, 3) := by decide +kernel
theorem dX7_actsOf_21 : decode cX7_actsOf 21 = .ok (.iload_n 1, 1) := by decide +kernel
theorem dX7_actsOf_22 : decode cX7_actsOf 22 = .ok (.if_icmp .ne 7, 3) := by decide +kernel
theorem dX7_actsOf_25 : decode cX7_actsOf 25 = .ok (.iconst 1, 1) := by decide +kernel
theorem dX7_actsOf_26 : decode cX7_actsOf 26 = .ok (.goto 4, 3) := by decide +kernel
theorem dX7_actsOf_29 : decode cX7_actsOf 29 = .ok (.iconst 0, 1) := by decide +kernel
theorem dX7_actsOf_30 : decode cX7_actsOf 30 = .ok (.iadd, 1) := by decide +kernel
theorem dX7_actsOf_31 : decode cX7_actsOf 31 = .ok (.istore_n 2, 1) := by decide +kernel
theorem dX7_actsOf_32 : decode cX7_actsOf 32 = .ok (.iinc 3 1, 3) := by decide +kernel
theorem dX7_actsOf_35 : decode cX7_actsOf 35 = .ok (.goto (-31), 3) := by decide +kernel
theorem dX7_actsOf_38 : decode cX7_actsOf 38 = .ok (.iload_n 2, 1) := by decide +kernel
theorem dX7_actsOf_39 : decode cX7_actsOf 39 = .ok (.ireturn, 1) := by decide +kernel
set_option maxRecDepth 20000 in
theorem ggX7_mayAct_X7_hasText : GoodIn wsX7_mayAct wsX7_hasText := goodIn_r _ [7, 1, 39, 40, 41, 42, 43, 44, 45, 46, 47, 48, 49, 50, 51, 52, 53, 54, 55, 56, 57, 58, 59, 60, 61, 62] rfl (by decide +kernel)
set_option maxRecDepth 20000 in
theorem gX7_mayAct_X7_hasText : GoodIn wsX7_mayAct (wsV RX7 75 RX7 yX7_hasText wsX7_hasText) := goodIn_app (goodIn_r _ [3, 4, 5, 6] rfl (by decide +kernel)) ggX7_mayAct_X7_hasText
set_option maxRecDepth 20000 in
theorem ggX7_mayAct_X7_backsOf : GoodIn wsX7_mayAct wsX7_backsOf := goodIn_r _ [11, 1, 12, 13, 14, 6, 15, 16, 17, 18, 39, 40, 41, 42, 43, 44, 45, 46, 47, 48, 49, 50, 51, 52, 53, 54, 55, 56, 57, 58, 59, 60, 61, 62] rfl (by decide +kernel)
set_option maxRecDepth 20000 in
theorem gX7_mayAct_X7_backsOf : GoodIn wsX7_mayAct (wsV RX7 79 RX7 yX7_backsOf wsX7_backsOf) := goodIn_app (goodIn_r _ [8, 9, 10, 6] rfl (by decide +kernel)) ggX7_mayAct_X7_backsOf
set_option maxRecDepth 20000 in
theorem ggX7_mayAct_X7_page : GoodIn wsX7_mayAct wsX7_page := goodIn_r _ [22, 1, 23, 24, 25, 6, 26, 39, 40, 41, 42, 43, 44, 45, 46, 47, 48, 49, 50, 51, 52, 53, 54, 55, 56, 57, 58, 59, 60, 61, 62] rfl (by decide +kernel)
set_option maxRecDepth 20000 in
theorem gX7_mayAct_X7_page : GoodIn wsX7_mayAct (wsV RX7 82 RX7 yX7_page wsX7_page) := goodIn_app (goodIn_r _ [19, 20, 21, 6] rfl (by decide +kernel)) ggX7_mayAct_X7_page
set_option maxRecDepth 20000 in
theorem ggX7_mayAct_X7_actsOf : GoodIn wsX7_mayAct wsX7_actsOf := goodIn_r _ [30, 1, 12, 13, 14, 6, 15, 39, 40, 41, 42, 43, 44, 45, 46, 47, 48, 49, 50, 51, 52, 53, 54, 55, 56, 57, 58, 59, 60, 61, 62] rfl (by decide +kernel)
set_option maxRecDepth 20000 in
theorem gX7_mayAct_X7_actsOf : GoodIn wsX7_mayAct (wsV RX7 86 RX7 yX7_actsOf wsX7_actsOf) := goodIn_app (goodIn_r _ [27, 28, 29, 6] rfl (by decide +kernel)) ggX7_mayAct_X7_actsOf
set_option maxRecDepth 20000 in
theorem ggX7_mayAct_X7_worked : GoodIn wsX7_mayAct wsX7_worked := goodIn_r _ [34, 1, 35, 2, 36, 37, 6, 38, 39, 40, 41, 42, 43, 44, 45, 46, 47, 48, 49, 50, 51, 52, 53, 54, 55, 56, 57, 58, 59, 60, 61, 62] rfl (by decide +kernel)
set_option maxRecDepth 20000 in
theorem gX7_mayAct_X7_worked : GoodIn wsX7_mayAct (wsV RX7 89 RX7 yX7_worked wsX7_worked) := goodIn_app (goodIn_r _ [31, 32, 33, 6] rfl (by decide +kernel)) ggX7_mayAct_X7_worked
theorem dX7_mayAct_0 : decode cX7_mayAct 0 = .ok (.aload_n 0, 1) := by decide +kernel
theorem dX7_mayAct_1 : decode cX7_mayAct 1 = .ok (.getfield 7, 3) := by decide +kernel
theorem dX7_mayAct_4 : decode cX7_mayAct 4 = .ok (.iconst 0, 1) := by decide +kernel
theorem dX7_mayAct_5 : decode cX7_mayAct 5 = .ok (.iaload, 1) := by decide +kernel
theorem dX7_mayAct_6 : decode cX7_mayAct 6 = .ok (.aload_n 0, 1) := by decide +kernel
theorem dX7_mayAct_7 : decode cX7_mayAct 7 = .ok (.getfield 7, 3) := by decide +kernel
theorem dX7_mayAct_10 : decode cX7_mayAct 10 = .ok (.iconst 2, 1) := by decide +kernel
theorem dX7_mayAct_11 : decode cX7_mayAct 11 = .ok (.iaload, 1) := by decide +kernel
theorem dX7_mayAct_12 : decode cX7_mayAct 12 = .ok (.if_icmp .ge 15, 3) := by decide +kernel
theorem dX7_mayAct_15 : decode cX7_mayAct 15 = .ok (.aload_n 0, 1) := by decide +kernel
theorem dX7_mayAct_16 : decode cX7_mayAct 16 = .ok (.getfield 7, 3) := by decide +kernel
theorem dX7_mayAct_19 : decode cX7_mayAct 19 = .ok (.iconst 3, 1) := by decide +kernel
theorem dX7_mayAct_20 : decode cX7_mayAct 20 = .ok (.iaload, 1) := by decide +kernel
theorem dX7_mayAct_21 : decode cX7_mayAct 21 = .ok (.iload_n 1, 1) := by decide +kernel
theorem dX7_mayAct_22 : decode cX7_mayAct 22 = .ok (.if_icmp .eq 5, 3) := by decide +kernel
theorem dX7_mayAct_25 : decode cX7_mayAct 25 = .ok (.iconst 0, 1) := by decide +kernel
theorem dX7_mayAct_26 : decode cX7_mayAct 26 = .ok (.ireturn, 1) := by decide +kernel
theorem dX7_mayAct_27 : decode cX7_mayAct 27 = .ok (.aload_n 0, 1) := by decide +kernel
theorem dX7_mayAct_28 : decode cX7_mayAct 28 = .ok (.iconst 0, 1) := by decide +kernel
theorem dX7_mayAct_29 : decode cX7_mayAct 29 = .ok (.invokevirtual 75, 3) := by decide +kernel
theorem dX7_mayAct_32 : decode cX7_mayAct 32 = .ok (.ifCond .ne 5, 3) := by decide +kernel
theorem dX7_mayAct_35 : decode cX7_mayAct 35 = .ok (.iconst 1, 1) := by decide +kernel
theorem dX7_mayAct_36 : decode cX7_mayAct 36 = .ok (.ireturn, 1) := by decide +kernel
theorem dX7_mayAct_37 : decode cX7_mayAct 37 = .ok (.aload_n 0, 1) := by decide +kernel
theorem dX7_mayAct_38 : decode cX7_mayAct 38 = .ok (.getfield 28, 3) := by decide +kernel
theorem dX7_mayAct_41 : decode cX7_mayAct 41 = .ok (.bipush 98, 2) := by decide +kernel
theorem dX7_mayAct_43 : decode cX7_mayAct 43 = .ok (.aload_n 0, 1) := by decide +kernel
theorem dX7_mayAct_44 : decode cX7_mayAct 44 = .ok (.iload_n 1, 1) := by decide +kernel
theorem dX7_mayAct_45 : decode cX7_mayAct 45 = .ok (.invokevirtual 79, 3) := by decide +kernel
theorem dX7_mayAct_48 : decode cX7_mayAct 48 = .ok (.iastore, 1) := by decide +kernel
theorem dX7_mayAct_49 : decode cX7_mayAct 49 = .ok (.aload_n 0, 1) := by decide +kernel
theorem dX7_mayAct_50 : decode cX7_mayAct 50 = .ok (.getfield 28, 3) := by decide +kernel
theorem dX7_mayAct_53 : decode cX7_mayAct 53 = .ok (.bipush 119, 2) := by decide +kernel
theorem dX7_mayAct_55 : decode cX7_mayAct 55 = .ok (.iload_n 1, 1) := by decide +kernel
theorem dX7_mayAct_56 : decode cX7_mayAct 56 = .ok (.iastore, 1) := by decide +kernel
theorem dX7_mayAct_57 : decode cX7_mayAct 57 = .ok (.aload_n 0, 1) := by decide +kernel
theorem dX7_mayAct_58 : decode cX7_mayAct 58 = .ok (.getfield 28, 3) := by decide +kernel
theorem dX7_mayAct_61 : decode cX7_mayAct 61 = .ok (.bipush 109, 2) := by decide +kernel
theorem dX7_mayAct_63 : decode cX7_mayAct 63 = .ok (.aload_n 0, 1) := by decide +kernel
theorem dX7_mayAct_64 : decode cX7_mayAct 64 = .ok (.getfield 7, 3) := by decide +kernel
theorem dX7_mayAct_67 : decode cX7_mayAct 67 = .ok (.iconst 0, 1) := by decide +kernel
theorem dX7_mayAct_68 : decode cX7_mayAct 68 = .ok (.iaload, 1) := by decide +kernel
theorem dX7_mayAct_69 : decode cX7_mayAct 69 = .ok (.sipush 1440, 3) := by decide +kernel
theorem dX7_mayAct_72 : decode cX7_mayAct 72 = .ok (.irem, 1) := by decide +kernel
theorem dX7_mayAct_73 : decode cX7_mayAct 73 = .ok (.iastore, 1) := by decide +kernel
theorem dX7_mayAct_74 : decode cX7_mayAct 74 = .ok (.aload_n 0, 1) := by decide +kernel
theorem dX7_mayAct_75 : decode cX7_mayAct 75 = .ok (.getfield 28, 3) := by decide +kernel
theorem dX7_mayAct_78 : decode cX7_mayAct 78 = .ok (.bipush 108, 2) := by decide +kernel
theorem dX7_mayAct_80 : decode cX7_mayAct 80 = .ok (.aload_n 0, 1) := by decide +kernel
theorem dX7_mayAct_81 : decode cX7_mayAct 81 = .ok (.invokevirtual 82, 3) := by decide +kernel
theorem dX7_mayAct_84 : decode cX7_mayAct 84 = .ok (.iastore, 1) := by decide +kernel
theorem dX7_mayAct_85 : decode cX7_mayAct 85 = .ok (.aload_n 0, 1) := by decide +kernel
theorem dX7_mayAct_86 : decode cX7_mayAct 86 = .ok (.getfield 28, 3) := by decide +kernel
theorem dX7_mayAct_89 : decode cX7_mayAct 89 = .ok (.bipush 97, 2) := by decide +kernel
theorem dX7_mayAct_91 : decode cX7_mayAct 91 = .ok (.aload_n 0, 1) := by decide +kernel
theorem dX7_mayAct_92 : decode cX7_mayAct 92 = .ok (.iload_n 1, 1) := by decide +kernel
theorem dX7_mayAct_93 : decode cX7_mayAct 93 = .ok (.invokevirtual 86, 3) := by decide +kernel
theorem dX7_mayAct_96 : decode cX7_mayAct 96 = .ok (.iastore, 1) := by decide +kernel
theorem dX7_mayAct_97 : decode cX7_mayAct 97 = .ok (.aload_n 0, 1) := by decide +kernel
theorem dX7_mayAct_98 : decode cX7_mayAct 98 = .ok (.iconst 0, 1) := by decide +kernel
theorem dX7_mayAct_99 : decode cX7_mayAct 99 = .ok (.invokevirtual 89, 3) := by decide +kernel
theorem dX7_mayAct_102 : decode cX7_mayAct 102 = .ok (.ifCond .eq 7, 3) := by decide +kernel
theorem dX7_mayAct_105 : decode cX7_mayAct 105 = .ok (.iconst 1, 1) := by decide +kernel
theorem dX7_mayAct_106 : decode cX7_mayAct 106 = .ok (.goto 4, 3) := by decide +kernel
theorem dX7_mayAct_109 : decode cX7_mayAct 109 = .ok (.iconst 0, 1) := by decide +kernel
theorem dX7_mayAct_110 : decode cX7_mayAct 110 = .ok (.ireturn, 1) := by decide +kernel
set_option maxRecDepth 20000 in
theorem ggX7_takeOver_X7_wordAt : GoodIn wsX7_takeOver wsX7_wordAt := goodIn_r _ [8, 9, 14, 15, 16, 17, 18, 19, 20, 21, 22, 23, 24, 25, 26, 27, 28, 29, 30, 31, 32, 33, 34, 35, 36, 37] rfl (by decide +kernel)
set_option maxRecDepth 20000 in
theorem gX7_takeOver_X7_wordAt : GoodIn wsX7_takeOver (wsV RX7 96 RX7 yX7_wordAt wsX7_wordAt) := goodIn_app (goodIn_r _ [4, 5, 6, 7] rfl (by decide +kernel)) ggX7_takeOver_X7_wordAt
set_option maxRecDepth 20000 in
theorem ggX7_takeOver_X7_originAt : GoodIn wsX7_takeOver wsX7_originAt := goodIn_r _ [13, 9, 14, 15, 16, 17, 18, 19, 20, 21, 22, 23, 24, 25, 26, 27, 28, 29, 30, 31, 32, 33, 34, 35, 36, 37] rfl (by decide +kernel)
set_option maxRecDepth 20000 in
theorem gX7_takeOver_X7_originAt : GoodIn wsX7_takeOver (wsV RX7 99 RX7 yX7_originAt wsX7_originAt) := goodIn_app (goodIn_r _ [10, 11, 12, 7] rfl (by decide +kernel)) ggX7_takeOver_X7_originAt
theorem dX7_takeOver_0 : decode cX7_takeOver 0 = .ok (.iload_n 2, 1) := by decide +kernel
theorem dX7_takeOver_1 : decode cX7_takeOver 1 = .ok (.istore 4, 2) := by decide +kernel
theorem dX7_takeOver_3 : decode cX7_takeOver 3 = .ok (.iload 4, 2) := by decide +kernel
theorem dX7_takeOver_5 : decode cX7_takeOver 5 = .ok (.iload_n 3, 1) := by decide +kernel
theorem dX7_takeOver_6 : decode cX7_takeOver 6 = .ok (.if_icmp .ge 51, 3) := by decide +kernel
theorem dX7_takeOver_9 : decode cX7_takeOver 9 = .ok (.aload_n 0, 1) := by decide +kernel
theorem dX7_takeOver_10 : decode cX7_takeOver 10 = .ok (.getfield 19, 3) := by decide +kernel
theorem dX7_takeOver_13 : decode cX7_takeOver 13 = .ok (.aload_n 0, 1) := by decide +kernel
theorem dX7_takeOver_14 : decode cX7_takeOver 14 = .ok (.getfield 92, 3) := by decide +kernel
theorem dX7_takeOver_17 : decode cX7_takeOver 17 = .ok (.aload_n 0, 1) := by decide +kernel
theorem dX7_takeOver_18 : decode cX7_takeOver 18 = .ok (.iload_n 1, 1) := by decide +kernel
theorem dX7_takeOver_19 : decode cX7_takeOver 19 = .ok (.iload 4, 2) := by decide +kernel
theorem dX7_takeOver_21 : decode cX7_takeOver 21 = .ok (.invokevirtual 96, 3) := by decide +kernel
theorem dX7_takeOver_24 : decode cX7_takeOver 24 = .ok (.iastore, 1) := by decide +kernel
theorem dX7_takeOver_25 : decode cX7_takeOver 25 = .ok (.aload_n 0, 1) := by decide +kernel
theorem dX7_takeOver_26 : decode cX7_takeOver 26 = .ok (.getfield 22, 3) := by decide +kernel
theorem dX7_takeOver_29 : decode cX7_takeOver 29 = .ok (.aload_n 0, 1) := by decide +kernel
theorem dX7_takeOver_30 : decode cX7_takeOver 30 = .ok (.getfield 92, 3) := by decide +kernel
theorem dX7_takeOver_33 : decode cX7_takeOver 33 = .ok (.aload_n 0, 1) := by decide +kernel
theorem dX7_takeOver_34 : decode cX7_takeOver 34 = .ok (.iload_n 1, 1) := by decide +kernel
theorem dX7_takeOver_35 : decode cX7_takeOver 35 = .ok (.iload 4, 2) := by decide +kernel
theorem dX7_takeOver_37 : decode cX7_takeOver 37 = .ok (.invokevirtual 99, 3) := by decide +kernel
theorem dX7_takeOver_40 : decode cX7_takeOver 40 = .ok (.iastore, 1) := by decide +kernel
theorem dX7_takeOver_41 : decode cX7_takeOver 41 = .ok (.aload_n 0, 1) := by decide +kernel
theorem dX7_takeOver_42 : decode cX7_takeOver 42 = .ok (.dup, 1) := by decide +kernel
theorem dX7_takeOver_43 : decode cX7_takeOver 43 = .ok (.getfield 92, 3) := by decide +kernel
theorem dX7_takeOver_46 : decode cX7_takeOver 46 = .ok (.iconst 1, 1) := by decide +kernel
theorem dX7_takeOver_47 : decode cX7_takeOver 47 = .ok (.iadd, 1) := by decide +kernel
theorem dX7_takeOver_48 : decode cX7_takeOver 48 = .ok (.putfield 92, 3) := by decide +kernel
theorem dX7_takeOver_51 : decode cX7_takeOver 51 = .ok (.iinc 4 1, 3) := by decide +kernel
theorem dX7_takeOver_54 : decode cX7_takeOver 54 = .ok (.goto (-51), 3) := by decide +kernel
theorem dX7_takeOver_57 : decode cX7_takeOver 57 = .ok (.return_, 1) := by decide +kernel
theorem dX7_putNew_0 : decode cX7_putNew 0 = .ok (.aload_n 0, 1) := by decide +kernel
theorem dX7_putNew_1 : decode cX7_putNew 1 = .ok (.getfield 19, 3) := by decide +kernel
theorem dX7_putNew_4 : decode cX7_putNew 4 = .ok (.aload_n 0, 1) := by decide +kernel
theorem dX7_putNew_5 : decode cX7_putNew 5 = .ok (.getfield 92, 3) := by decide +kernel
theorem dX7_putNew_8 : decode cX7_putNew 8 = .ok (.iload_n 1, 1) := by decide +kernel
theorem dX7_putNew_9 : decode cX7_putNew 9 = .ok (.iastore, 1) := by decide +kernel
theorem dX7_putNew_10 : decode cX7_putNew 10 = .ok (.aload_n 0, 1) := by decide +kernel
theorem dX7_putNew_11 : decode cX7_putNew 11 = .ok (.getfield 22, 3) := by decide +kernel
theorem dX7_putNew_14 : decode cX7_putNew 14 = .ok (.aload_n 0, 1) := by decide +kernel
theorem dX7_putNew_15 : decode cX7_putNew 15 = .ok (.getfield 92, 3) := by decide +kernel
theorem dX7_putNew_18 : decode cX7_putNew 18 = .ok (.iconst (-1), 1) := by decide +kernel
theorem dX7_putNew_19 : decode cX7_putNew 19 = .ok (.iastore, 1) := by decide +kernel
theorem dX7_putNew_20 : decode cX7_putNew 20 = .ok (.aload_n 0, 1) := by decide +kernel
theorem dX7_putNew_21 : decode cX7_putNew 21 = .ok (.dup, 1) := by decide +kernel
theorem dX7_putNew_22 : decode cX7_putNew 22 = .ok (.getfield 92, 3) := by decide +kernel
theorem dX7_putNew_25 : decode cX7_putNew 25 = .ok (.iconst 1, 1) := by decide +kernel
theorem dX7_putNew_26 : decode cX7_putNew 26 = .ok (.iadd, 1) := by decide +kernel
theorem dX7_putNew_27 : decode cX7_putNew 27 = .ok (.putfield 92, 3) := by decide +kernel
theorem dX7_putNew_30 : decode cX7_putNew 30 = .ok (.return_, 1) := by decide +kernel
theorem dX7_done_0 : decode cX7_done 0 = .ok (.aload_n 0, 1) := by decide +kernel
theorem dX7_done_1 : decode cX7_done 1 = .ok (.getfield 7, 3) := by decide +kernel
theorem dX7_done_4 : decode cX7_done 4 = .ok (.iconst 1, 1) := by decide +kernel
theorem dX7_done_5 : decode cX7_done 5 = .ok (.iaload, 1) := by decide +kernel
theorem dX7_done_6 : decode cX7_done 6 = .ok (.istore 4, 2) := by decide +kernel
theorem dX7_done_8 : decode cX7_done 8 = .ok (.bipush 10, 2) := by decide +kernel
theorem dX7_done_10 : decode cX7_done 10 = .ok (.iconst 5, 1) := by decide +kernel
theorem dX7_done_11 : decode cX7_done 11 = .ok (.iload 4, 2) := by decide +kernel
theorem dX7_done_13 : decode cX7_done 13 = .ok (.imul, 1) := by decide +kernel
theorem dX7_done_14 : decode cX7_done 14 = .ok (.iadd, 1) := by decide +kernel
theorem dX7_done_15 : decode cX7_done 15 = .ok (.istore 5, 2) := by decide +kernel
theorem dX7_done_17 : decode cX7_done 17 = .ok (.aload_n 0, 1) := by decide +kernel
theorem dX7_done_18 : decode cX7_done 18 = .ok (.getfield 7, 3) := by decide +kernel
theorem dX7_done_21 : decode cX7_done 21 = .ok (.iload 5, 2) := by decide +kernel
theorem dX7_done_23 : decode cX7_done 23 = .ok (.iconst 0, 1) := by decide +kernel
theorem dX7_done_24 : decode cX7_done 24 = .ok (.iadd, 1) := by decide +kernel
theorem dX7_done_25 : decode cX7_done 25 = .ok (.iload_n 1, 1) := by decide +kernel
theorem dX7_done_26 : decode cX7_done 26 = .ok (.iastore, 1) := by decide +kernel
theorem dX7_done_27 : decode cX7_done 27 = .ok (.aload_n 0, 1) := by decide +kernel
theorem dX7_done_28 : decode cX7_done 28 = .ok (.getfield 7, 3) := by decide +kernel
theorem dX7_done_31 : decode cX7_done 31 = .ok (.iload 5, 2) := by decide +kernel
theorem dX7_done_33 : decode cX7_done 33 = .ok (.iconst 1, 1) := by decide +kernel
theorem dX7_done_34 : decode cX7_done 34 = .ok (.iadd, 1) := by decide +kernel
theorem dX7_done_35 : decode cX7_done 35 = .ok (.iload_n 2, 1) := by decide +kernel
theorem dX7_done_36 : decode cX7_done 36 = .ok (.iastore, 1) := by decide +kernel
theorem dX7_done_37 : decode cX7_done 37 = .ok (.aload_n 0, 1) := by decide +kernel
theorem dX7_done_38 : decode cX7_done 38 = .ok (.getfield 7, 3) := by decide +kernel
theorem dX7_done_41 : decode cX7_done 41 = .ok (.iload 5, 2) := by decide +kernel
theorem dX7_done_43 : decode cX7_done 43 = .ok (.iconst 2, 1) := by decide +kernel
theorem dX7_done_44 : decode cX7_done 44 = .ok (.iadd, 1) := by decide +kernel
theorem dX7_done_45 : decode cX7_done 45 = .ok (.aload_n 0, 1) := by decide +kernel
theorem dX7_done_46 : decode cX7_done 46 = .ok (.getfield 7, 3) := by decide +kernel
theorem dX7_done_49 : decode cX7_done 49 = .ok (.iconst 0, 1) := by decide +kernel
theorem dX7_done_50 : decode cX7_done 50 = .ok (.iaload, 1) := by decide +kernel
theorem dX7_done_51 : decode cX7_done 51 = .ok (.iastore, 1) := by decide +kernel
theorem dX7_done_52 : decode cX7_done 52 = .ok (.aload_n 0, 1) := by decide +kernel
theorem dX7_done_53 : decode cX7_done 53 = .ok (.getfield 7, 3) := by decide +kernel
theorem dX7_done_56 : decode cX7_done 56 = .ok (.iload 5, 2) := by decide +kernel
theorem dX7_done_58 : decode cX7_done 58 = .ok (.iconst 3, 1) := by decide +kernel
theorem dX7_done_59 : decode cX7_done 59 = .ok (.iadd, 1) := by decide +kernel
theorem dX7_done_60 : decode cX7_done 60 = .ok (.iload_n 3, 1) := by decide +kernel
theorem dX7_done_61 : decode cX7_done 61 = .ok (.iastore, 1) := by decide +kernel
theorem dX7_done_62 : decode cX7_done 62 = .ok (.aload_n 0, 1) := by decide +kernel
theorem dX7_done_63 : decode cX7_done 63 = .ok (.getfield 7, 3) := by decide +kernel
theorem dX7_done_66 : decode cX7_done 66 = .ok (.iload 5, 2) := by decide +kernel
theorem dX7_done_68 : decode cX7_done 68 = .ok (.iconst 4, 1) := by decide +kernel
theorem dX7_done_69 : decode cX7_done 69 = .ok (.iadd, 1) := by decide +kernel
theorem dX7_done_70 : decode cX7_done 70 = .ok (.iconst (-1), 1) := by decide +kernel
theorem dX7_done_71 : decode cX7_done 71 = .ok (.iastore, 1) := by decide +kernel
theorem dX7_done_72 : decode cX7_done 72 = .ok (.aload_n 0, 1) := by decide +kernel
theorem dX7_done_73 : decode cX7_done 73 = .ok (.getfield 7, 3) := by decide +kernel
theorem dX7_done_76 : decode cX7_done 76 = .ok (.sipush 310, 3) := by decide +kernel
theorem dX7_done_79 : decode cX7_done 79 = .ok (.iload 4, 2) := by decide +kernel
theorem dX7_done_81 : decode cX7_done 81 = .ok (.iadd, 1) := by decide +kernel
theorem dX7_done_82 : decode cX7_done 82 = .ok (.iconst 1, 1) := by decide +kernel
theorem dX7_done_83 : decode cX7_done 83 = .ok (.iadd, 1) := by decide +kernel
theorem dX7_done_84 : decode cX7_done 84 = .ok (.aload_n 0, 1) := by decide +kernel
theorem dX7_done_85 : decode cX7_done 85 = .ok (.getfield 92, 3) := by decide +kernel
theorem dX7_done_88 : decode cX7_done 88 = .ok (.iastore, 1) := by decide +kernel
theorem dX7_done_89 : decode cX7_done 89 = .ok (.iconst 0, 1) := by decide +kernel
theorem dX7_done_90 : decode cX7_done 90 = .ok (.istore 6, 2) := by decide +kernel
theorem dX7_done_92 : decode cX7_done 92 = .ok (.iload 6, 2) := by decide +kernel
theorem dX7_done_94 : decode cX7_done 94 = .ok (.aload_n 0, 1) := by decide +kernel
theorem dX7_done_95 : decode cX7_done 95 = .ok (.getfield 92, 3) := by decide +kernel
theorem dX7_done_98 : decode cX7_done 98 = .ok (.if_icmp .ge 76, 3) := by decide +kernel
theorem dX7_done_101 : decode cX7_done 101 = .ok (.aload_n 0, 1) := by decide +kernel
theorem dX7_done_102 : decode cX7_done 102 = .ok (.getfield 7, 3) := by decide +kernel
theorem dX7_done_105 : decode cX7_done 105 = .ok (.sipush 380, 3) := by decide +kernel
theorem dX7_done_108 : decode cX7_done 108 = .ok (.bipush 20, 2) := by decide +kernel
theorem dX7_done_110 : decode cX7_done 110 = .ok (.iload 4, 2) := by decide +kernel
theorem dX7_done_112 : decode cX7_done 112 = .ok (.iconst 1, 1) := by decide +kernel
theorem dX7_done_113 : decode cX7_done 113 = .ok (.iadd, 1) := by decide +kernel
theorem dX7_done_114 : decode cX7_done 114 = .ok (.imul, 1) := by decide +kernel
theorem dX7_done_115 : decode cX7_done 115 = .ok (.iadd, 1) := by decide +kernel
theorem dX7_done_116 : decode cX7_done 116 = .ok (.iload 6, 2) := by decide +kernel
theorem dX7_done_118 : decode cX7_done 118 = .ok (.iadd, 1) := by decide +kernel
theorem dX7_done_119 : decode cX7_done 119 = .ok (.aload_n 0, 1) := by decide +kernel
theorem dX7_done_120 : decode cX7_done 120 = .ok (.getfield 19, 3) := by decide +kernel
theorem dX7_done_123 : decode cX7_done 123 = .ok (.iload 6, 2) := by decide +kernel
theorem dX7_done_125 : decode cX7_done 125 = .ok (.iaload, 1) := by decide +kernel
theorem dX7_done_126 : decode cX7_done 126 = .ok (.iastore, 1) := by decide +kernel
theorem dX7_done_127 : decode cX7_done 127 = .ok (.aload_n 0, 1) := by decide +kernel
theorem dX7_done_128 : decode cX7_done 128 = .ok (.getfield 7, 3) := by decide +kernel
theorem dX7_done_131 : decode cX7_done 131 = .ok (.sipush 1600, 3) := by decide +kernel
theorem dX7_done_134 : decode cX7_done 134 = .ok (.bipush 20, 2) := by decide +kernel
theorem dX7_done_136 : decode cX7_done 136 = .ok (.iload 4, 2) := by decide +kernel
theorem dX7_done_138 : decode cX7_done 138 = .ok (.iconst 1, 1) := by decide +kernel
theorem dX7_done_139 : decode cX7_done 139 = .ok (.iadd, 1) := by decide +kernel
theorem dX7_done_140 : decode cX7_done 140 = .ok (.imul, 1) := by decide +kernel
theorem dX7_done_141 : decode cX7_done 141 = .ok (.iadd, 1) := by decide +kernel
theorem dX7_done_142 : decode cX7_done 142 = .ok (.iload 6, 2) := by decide +kernel
theorem dX7_done_144 : decode cX7_done 144 = .ok (.iadd, 1) := by decide +kernel
theorem dX7_done_145 : decode cX7_done 145 = .ok (.aload_n 0, 1) := by decide +kernel
theorem dX7_done_146 : decode cX7_done 146 = .ok (.getfield 22, 3) := by decide +kernel
theorem dX7_done_149 : decode cX7_done 149 = .ok (.iload 6, 2) := by decide +kernel
theorem dX7_done_151 : decode cX7_done 151 = .ok (.iaload, 1) := by decide +kernel
theorem dX7_done_152 : decode cX7_done 152 = .ok (.ifCond .ge 8, 3) := by decide +kernel
theorem dX7_done_155 : decode cX7_done 155 = .ok (.iload 4, 2) := by decide +kernel
theorem dX7_done_157 : decode cX7_done 157 = .ok (.goto 10, 3) := by decide +kernel
theorem dX7_done_160 : decode cX7_done 160 = .ok (.aload_n 0, 1) := by decide +kernel
theorem dX7_done_161 : decode cX7_done 161 = .ok (.getfield 22, 3) := by decide +kernel
theorem dX7_done_164 : decode cX7_done 164 = .ok (.iload 6, 2) := by decide +kernel
theorem dX7_done_166 : decode cX7_done 166 = .ok (.iaload, 1) := by decide +kernel
theorem dX7_done_167 : decode cX7_done 167 = .ok (.iastore, 1) := by decide +kernel
theorem dX7_done_168 : decode cX7_done 168 = .ok (.iinc 6 1, 3) := by decide +kernel
theorem dX7_done_171 : decode cX7_done 171 = .ok (.goto (-79), 3) := by decide +kernel
theorem dX7_done_174 : decode cX7_done 174 = .ok (.aload_n 0, 1) := by decide +kernel
theorem dX7_done_175 : decode cX7_done 175 = .ok (.getfield 7, 3) := by decide +kernel
theorem dX7_done_178 : decode cX7_done 178 = .ok (.iconst 1, 1) := by decide +kernel
theorem dX7_done_179 : decode cX7_done 179 = .ok (.dup2, 1) := by decide +kernel
theorem dX7_done_180 : decode cX7_done 180 = .ok (.iaload, 1) := by decide +kernel
theorem dX7_done_181 : decode cX7_done 181 = .ok (.iconst 1, 1) := by decide +kernel
theorem dX7_done_182 : decode cX7_done 182 = .ok (.iadd, 1) := by decide +kernel
theorem dX7_done_183 : decode cX7_done 183 = .ok (.iastore, 1) := by decide +kernel
theorem dX7_done_184 : decode cX7_done 184 = .ok (.iload 4, 2) := by decide +kernel
theorem dX7_done_186 : decode cX7_done 186 = .ok (.ireturn, 1) := by decide +kernel
set_option maxRecDepth 20000 in
theorem ggX7_seen_X7_actIs1 : GoodIn wsX7_seen wsX7_actIs1 := goodIn_r _ [9, 3, 71, 72, 73, 74, 75, 76, 77, 78, 79, 80, 81, 82, 83, 84, 85, 86, 87, 88, 89, 90, 91, 92, 93, 94] rfl (by decide +kernel)
set_option maxRecDepth 20000 in
theorem gX7_seen_X7_actIs1 : GoodIn wsX7_seen (wsV RX7 67 RX7 yX7_actIs1 wsX7_actIs1) := goodIn_app (goodIn_r _ [5, 6, 7, 8] rfl (by decide +kernel)) ggX7_seen_X7_actIs1
set_option maxRecDepth 20000 in
theorem ggX7_seen_X7_hasText : GoodIn wsX7_seen wsX7_hasText := goodIn_r _ [13, 3, 71, 72, 73, 74, 75, 76, 77, 78, 79, 80, 81, 82, 83, 84, 85, 86, 87, 88, 89, 90, 91, 92, 93, 94] rfl (by decide +kernel)
set_option maxRecDepth 20000 in
theorem gX7_seen_X7_hasText : GoodIn wsX7_seen (wsV RX7 75 RX7 yX7_hasText wsX7_hasText) := goodIn_app (goodIn_r _ [10, 11, 12, 8] rfl (by decide +kernel)) ggX7_seen_X7_hasText
set_option maxRecDepth 20000 in
theorem ggX7_seen_X7_findUndone : GoodIn wsX7_seen wsX7_findUndone := goodIn_r _ [17, 3, 1, 18, 19, 20, 8, 21, 22, 23, 24, 25, 26, 27, 28, 29, 71, 72, 73, 74, 75, 76, 77, 78, 79, 80, 81, 82, 83, 84, 85, 86, 87, 88, 89, 90, 91, 92, 93, 94] rfl (by decide +kernel)
set_option maxRecDepth 20000 in
theorem gX7_seen_X7_findUndone : GoodIn wsX7_seen (wsV RX7 102 RX7 yX7_findUndone wsX7_findUndone) := goodIn_app (goodIn_r _ [14, 15, 16, 8] rfl (by decide +kernel)) ggX7_seen_X7_findUndone
set_option maxRecDepth 20000 in
theorem ggX7_seen_X7_sizeOf : GoodIn wsX7_seen wsX7_sizeOf := goodIn_r _ [25, 3, 71, 72, 73, 74, 75, 76, 77, 78, 79, 80, 81, 82, 83, 84, 85, 86, 87, 88, 89, 90, 91, 92, 93, 94] rfl (by decide +kernel)
set_option maxRecDepth 20000 in
theorem gX7_seen_X7_sizeOf : GoodIn wsX7_seen (wsV RX7 60 RX7 yX7_sizeOf wsX7_sizeOf) := goodIn_app (goodIn_r _ [22, 23, 24, 8] rfl (by decide +kernel)) ggX7_seen_X7_sizeOf
set_option maxRecDepth 20000 in
theorem ggX7_seen_X7_worked : GoodIn wsX7_seen wsX7_worked := goodIn_r _ [33, 3, 34, 2, 35, 36, 8, 37, 71, 72, 73, 74, 75, 76, 77, 78, 79, 80, 81, 82, 83, 84, 85, 86, 87, 88, 89, 90, 91, 92, 93, 94] rfl (by decide +kernel)
set_option maxRecDepth 20000 in
theorem gX7_seen_X7_worked : GoodIn wsX7_seen (wsV RX7 89 RX7 yX7_worked wsX7_worked) := goodIn_app (goodIn_r _ [30, 31, 32, 8] rfl (by decide +kernel)) ggX7_seen_X7_worked
set_option maxRecDepth 20000 in
theorem ggX7_seen_X7_mayAct : GoodIn wsX7_seen wsX7_mayAct := goodIn_r _ [41, 3, 2, 10, 11, 12, 8, 13, 42, 43, 44, 45, 5, 6, 7, 9, 46, 47, 48, 49, 50, 51, 52, 22, 23, 24, 25, 53, 54, 55, 56, 30, 31, 32, 33, 34, 35, 36, 37, 71, 72, 73, 74, 75, 76, 77, 78, 79, 80, 81, 82, 83, 84, 85, 86, 87, 88, 89, 90, 91, 92, 93, 94] rfl (by decide +kernel)
set_option maxRecDepth 20000 in
theorem gX7_seen_X7_mayAct : GoodIn wsX7_seen (wsV RX7 105 RX7 yX7_mayAct wsX7_mayAct) := goodIn_app (goodIn_r _ [38, 39, 40, 8] rfl (by decide +kernel)) ggX7_seen_X7_mayAct
set_option maxRecDepth 20000 in
theorem ggX7_seen_X7_takeOver : GoodIn wsX7_seen wsX7_takeOver := goodIn_r _ [60, 61, 4, 62, 26, 27, 28, 8, 29, 3, 63, 64, 65, 66, 71, 72, 73, 74, 75, 76, 77, 78, 79, 80, 81, 82, 83, 84, 85, 86, 87, 88, 89, 90, 91, 92, 93, 94] rfl (by decide +kernel)
set_option maxRecDepth 20000 in
theorem gX7_seen_X7_takeOver : GoodIn wsX7_seen (wsV RX7 108 RX7 yX7_takeOver wsX7_takeOver) := goodIn_app (goodIn_r _ [57, 58, 59, 8] rfl (by decide +kernel)) ggX7_seen_X7_takeOver
set_option maxRecDepth 20000 in
theorem ggX7_seen_X7_done : GoodIn wsX7_seen wsX7_done := goodIn_r _ [70, 3, 4, 61, 62, 71, 72, 73, 74, 75, 76, 77, 78, 79, 80, 81, 82, 83, 84, 85, 86, 87, 88, 89, 90, 91, 92, 93, 94] rfl (by decide +kernel)
set_option maxRecDepth 20000 in
theorem gX7_seen_X7_done : GoodIn wsX7_seen (wsV RX7 112 RX7 yX7_done wsX7_done) := goodIn_app (goodIn_r _ [67, 68, 69, 8] rfl (by decide +kernel)) ggX7_seen_X7_done
theorem dX7_seen_0 : decode cX7_seen 0 = .ok (.aload_n 0, 1) := by decide +kernel
theorem dX7_seen_1 : decode cX7_seen 1 = .ok (.iload_n 1, 1) := by decide +kernel
theorem dX7_seen_2 : decode cX7_seen 2 = .ok (.iconst 1, 1) := by decide +kernel
theorem dX7_seen_3 : decode cX7_seen 3 = .ok (.invokevirtual 67, 3) := by decide +kernel
theorem dX7_seen_6 : decode cX7_seen 6 = .ok (.bipush 7, 2) := by decide +kernel
theorem dX7_seen_8 : decode cX7_seen 8 = .ok (.if_icmp .eq 11, 3) := by decide +kernel
theorem dX7_seen_11 : decode cX7_seen 11 = .ok (.aload_n 0, 1) := by decide +kernel
theorem dX7_seen_12 : decode cX7_seen 12 = .ok (.iconst 1, 1) := by decide +kernel
theorem dX7_seen_13 : decode cX7_seen 13 = .ok (.invokevirtual 75, 3) := by decide +kernel
theorem dX7_seen_16 : decode cX7_seen 16 = .ok (.ifCond .ne 5, 3) := by decide +kernel
theorem dX7_seen_19 : decode cX7_seen 19 = .ok (.iload_n 1, 1) := by decide +kernel
theorem dX7_seen_20 : decode cX7_seen 20 = .ok (.ireturn, 1) := by decide +kernel
theorem dX7_seen_21 : decode cX7_seen 21 = .ok (.aload_n 0, 1) := by decide +kernel
theorem dX7_seen_22 : decode cX7_seen 22 = .ok (.invokevirtual 102, 3) := by decide +kernel
theorem dX7_seen_25 : decode cX7_seen 25 = .ok (.iconst 0, 1) := by decide +kernel
theorem dX7_seen_26 : decode cX7_seen 26 = .ok (.istore_n 2, 1) := by decide +kernel
theorem dX7_seen_27 : decode cX7_seen 27 = .ok (.iconst 0, 1) := by decide +kernel
theorem dX7_seen_28 : decode cX7_seen 28 = .ok (.istore_n 3, 1) := by decide +kernel
theorem dX7_seen_29 : decode cX7_seen 29 = .ok (.iload_n 3, 1) := by decide +kernel
theorem dX7_seen_30 : decode cX7_seen 30 = .ok (.iload_n 1, 1) := by decide +kernel
theorem dX7_seen_31 : decode cX7_seen 31 = .ok (.if_icmp .ge 27, 3) := by decide +kernel
theorem dX7_seen_34 : decode cX7_seen 34 = .ok (.iload_n 2, 1) := by decide +kernel
theorem dX7_seen_35 : decode cX7_seen 35 = .ok (.aload_n 0, 1) := by decide +kernel
theorem dX7_seen_36 : decode cX7_seen 36 = .ok (.getfield 37, 3) := by decide +kernel
theorem dX7_seen_39 : decode cX7_seen 39 = .ok (.iload_n 3, 1) := by decide +kernel
theorem dX7_seen_40 : decode cX7_seen 40 = .ok (.iaload, 1) := by decide +kernel
theorem dX7_seen_41 : decode cX7_seen 41 = .ok (.iload_n 1, 1) := by decide +kernel
theorem dX7_seen_42 : decode cX7_seen 42 = .ok (.if_icmp .ne 7, 3) := by decide +kernel
theorem dX7_seen_45 : decode cX7_seen 45 = .ok (.iconst 1, 1) := by decide +kernel
theorem dX7_seen_46 : decode cX7_seen 46 = .ok (.goto 4, 3) := by decide +kernel
theorem dX7_seen_49 : decode cX7_seen 49 = .ok (.iconst 0, 1) := by decide +kernel
theorem dX7_seen_50 : decode cX7_seen 50 = .ok (.iadd, 1) := by decide +kernel
theorem dX7_seen_51 : decode cX7_seen 51 = .ok (.istore_n 2, 1) := by decide +kernel
theorem dX7_seen_52 : decode cX7_seen 52 = .ok (.iinc 3 1, 3) := by decide +kernel
theorem dX7_seen_55 : decode cX7_seen 55 = .ok (.goto (-26), 3) := by decide +kernel
theorem dX7_seen_58 : decode cX7_seen 58 = .ok (.aload_n 0, 1) := by decide +kernel
theorem dX7_seen_59 : decode cX7_seen 59 = .ok (.getfield 28, 3) := by decide +kernel
theorem dX7_seen_62 : decode cX7_seen 62 = .ok (.bipush 107, 2) := by decide +kernel
theorem dX7_seen_64 : decode cX7_seen 64 = .ok (.aload_n 0, 1) := by decide +kernel
theorem dX7_seen_65 : decode cX7_seen 65 = .ok (.iload_n 1, 1) := by decide +kernel
theorem dX7_seen_66 : decode cX7_seen 66 = .ok (.iconst 0, 1) := by decide +kernel
theorem dX7_seen_67 : decode cX7_seen 67 = .ok (.invokevirtual 67, 3) := by decide +kernel
theorem dX7_seen_70 : decode cX7_seen 70 = .ok (.iastore, 1) := by decide +kernel
theorem dX7_seen_71 : decode cX7_seen 71 = .ok (.aload_n 0, 1) := by decide +kernel
theorem dX7_seen_72 : decode cX7_seen 72 = .ok (.getfield 28, 3) := by decide +kernel
theorem dX7_seen_75 : decode cX7_seen 75 = .ok (.bipush 119, 2) := by decide +kernel
theorem dX7_seen_77 : decode cX7_seen 77 = .ok (.aload_n 0, 1) := by decide +kernel
theorem dX7_seen_78 : decode cX7_seen 78 = .ok (.iload_n 1, 1) := by decide +kernel
theorem dX7_seen_79 : decode cX7_seen 79 = .ok (.iconst 1, 1) := by decide +kernel
theorem dX7_seen_80 : decode cX7_seen 80 = .ok (.invokevirtual 67, 3) := by decide +kernel
theorem dX7_seen_83 : decode cX7_seen 83 = .ok (.iastore, 1) := by decide +kernel
theorem dX7_seen_84 : decode cX7_seen 84 = .ok (.aload_n 0, 1) := by decide +kernel
theorem dX7_seen_85 : decode cX7_seen 85 = .ok (.getfield 28, 3) := by decide +kernel
theorem dX7_seen_88 : decode cX7_seen 88 = .ok (.bipush 108, 2) := by decide +kernel
theorem dX7_seen_90 : decode cX7_seen 90 = .ok (.aload_n 0, 1) := by decide +kernel
theorem dX7_seen_91 : decode cX7_seen 91 = .ok (.iload_n 1, 1) := by decide +kernel
theorem dX7_seen_92 : decode cX7_seen 92 = .ok (.iconst 1, 1) := by decide +kernel
theorem dX7_seen_93 : decode cX7_seen 93 = .ok (.iadd, 1) := by decide +kernel
theorem dX7_seen_94 : decode cX7_seen 94 = .ok (.invokevirtual 60, 3) := by decide +kernel
theorem dX7_seen_97 : decode cX7_seen 97 = .ok (.iastore, 1) := by decide +kernel
theorem dX7_seen_98 : decode cX7_seen 98 = .ok (.aload_n 0, 1) := by decide +kernel
theorem dX7_seen_99 : decode cX7_seen 99 = .ok (.getfield 28, 3) := by decide +kernel
theorem dX7_seen_102 : decode cX7_seen 102 = .ok (.bipush 100, 2) := by decide +kernel
theorem dX7_seen_104 : decode cX7_seen 104 = .ok (.aload_n 0, 1) := by decide +kernel
theorem dX7_seen_105 : decode cX7_seen 105 = .ok (.iload_n 1, 1) := by decide +kernel
theorem dX7_seen_106 : decode cX7_seen 106 = .ok (.iconst 1, 1) := by decide +kernel
theorem dX7_seen_107 : decode cX7_seen 107 = .ok (.iadd, 1) := by decide +kernel
theorem dX7_seen_108 : decode cX7_seen 108 = .ok (.invokevirtual 60, 3) := by decide +kernel
theorem dX7_seen_111 : decode cX7_seen 111 = .ok (.aload_n 0, 1) := by decide +kernel
theorem dX7_seen_112 : decode cX7_seen 112 = .ok (.iload_n 1, 1) := by decide +kernel
theorem dX7_seen_113 : decode cX7_seen 113 = .ok (.invokevirtual 60, 3) := by decide +kernel
theorem dX7_seen_116 : decode cX7_seen 116 = .ok (.isub, 1) := by decide +kernel
theorem dX7_seen_117 : decode cX7_seen 117 = .ok (.iastore, 1) := by decide +kernel
theorem dX7_seen_118 : decode cX7_seen 118 = .ok (.aload_n 0, 1) := by decide +kernel
theorem dX7_seen_119 : decode cX7_seen 119 = .ok (.getfield 28, 3) := by decide +kernel
theorem dX7_seen_122 : decode cX7_seen 122 = .ok (.bipush 117, 2) := by decide +kernel
theorem dX7_seen_124 : decode cX7_seen 124 = .ok (.iload_n 2, 1) := by decide +kernel
theorem dX7_seen_125 : decode cX7_seen 125 = .ok (.iastore, 1) := by decide +kernel
theorem dX7_seen_126 : decode cX7_seen 126 = .ok (.aload_n 0, 1) := by decide +kernel
theorem dX7_seen_127 : decode cX7_seen 127 = .ok (.iconst 1, 1) := by decide +kernel
theorem dX7_seen_128 : decode cX7_seen 128 = .ok (.invokevirtual 89, 3) := by decide +kernel
theorem dX7_seen_131 : decode cX7_seen 131 = .ok (.ifCond .eq 48, 3) := by decide +kernel
theorem dX7_seen_134 : decode cX7_seen 134 = .ok (.aload_n 0, 1) := by decide +kernel
theorem dX7_seen_135 : decode cX7_seen 135 = .ok (.getfield 7, 3) := by decide +kernel
theorem dX7_seen_138 : decode cX7_seen 138 = .ok (.iconst 1, 1) := by decide +kernel
theorem dX7_seen_139 : decode cX7_seen 139 = .ok (.iaload, 1) := by decide +kernel
theorem dX7_seen_140 : decode cX7_seen 140 = .ok (.bipush 60, 2) := by decide +kernel
theorem dX7_seen_142 : decode cX7_seen 142 = .ok (.if_icmp .ge 37, 3) := by decide +kernel
theorem dX7_seen_145 : decode cX7_seen 145 = .ok (.aload_n 0, 1) := by decide +kernel
theorem dX7_seen_146 : decode cX7_seen 146 = .ok (.bipush 7, 2) := by decide +kernel
theorem dX7_seen_148 : decode cX7_seen 148 = .ok (.invokevirtual 105, 3) := by decide +kernel
theorem dX7_seen_151 : decode cX7_seen 151 = .ok (.ifCond .eq 28, 3) := by decide +kernel
theorem dX7_seen_154 : decode cX7_seen 154 = .ok (.aload_n 0, 1) := by decide +kernel
theorem dX7_seen_155 : decode cX7_seen 155 = .ok (.iconst 0, 1) := by decide +kernel
theorem dX7_seen_156 : decode cX7_seen 156 = .ok (.putfield 92, 3) := by decide +kernel
theorem dX7_seen_159 : decode cX7_seen 159 = .ok (.aload_n 0, 1) := by decide +kernel
theorem dX7_seen_160 : decode cX7_seen 160 = .ok (.iload_n 1, 1) := by decide +kernel
theorem dX7_seen_161 : decode cX7_seen 161 = .ok (.iconst 0, 1) := by decide +kernel
theorem dX7_seen_162 : decode cX7_seen 162 = .ok (.aload_n 0, 1) := by decide +kernel
theorem dX7_seen_163 : decode cX7_seen 163 = .ok (.iload_n 1, 1) := by decide +kernel
theorem dX7_seen_164 : decode cX7_seen 164 = .ok (.invokevirtual 60, 3) := by decide +kernel
theorem dX7_seen_167 : decode cX7_seen 167 = .ok (.invokevirtual 108, 3) := by decide +kernel
theorem dX7_seen_170 : decode cX7_seen 170 = .ok (.aload_n 0, 1) := by decide +kernel
theorem dX7_seen_171 : decode cX7_seen 171 = .ok (.iconst 2, 1) := by decide +kernel
theorem dX7_seen_172 : decode cX7_seen 172 = .ok (.bipush 7, 2) := by decide +kernel
theorem dX7_seen_174 : decode cX7_seen 174 = .ok (.iload_n 1, 1) := by decide +kernel
theorem dX7_seen_175 : decode cX7_seen 175 = .ok (.invokevirtual 112, 3) := by decide +kernel
theorem dX7_seen_178 : decode cX7_seen 178 = .ok (.istore_n 3, 1) := by decide +kernel
theorem dX7_seen_179 : decode cX7_seen 179 = .ok (.iload_n 1, 1) := by decide +kernel
theorem dX7_seen_180 : decode cX7_seen 180 = .ok (.ireturn, 1) := by decide +kernel
theorem dX7_isFull_0 : decode cX7_isFull 0 = .ok (.aload_n 0, 1) := by decide +kernel
theorem dX7_isFull_1 : decode cX7_isFull 1 = .ok (.getfield 7, 3) := by decide +kernel
theorem dX7_isFull_4 : decode cX7_isFull 4 = .ok (.iconst 1, 1) := by decide +kernel
theorem dX7_isFull_5 : decode cX7_isFull 5 = .ok (.iaload, 1) := by decide +kernel
theorem dX7_isFull_6 : decode cX7_isFull 6 = .ok (.bipush 60, 2) := by decide +kernel
theorem dX7_isFull_8 : decode cX7_isFull 8 = .ok (.if_icmp .ne 7, 3) := by decide +kernel
theorem dX7_isFull_11 : decode cX7_isFull 11 = .ok (.iconst 1, 1) := by decide +kernel
theorem dX7_isFull_12 : decode cX7_isFull 12 = .ok (.goto 4, 3) := by decide +kernel
theorem dX7_isFull_15 : decode cX7_isFull 15 = .ok (.iconst 0, 1) := by decide +kernel
theorem dX7_isFull_16 : decode cX7_isFull 16 = .ok (.ireturn, 1) := by decide +kernel
set_option maxRecDepth 20000 in
theorem ggX7_writes_X7_takeOver : GoodIn wsX7_writes wsX7_takeOver := goodIn_r _ [7, 8, 2, 9, 10, 11, 12, 6, 13, 1, 14, 15, 16, 17, 79, 80, 81, 82, 83, 84, 85, 86, 87, 88, 89, 90, 91, 92, 93, 94, 95, 96, 97, 98, 99, 100, 101, 102] rfl (by decide +kernel)
set_option maxRecDepth 20000 in
theorem gX7_writes_X7_takeOver : GoodIn wsX7_writes (wsV RX7 108 RX7 yX7_takeOver wsX7_takeOver) := goodIn_app (goodIn_r _ [3, 4, 5, 6] rfl (by decide +kernel)) ggX7_writes_X7_takeOver
set_option maxRecDepth 20000 in
theorem ggX7_writes_X7_putNew : GoodIn wsX7_writes wsX7_putNew := goodIn_r _ [21, 8, 2, 9, 79, 80, 81, 82, 83, 84, 85, 86, 87, 88, 89, 90, 91, 92, 93, 94, 95, 96, 97, 98, 99, 100, 101, 102] rfl (by decide +kernel)
set_option maxRecDepth 20000 in
theorem gX7_writes_X7_putNew : GoodIn wsX7_writes (wsV RX7 116 RX7 yX7_putNew wsX7_putNew) := goodIn_app (goodIn_r _ [18, 19, 20, 6] rfl (by decide +kernel)) ggX7_writes_X7_putNew
set_option maxRecDepth 20000 in
theorem ggX7_writes_X7_page : GoodIn wsX7_writes wsX7_page := goodIn_r _ [25, 1, 26, 27, 28, 6, 29, 79, 80, 81, 82, 83, 84, 85, 86, 87, 88, 89, 90, 91, 92, 93, 94, 95, 96, 97, 98, 99, 100, 101, 102] rfl (by decide +kernel)
set_option maxRecDepth 20000 in
theorem gX7_writes_X7_page : GoodIn wsX7_writes (wsV RX7 82 RX7 yX7_page wsX7_page) := goodIn_app (goodIn_r _ [22, 23, 24, 6] rfl (by decide +kernel)) ggX7_writes_X7_page
set_option maxRecDepth 20000 in
theorem ggX7_writes_X7_done : GoodIn wsX7_writes wsX7_done := goodIn_r _ [33, 1, 2, 8, 9, 79, 80, 81, 82, 83, 84, 85, 86, 87, 88, 89, 90, 91, 92, 93, 94, 95, 96, 97, 98, 99, 100, 101, 102] rfl (by decide +kernel)
set_option maxRecDepth 20000 in
theorem gX7_writes_X7_done : GoodIn wsX7_writes (wsV RX7 112 RX7 yX7_done wsX7_done) := goodIn_app (goodIn_r _ [30, 31, 32, 6] rfl (by decide +kernel)) ggX7_writes_X7_done
set_option maxRecDepth 20000 in
theorem ggX7_writes_X7_seen : GoodIn wsX7_writes wsX7_seen := goodIn_r _ [37, 38, 39, 1, 2, 40, 41, 42, 6, 43, 44, 45, 46, 47, 48, 49, 50, 51, 52, 53, 54, 55, 26, 27, 28, 29, 10, 11, 12, 13, 56, 57, 58, 59, 60, 61, 62, 63, 64, 65, 66, 67, 68, 69, 70, 71, 72, 73, 74, 22, 23, 24, 25, 75, 76, 77, 78, 3, 4, 5, 7, 8, 9, 14, 15, 16, 17, 30, 31, 32, 33, 79, 80, 81, 82, 83, 84, 85, 86, 87, 88, 89, 90, 91, 92, 93, 94, 95, 96, 97, 98, 99, 100, 101, 102] rfl (by decide +kernel)
set_option maxRecDepth 20000 in
theorem gX7_writes_X7_seen : GoodIn wsX7_writes (wsV RX7 120 RX7 yX7_seen wsX7_seen) := goodIn_app (goodIn_r _ [34, 35, 36, 6] rfl (by decide +kernel)) ggX7_writes_X7_seen
theorem dX7_writes_0 : decode cX7_writes 0 = .ok (.aload_n 0, 1) := by decide +kernel
theorem dX7_writes_1 : decode cX7_writes 1 = .ok (.getfield 7, 3) := by decide +kernel
theorem dX7_writes_4 : decode cX7_writes 4 = .ok (.iconst 1, 1) := by decide +kernel
theorem dX7_writes_5 : decode cX7_writes 5 = .ok (.iaload, 1) := by decide +kernel
theorem dX7_writes_6 : decode cX7_writes 6 = .ok (.istore 5, 2) := by decide +kernel
theorem dX7_writes_8 : decode cX7_writes 8 = .ok (.aload_n 0, 1) := by decide +kernel
theorem dX7_writes_9 : decode cX7_writes 9 = .ok (.iconst 0, 1) := by decide +kernel
theorem dX7_writes_10 : decode cX7_writes 10 = .ok (.putfield 92, 3) := by decide +kernel
theorem dX7_writes_13 : decode cX7_writes 13 = .ok (.aload_n 0, 1) := by decide +kernel
theorem dX7_writes_14 : decode cX7_writes 14 = .ok (.iload 5, 2) := by decide +kernel
theorem dX7_writes_16 : decode cX7_writes 16 = .ok (.iconst 0, 1) := by decide +kernel
theorem dX7_writes_17 : decode cX7_writes 17 = .ok (.iload_n 3, 1) := by decide +kernel
theorem dX7_writes_18 : decode cX7_writes 18 = .ok (.invokevirtual 108, 3) := by decide +kernel
theorem dX7_writes_21 : decode cX7_writes 21 = .ok (.aload_n 0, 1) := by decide +kernel
theorem dX7_writes_22 : decode cX7_writes 22 = .ok (.iload 4, 2) := by decide +kernel
theorem dX7_writes_24 : decode cX7_writes 24 = .ok (.invokevirtual 116, 3) := by decide +kernel
theorem dX7_writes_27 : decode cX7_writes 27 = .ok (.aload_n 0, 1) := by decide +kernel
theorem dX7_writes_28 : decode cX7_writes 28 = .ok (.iload 5, 2) := by decide +kernel
theorem dX7_writes_30 : decode cX7_writes 30 = .ok (.iload_n 1, 1) := by decide +kernel
theorem dX7_writes_31 : decode cX7_writes 31 = .ok (.iconst 5, 1) := by decide +kernel
theorem dX7_writes_32 : decode cX7_writes 32 = .ok (.if_icmp .ne 9, 3) := by decide +kernel
theorem dX7_writes_35 : decode cX7_writes 35 = .ok (.iload_n 3, 1) := by decide +kernel
theorem dX7_writes_36 : decode cX7_writes 36 = .ok (.iconst 1, 1) := by decide +kernel
theorem dX7_writes_37 : decode cX7_writes 37 = .ok (.iadd, 1) := by decide +kernel
theorem dX7_writes_38 : decode cX7_writes 38 = .ok (.goto 4, 3) := by decide +kernel
theorem dX7_writes_41 : decode cX7_writes 41 = .ok (.iload_n 3, 1) := by decide +kernel
theorem dX7_writes_42 : decode cX7_writes 42 = .ok (.aload_n 0, 1) := by decide +kernel
theorem dX7_writes_43 : decode cX7_writes 43 = .ok (.invokevirtual 82, 3) := by decide +kernel
theorem dX7_writes_46 : decode cX7_writes 46 = .ok (.invokevirtual 108, 3) := by decide +kernel
theorem dX7_writes_49 : decode cX7_writes 49 = .ok (.aload_n 0, 1) := by decide +kernel
theorem dX7_writes_50 : decode cX7_writes 50 = .ok (.aload_n 0, 1) := by decide +kernel
theorem dX7_writes_51 : decode cX7_writes 51 = .ok (.iload_n 1, 1) := by decide +kernel
theorem dX7_writes_52 : decode cX7_writes 52 = .ok (.iload_n 2, 1) := by decide +kernel
theorem dX7_writes_53 : decode cX7_writes 53 = .ok (.iload 4, 2) := by decide +kernel
theorem dX7_writes_55 : decode cX7_writes 55 = .ok (.invokevirtual 112, 3) := by decide +kernel
theorem dX7_writes_58 : decode cX7_writes 58 = .ok (.invokevirtual 120, 3) := by decide +kernel
theorem dX7_writes_61 : decode cX7_writes 61 = .ok (.ireturn, 1) := by decide +kernel
set_option maxRecDepth 20000 in
theorem ggX7_write_X7_isWriter : GoodIn wsX7_write wsX7_isWriter := goodIn_r _ [4, 5, 6, 3, 7] rfl (by decide +kernel)
set_option maxRecDepth 20000 in
theorem gX7_write_X7_isWriter : GoodIn wsX7_write (va_wsS RX7 123 yX7_isWriter wsX7_isWriter) := goodIn_app (goodIn_r _ [1, 2, 3] rfl (by decide +kernel)) ggX7_write_X7_isWriter
set_option maxRecDepth 20000 in
theorem ggX7_write_X7_in : GoodIn wsX7_write wsX7_in := goodIn_r _ [7] rfl (by decide +kernel)
set_option maxRecDepth 20000 in
theorem gX7_write_X7_in : GoodIn wsX7_write (va_wsS RX7 56 yX7_in wsX7_in) := goodIn_app (goodIn_r _ [5, 6, 3] rfl (by decide +kernel)) ggX7_write_X7_in
set_option maxRecDepth 20000 in
theorem ggX7_write_X7_page : GoodIn wsX7_write wsX7_page := goodIn_r _ [11, 12, 13, 14, 15, 3, 16, 99, 100, 101, 102, 103, 104, 105, 106, 107, 108, 109, 110, 111, 112, 113, 114, 115, 116, 117, 118, 119, 120, 121, 122] rfl (by decide +kernel)
set_option maxRecDepth 20000 in
theorem gX7_write_X7_page : GoodIn wsX7_write (wsV RX7 82 RX7 yX7_page wsX7_page) := goodIn_app (goodIn_r _ [8, 9, 10, 3] rfl (by decide +kernel)) ggX7_write_X7_page
set_option maxRecDepth 20000 in
theorem ggX7_write_X7_error : GoodIn wsX7_write wsX7_error := goodIn_r _ [20, 21, 22, 99, 100, 101, 102, 103, 104, 105, 106, 107, 108, 109, 110, 111, 112, 113, 114, 115, 116, 117, 118, 119, 120, 121, 122] rfl (by decide +kernel)
set_option maxRecDepth 20000 in
theorem gX7_write_X7_error : GoodIn wsX7_write (wsV RX7 64 RX7 yX7_error wsX7_error) := goodIn_app (goodIn_r _ [17, 18, 19, 3] rfl (by decide +kernel)) ggX7_write_X7_error
set_option maxRecDepth 20000 in
theorem ggX7_write_X7_mayAct : GoodIn wsX7_write wsX7_mayAct := goodIn_r _ [26, 12, 27, 28, 29, 30, 3, 31, 32, 33, 34, 35, 36, 37, 38, 39, 40, 41, 42, 8, 9, 10, 11, 13, 14, 15, 16, 43, 44, 45, 46, 47, 48, 49, 50, 51, 52, 53, 54, 99, 100, 101, 102, 103, 104, 105, 106, 107, 108, 109, 110, 111, 112, 113, 114, 115, 116, 117, 118, 119, 120, 121, 122] rfl (by decide +kernel)
set_option maxRecDepth 20000 in
theorem gX7_write_X7_mayAct : GoodIn wsX7_write (wsV RX7 105 RX7 yX7_mayAct wsX7_mayAct) := goodIn_app (goodIn_r _ [23, 24, 25, 3] rfl (by decide +kernel)) ggX7_write_X7_mayAct
set_option maxRecDepth 20000 in
theorem ggX7_write_X7_isFull : GoodIn wsX7_write wsX7_isFull := goodIn_r _ [58, 12, 99, 100, 101, 102, 103, 104, 105, 106, 107, 108, 109, 110, 111, 112, 113, 114, 115, 116, 117, 118, 119, 120, 121, 122] rfl (by decide +kernel)
set_option maxRecDepth 20000 in
theorem gX7_write_X7_isFull : GoodIn wsX7_write (wsV RX7 126 RX7 yX7_isFull wsX7_isFull) := goodIn_app (goodIn_r _ [55, 56, 57, 3] rfl (by decide +kernel)) ggX7_write_X7_isFull
set_option maxRecDepth 20000 in
theorem ggX7_write_X7_writes : GoodIn wsX7_write wsX7_writes := goodIn_r _ [62, 12, 63, 64, 65, 66, 3, 67, 68, 69, 70, 71, 72, 73, 74, 75, 76, 77, 78, 79, 80, 81, 8, 9, 10, 11, 13, 14, 15, 16, 82, 83, 84, 85, 86, 87, 88, 89, 90, 27, 36, 37, 38, 39, 28, 29, 30, 31, 91, 92, 93, 94, 95, 96, 97, 98, 47, 48, 49, 50, 51, 52, 53, 54, 23, 24, 25, 26, 32, 33, 34, 35, 40, 41, 42, 43, 44, 45, 46, 99, 100, 101, 102, 103, 104, 105, 106, 107, 108, 109, 110, 111, 112, 113, 114, 115, 116, 117, 118, 119, 120, 121, 122] rfl (by decide +kernel)
set_option maxRecDepth 20000 in
theorem gX7_write_X7_writes : GoodIn wsX7_write (wsV RX7 130 RX7 yX7_writes wsX7_writes) := goodIn_app (goodIn_r _ [59, 60, 61, 3] rfl (by decide +kernel)) ggX7_write_X7_writes
theorem dX7_write_0 : decode cX7_write 0 = .ok (.iload_n 1, 1) := by decide +kernel
theorem dX7_write_1 : decode cX7_write 1 = .ok (.iconst 1, 1) := by decide +kernel
theorem dX7_write_2 : decode cX7_write 2 = .ok (.if_icmp .eq 13, 3) := by decide +kernel
theorem dX7_write_5 : decode cX7_write 5 = .ok (.iload_n 1, 1) := by decide +kernel
theorem dX7_write_6 : decode cX7_write 6 = .ok (.iconst 4, 1) := by decide +kernel
theorem dX7_write_7 : decode cX7_write 7 = .ok (.if_icmp .eq 8, 3) := by decide +kernel
theorem dX7_write_10 : decode cX7_write 10 = .ok (.iload_n 1, 1) := by decide +kernel
theorem dX7_write_11 : decode cX7_write 11 = .ok (.iconst 5, 1) := by decide +kernel
theorem dX7_write_12 : decode cX7_write 12 = .ok (.if_icmp .ne 31, 3) := by decide +kernel
theorem dX7_write_15 : decode cX7_write 15 = .ok (.iload_n 2, 1) := by decide +kernel
theorem dX7_write_16 : decode cX7_write 16 = .ok (.ifCond .lt 27, 3) := by decide +kernel
theorem dX7_write_19 : decode cX7_write 19 = .ok (.iload_n 2, 1) := by decide +kernel
theorem dX7_write_20 : decode cX7_write 20 = .ok (.bipush 100, 2) := by decide +kernel
theorem dX7_write_22 : decode cX7_write 22 = .ok (.idiv, 1) := by decide +kernel
theorem dX7_write_23 : decode cX7_write 23 = .ok (.invokestatic 123, 3) := by decide +kernel
theorem dX7_write_26 : decode cX7_write 26 = .ok (.ifCond .eq 17, 3) := by decide +kernel
theorem dX7_write_29 : decode cX7_write 29 = .ok (.iload_n 3, 1) := by decide +kernel
theorem dX7_write_30 : decode cX7_write 30 = .ok (.iconst 1, 1) := by decide +kernel
theorem dX7_write_31 : decode cX7_write 31 = .ok (.bipush 60, 2) := by decide +kernel
theorem dX7_write_33 : decode cX7_write 33 = .ok (.invokestatic 56, 3) := by decide +kernel
theorem dX7_write_36 : decode cX7_write 36 = .ok (.ifCond .eq 7, 3) := by decide +kernel
theorem dX7_write_39 : decode cX7_write 39 = .ok (.iconst 1, 1) := by decide +kernel
theorem dX7_write_40 : decode cX7_write 40 = .ok (.goto 4, 3) := by decide +kernel
theorem dX7_write_43 : decode cX7_write 43 = .ok (.iconst 0, 1) := by decide +kernel
theorem dX7_write_44 : decode cX7_write 44 = .ok (.istore 4, 2) := by decide +kernel
theorem dX7_write_46 : decode cX7_write 46 = .ok (.iload 4, 2) := by decide +kernel
theorem dX7_write_48 : decode cX7_write 48 = .ok (.ifCond .eq 28, 3) := by decide +kernel
theorem dX7_write_51 : decode cX7_write 51 = .ok (.iload_n 2, 1) := by decide +kernel
theorem dX7_write_52 : decode cX7_write 52 = .ok (.bipush 100, 2) := by decide +kernel
theorem dX7_write_54 : decode cX7_write 54 = .ok (.irem, 1) := by decide +kernel
theorem dX7_write_55 : decode cX7_write 55 = .ok (.iload_n 1, 1) := by decide +kernel
theorem dX7_write_56 : decode cX7_write 56 = .ok (.iconst 5, 1) := by decide +kernel
theorem dX7_write_57 : decode cX7_write 57 = .ok (.if_icmp .ne 12, 3) := by decide +kernel
theorem dX7_write_60 : decode cX7_write 60 = .ok (.aload_n 0, 1) := by decide +kernel
theorem dX7_write_61 : decode cX7_write 61 = .ok (.invokevirtual 82, 3) := by decide +kernel
theorem dX7_write_64 : decode cX7_write 64 = .ok (.iconst 1, 1) := by decide +kernel
theorem dX7_write_65 : decode cX7_write 65 = .ok (.isub, 1) := by decide +kernel
theorem dX7_write_66 : decode cX7_write 66 = .ok (.goto 7, 3) := by decide +kernel
theorem dX7_write_69 : decode cX7_write 69 = .ok (.aload_n 0, 1) := by decide +kernel
theorem dX7_write_70 : decode cX7_write 70 = .ok (.invokevirtual 82, 3) := by decide +kernel
theorem dX7_write_73 : decode cX7_write 73 = .ok (.if_icmp .le 9, 3) := by decide +kernel
theorem dX7_write_76 : decode cX7_write 76 = .ok (.aload_n 0, 1) := by decide +kernel
theorem dX7_write_77 : decode cX7_write 77 = .ok (.iconst 1, 1) := by decide +kernel
theorem dX7_write_78 : decode cX7_write 78 = .ok (.invokevirtual 64, 3) := by decide +kernel
theorem dX7_write_81 : decode cX7_write 81 = .ok (.ireturn, 1) := by decide +kernel
theorem dX7_write_82 : decode cX7_write 82 = .ok (.aload_n 0, 1) := by decide +kernel
theorem dX7_write_83 : decode cX7_write 83 = .ok (.iload_n 2, 1) := by decide +kernel
theorem dX7_write_84 : decode cX7_write 84 = .ok (.bipush 100, 2) := by decide +kernel
theorem dX7_write_86 : decode cX7_write 86 = .ok (.idiv, 1) := by decide +kernel
theorem dX7_write_87 : decode cX7_write 87 = .ok (.invokevirtual 105, 3) := by decide +kernel
theorem dX7_write_90 : decode cX7_write 90 = .ok (.ifCond .ne 9, 3) := by decide +kernel
theorem dX7_write_93 : decode cX7_write 93 = .ok (.aload_n 0, 1) := by decide +kernel
theorem dX7_write_94 : decode cX7_write 94 = .ok (.iconst 3, 1) := by decide +kernel
theorem dX7_write_95 : decode cX7_write 95 = .ok (.invokevirtual 64, 3) := by decide +kernel
theorem dX7_write_98 : decode cX7_write 98 = .ok (.ireturn, 1) := by decide +kernel
theorem dX7_write_99 : decode cX7_write 99 = .ok (.aload_n 0, 1) := by decide +kernel
theorem dX7_write_100 : decode cX7_write 100 = .ok (.invokevirtual 126, 3) := by decide +kernel
theorem dX7_write_103 : decode cX7_write 103 = .ok (.ifCond .ne 17, 3) := by decide +kernel
theorem dX7_write_106 : decode cX7_write 106 = .ok (.iload_n 1, 1) := by decide +kernel
theorem dX7_write_107 : decode cX7_write 107 = .ok (.iconst 5, 1) := by decide +kernel
theorem dX7_write_108 : decode cX7_write 108 = .ok (.if_icmp .eq 18, 3) := by decide +kernel
theorem dX7_write_111 : decode cX7_write 111 = .ok (.aload_n 0, 1) := by decide +kernel
theorem dX7_write_112 : decode cX7_write 112 = .ok (.invokevirtual 82, 3) := by decide +kernel
theorem dX7_write_115 : decode cX7_write 115 = .ok (.bipush 20, 2) := by decide +kernel
theorem dX7_write_117 : decode cX7_write 117 = .ok (.if_icmp .ne 9, 3) := by decide +kernel
theorem dX7_write_120 : decode cX7_write 120 = .ok (.aload_n 0, 1) := by decide +kernel
theorem dX7_write_121 : decode cX7_write 121 = .ok (.iconst 4, 1) := by decide +kernel
theorem dX7_write_122 : decode cX7_write 122 = .ok (.invokevirtual 64, 3) := by decide +kernel
theorem dX7_write_125 : decode cX7_write 125 = .ok (.ireturn, 1) := by decide +kernel
theorem dX7_write_126 : decode cX7_write 126 = .ok (.aload_n 0, 1) := by decide +kernel
theorem dX7_write_127 : decode cX7_write 127 = .ok (.iload_n 1, 1) := by decide +kernel
theorem dX7_write_128 : decode cX7_write 128 = .ok (.iload_n 2, 1) := by decide +kernel
theorem dX7_write_129 : decode cX7_write 129 = .ok (.bipush 100, 2) := by decide +kernel
theorem dX7_write_131 : decode cX7_write 131 = .ok (.idiv, 1) := by decide +kernel
theorem dX7_write_132 : decode cX7_write 132 = .ok (.iload_n 2, 1) := by decide +kernel
theorem dX7_write_133 : decode cX7_write 133 = .ok (.bipush 100, 2) := by decide +kernel
theorem dX7_write_135 : decode cX7_write 135 = .ok (.irem, 1) := by decide +kernel
theorem dX7_write_136 : decode cX7_write 136 = .ok (.iload_n 3, 1) := by decide +kernel
theorem dX7_write_137 : decode cX7_write 137 = .ok (.invokevirtual 130, 3) := by decide +kernel
theorem dX7_write_140 : decode cX7_write 140 = .ok (.ireturn, 1) := by decide +kernel
set_option maxRecDepth 20000 in
theorem ggX7_cuts_X7_wordAt : GoodIn wsX7_cuts wsX7_wordAt := goodIn_r _ [7, 1, 75, 76, 77, 78, 79, 80, 81, 82, 83, 84, 85, 86, 87, 88, 89, 90, 91, 92, 93, 94, 95, 96, 97, 98] rfl (by decide +kernel)
set_option maxRecDepth 20000 in
theorem gX7_cuts_X7_wordAt : GoodIn wsX7_cuts (wsV RX7 96 RX7 yX7_wordAt wsX7_wordAt) := goodIn_app (goodIn_r _ [3, 4, 5, 6] rfl (by decide +kernel)) ggX7_cuts_X7_wordAt
set_option maxRecDepth 20000 in
theorem ggX7_cuts_X7_takeOver : GoodIn wsX7_cuts wsX7_takeOver := goodIn_r _ [11, 12, 2, 13, 3, 4, 5, 6, 7, 1, 14, 15, 16, 17, 75, 76, 77, 78, 79, 80, 81, 82, 83, 84, 85, 86, 87, 88, 89, 90, 91, 92, 93, 94, 95, 96, 97, 98] rfl (by decide +kernel)
set_option maxRecDepth 20000 in
theorem gX7_cuts_X7_takeOver : GoodIn wsX7_cuts (wsV RX7 108 RX7 yX7_takeOver wsX7_takeOver) := goodIn_app (goodIn_r _ [8, 9, 10, 6] rfl (by decide +kernel)) ggX7_cuts_X7_takeOver
set_option maxRecDepth 20000 in
theorem ggX7_cuts_X7_page : GoodIn wsX7_cuts wsX7_page := goodIn_r _ [21, 1, 22, 23, 24, 6, 25, 75, 76, 77, 78, 79, 80, 81, 82, 83, 84, 85, 86, 87, 88, 89, 90, 91, 92, 93, 94, 95, 96, 97, 98] rfl (by decide +kernel)
set_option maxRecDepth 20000 in
theorem gX7_cuts_X7_page : GoodIn wsX7_cuts (wsV RX7 82 RX7 yX7_page wsX7_page) := goodIn_app (goodIn_r _ [18, 19, 20, 6] rfl (by decide +kernel)) ggX7_cuts_X7_page
set_option maxRecDepth 20000 in
theorem ggX7_cuts_X7_done : GoodIn wsX7_cuts wsX7_done := goodIn_r _ [29, 1, 2, 12, 13, 75, 76, 77, 78, 79, 80, 81, 82, 83, 84, 85, 86, 87, 88, 89, 90, 91, 92, 93, 94, 95, 96, 97, 98] rfl (by decide +kernel)
set_option maxRecDepth 20000 in
theorem gX7_cuts_X7_done : GoodIn wsX7_cuts (wsV RX7 112 RX7 yX7_done wsX7_done) := goodIn_app (goodIn_r _ [26, 27, 28, 6] rfl (by decide +kernel)) ggX7_cuts_X7_done
set_option maxRecDepth 20000 in
theorem ggX7_cuts_X7_seen : GoodIn wsX7_cuts wsX7_seen := goodIn_r _ [33, 34, 35, 1, 2, 36, 37, 38, 6, 39, 40, 41, 42, 43, 44, 45, 46, 47, 48, 49, 50, 51, 22, 23, 24, 25, 3, 4, 5, 7, 52, 53, 54, 55, 56, 57, 58, 59, 60, 61, 62, 63, 64, 65, 66, 67, 68, 69, 70, 18, 19, 20, 21, 71, 72, 73, 74, 8, 9, 10, 11, 12, 13, 14, 15, 16, 17, 26, 27, 28, 29, 75, 76, 77, 78, 79, 80, 81, 82, 83, 84, 85, 86, 87, 88, 89, 90, 91, 92, 93, 94, 95, 96, 97, 98] rfl (by decide +kernel)
set_option maxRecDepth 20000 in
theorem gX7_cuts_X7_seen : GoodIn wsX7_cuts (wsV RX7 120 RX7 yX7_seen wsX7_seen) := goodIn_app (goodIn_r _ [30, 31, 32, 6] rfl (by decide +kernel)) ggX7_cuts_X7_seen
theorem dX7_cuts_0 : decode cX7_cuts 0 = .ok (.aload_n 0, 1) := by decide +kernel
theorem dX7_cuts_1 : decode cX7_cuts 1 = .ok (.getfield 7, 3) := by decide +kernel
theorem dX7_cuts_4 : decode cX7_cuts 4 = .ok (.iconst 1, 1) := by decide +kernel
theorem dX7_cuts_5 : decode cX7_cuts 5 = .ok (.iaload, 1) := by decide +kernel
theorem dX7_cuts_6 : decode cX7_cuts 6 = .ok (.istore_n 3, 1) := by decide +kernel
theorem dX7_cuts_7 : decode cX7_cuts 7 = .ok (.aload_n 0, 1) := by decide +kernel
theorem dX7_cuts_8 : decode cX7_cuts 8 = .ok (.iload_n 3, 1) := by decide +kernel
theorem dX7_cuts_9 : decode cX7_cuts 9 = .ok (.iload_n 2, 1) := by decide +kernel
theorem dX7_cuts_10 : decode cX7_cuts 10 = .ok (.invokevirtual 96, 3) := by decide +kernel
theorem dX7_cuts_13 : decode cX7_cuts 13 = .ok (.istore 4, 2) := by decide +kernel
theorem dX7_cuts_15 : decode cX7_cuts 15 = .ok (.aload_n 0, 1) := by decide +kernel
theorem dX7_cuts_16 : decode cX7_cuts 16 = .ok (.iconst 0, 1) := by decide +kernel
theorem dX7_cuts_17 : decode cX7_cuts 17 = .ok (.putfield 92, 3) := by decide +kernel
theorem dX7_cuts_20 : decode cX7_cuts 20 = .ok (.aload_n 0, 1) := by decide +kernel
theorem dX7_cuts_21 : decode cX7_cuts 21 = .ok (.iload_n 3, 1) := by decide +kernel
theorem dX7_cuts_22 : decode cX7_cuts 22 = .ok (.iconst 0, 1) := by decide +kernel
theorem dX7_cuts_23 : decode cX7_cuts 23 = .ok (.iload_n 2, 1) := by decide +kernel
theorem dX7_cuts_24 : decode cX7_cuts 24 = .ok (.invokevirtual 108, 3) := by decide +kernel
theorem dX7_cuts_27 : decode cX7_cuts 27 = .ok (.aload_n 0, 1) := by decide +kernel
theorem dX7_cuts_28 : decode cX7_cuts 28 = .ok (.iload_n 3, 1) := by decide +kernel
theorem dX7_cuts_29 : decode cX7_cuts 29 = .ok (.iload_n 2, 1) := by decide +kernel
theorem dX7_cuts_30 : decode cX7_cuts 30 = .ok (.iconst 1, 1) := by decide +kernel
theorem dX7_cuts_31 : decode cX7_cuts 31 = .ok (.iadd, 1) := by decide +kernel
theorem dX7_cuts_32 : decode cX7_cuts 32 = .ok (.aload_n 0, 1) := by decide +kernel
theorem dX7_cuts_33 : decode cX7_cuts 33 = .ok (.invokevirtual 82, 3) := by decide +kernel
theorem dX7_cuts_36 : decode cX7_cuts 36 = .ok (.invokevirtual 108, 3) := by decide +kernel
theorem dX7_cuts_39 : decode cX7_cuts 39 = .ok (.aload_n 0, 1) := by decide +kernel
theorem dX7_cuts_40 : decode cX7_cuts 40 = .ok (.aload_n 0, 1) := by decide +kernel
theorem dX7_cuts_41 : decode cX7_cuts 41 = .ok (.iconst 0, 1) := by decide +kernel
theorem dX7_cuts_42 : decode cX7_cuts 42 = .ok (.iload_n 1, 1) := by decide +kernel
theorem dX7_cuts_43 : decode cX7_cuts 43 = .ok (.iload 4, 2) := by decide +kernel
theorem dX7_cuts_45 : decode cX7_cuts 45 = .ok (.invokevirtual 112, 3) := by decide +kernel
theorem dX7_cuts_48 : decode cX7_cuts 48 = .ok (.invokevirtual 120, 3) := by decide +kernel
theorem dX7_cuts_51 : decode cX7_cuts 51 = .ok (.ireturn, 1) := by decide +kernel
set_option maxRecDepth 20000 in
theorem ggX7_cut_X7_isWriter : GoodIn wsX7_cut wsX7_isWriter := goodIn_r _ [4, 5, 6, 3, 7] rfl (by decide +kernel)
set_option maxRecDepth 20000 in
theorem gX7_cut_X7_isWriter : GoodIn wsX7_cut (va_wsS RX7 123 yX7_isWriter wsX7_isWriter) := goodIn_app (goodIn_r _ [1, 2, 3] rfl (by decide +kernel)) ggX7_cut_X7_isWriter
set_option maxRecDepth 20000 in
theorem ggX7_cut_X7_page : GoodIn wsX7_cut wsX7_page := goodIn_r _ [11, 12, 13, 14, 15, 3, 16, 95, 96, 97, 98, 99, 100, 101, 102, 103, 104, 105, 106, 107, 108, 109, 110, 111, 112, 113, 114, 115, 116, 117, 118] rfl (by decide +kernel)
set_option maxRecDepth 20000 in
theorem gX7_cut_X7_page : GoodIn wsX7_cut (wsV RX7 82 RX7 yX7_page wsX7_page) := goodIn_app (goodIn_r _ [8, 9, 10, 3] rfl (by decide +kernel)) ggX7_cut_X7_page
set_option maxRecDepth 20000 in
theorem ggX7_cut_X7_error : GoodIn wsX7_cut wsX7_error := goodIn_r _ [20, 21, 22, 95, 96, 97, 98, 99, 100, 101, 102, 103, 104, 105, 106, 107, 108, 109, 110, 111, 112, 113, 114, 115, 116, 117, 118] rfl (by decide +kernel)
set_option maxRecDepth 20000 in
theorem gX7_cut_X7_error : GoodIn wsX7_cut (wsV RX7 64 RX7 yX7_error wsX7_error) := goodIn_app (goodIn_r _ [17, 18, 19, 3] rfl (by decide +kernel)) ggX7_cut_X7_error
set_option maxRecDepth 20000 in
theorem ggX7_cut_X7_mayAct : GoodIn wsX7_cut wsX7_mayAct := goodIn_r _ [26, 12, 27, 28, 29, 30, 3, 31, 32, 33, 34, 35, 36, 37, 38, 39, 40, 41, 42, 8, 9, 10, 11, 13, 14, 15, 16, 43, 44, 45, 46, 47, 48, 49, 50, 51, 52, 53, 54, 95, 96, 97, 98, 99, 100, 101, 102, 103, 104, 105, 106, 107, 108, 109, 110, 111, 112, 113, 114, 115, 116, 117, 118] rfl (by decide +kernel)
set_option maxRecDepth 20000 in
theorem gX7_cut_X7_mayAct : GoodIn wsX7_cut (wsV RX7 105 RX7 yX7_mayAct wsX7_mayAct) := goodIn_app (goodIn_r _ [23, 24, 25, 3] rfl (by decide +kernel)) ggX7_cut_X7_mayAct
set_option maxRecDepth 20000 in
theorem ggX7_cut_X7_isFull : GoodIn wsX7_cut wsX7_isFull := goodIn_r _ [58, 12, 95, 96, 97, 98, 99, 100, 101, 102, 103, 104, 105, 106, 107, 108, 109, 110, 111, 112, 113, 114, 115, 116, 117, 118] rfl (by decide +kernel)
set_option maxRecDepth 20000 in
theorem gX7_cut_X7_isFull : GoodIn wsX7_cut (wsV RX7 126 RX7 yX7_isFull wsX7_isFull) := goodIn_app (goodIn_r _ [55, 56, 57, 3] rfl (by decide +kernel)) ggX7_cut_X7_isFull
set_option maxRecDepth 20000 in
theorem ggX7_cut_X7_cuts : GoodIn wsX7_cut wsX7_cuts := goodIn_r _ [62, 12, 63, 64, 65, 66, 3, 67, 68, 69, 70, 71, 72, 73, 74, 75, 76, 77, 8, 9, 10, 11, 13, 14, 15, 16, 78, 79, 80, 81, 82, 83, 84, 85, 86, 27, 36, 37, 38, 39, 28, 29, 30, 31, 87, 88, 89, 90, 91, 92, 93, 94, 47, 48, 49, 50, 51, 52, 53, 54, 23, 24, 25, 26, 32, 33, 34, 35, 40, 41, 42, 43, 44, 45, 46, 95, 96, 97, 98, 99, 100, 101, 102, 103, 104, 105, 106, 107, 108, 109, 110, 111, 112, 113, 114, 115, 116, 117, 118] rfl (by decide +kernel)
set_option maxRecDepth 20000 in
theorem gX7_cut_X7_cuts : GoodIn wsX7_cut (wsV RX7 134 RX7 yX7_cuts wsX7_cuts) := goodIn_app (goodIn_r _ [59, 60, 61, 3] rfl (by decide +kernel)) ggX7_cut_X7_cuts
theorem dX7_cut_0 : decode cX7_cut 0 = .ok (.iload_n 1, 1) := by decide +kernel
theorem dX7_cut_1 : decode cX7_cut 1 = .ok (.ifCond .lt 24, 3) := by decide +kernel
theorem dX7_cut_4 : decode cX7_cut 4 = .ok (.iload_n 1, 1) := by decide +kernel
theorem dX7_cut_5 : decode cX7_cut 5 = .ok (.bipush 100, 2) := by decide +kernel
theorem dX7_cut_7 : decode cX7_cut 7 = .ok (.idiv, 1) := by decide +kernel
theorem dX7_cut_8 : decode cX7_cut 8 = .ok (.invokestatic 123, 3) := by decide +kernel
theorem dX7_cut_11 : decode cX7_cut 11 = .ok (.ifCond .eq 14, 3) := by decide +kernel
theorem dX7_cut_14 : decode cX7_cut 14 = .ok (.iload_n 1, 1) := by decide +kernel
theorem dX7_cut_15 : decode cX7_cut 15 = .ok (.bipush 100, 2) := by decide +kernel
theorem dX7_cut_17 : decode cX7_cut 17 = .ok (.irem, 1) := by decide +kernel
theorem dX7_cut_18 : decode cX7_cut 18 = .ok (.aload_n 0, 1) := by decide +kernel
theorem dX7_cut_19 : decode cX7_cut 19 = .ok (.invokevirtual 82, 3) := by decide +kernel
theorem dX7_cut_22 : decode cX7_cut 22 = .ok (.if_icmp .lt 9, 3) := by decide +kernel
theorem dX7_cut_25 : decode cX7_cut 25 = .ok (.aload_n 0, 1) := by decide +kernel
theorem dX7_cut_26 : decode cX7_cut 26 = .ok (.iconst 1, 1) := by decide +kernel
theorem dX7_cut_27 : decode cX7_cut 27 = .ok (.invokevirtual 64, 3) := by decide +kernel
theorem dX7_cut_30 : decode cX7_cut 30 = .ok (.ireturn, 1) := by decide +kernel
theorem dX7_cut_31 : decode cX7_cut 31 = .ok (.aload_n 0, 1) := by decide +kernel
theorem dX7_cut_32 : decode cX7_cut 32 = .ok (.iload_n 1, 1) := by decide +kernel
theorem dX7_cut_33 : decode cX7_cut 33 = .ok (.bipush 100, 2) := by decide +kernel
theorem dX7_cut_35 : decode cX7_cut 35 = .ok (.idiv, 1) := by decide +kernel
theorem dX7_cut_36 : decode cX7_cut 36 = .ok (.invokevirtual 105, 3) := by decide +kernel
theorem dX7_cut_39 : decode cX7_cut 39 = .ok (.ifCond .ne 9, 3) := by decide +kernel
theorem dX7_cut_42 : decode cX7_cut 42 = .ok (.aload_n 0, 1) := by decide +kernel
theorem dX7_cut_43 : decode cX7_cut 43 = .ok (.iconst 3, 1) := by decide +kernel
theorem dX7_cut_44 : decode cX7_cut 44 = .ok (.invokevirtual 64, 3) := by decide +kernel
theorem dX7_cut_47 : decode cX7_cut 47 = .ok (.ireturn, 1) := by decide +kernel
theorem dX7_cut_48 : decode cX7_cut 48 = .ok (.aload_n 0, 1) := by decide +kernel
theorem dX7_cut_49 : decode cX7_cut 49 = .ok (.invokevirtual 126, 3) := by decide +kernel
theorem dX7_cut_52 : decode cX7_cut 52 = .ok (.ifCond .eq 11, 3) := by decide +kernel
theorem dX7_cut_55 : decode cX7_cut 55 = .ok (.aload_n 0, 1) := by decide +kernel
theorem dX7_cut_56 : decode cX7_cut 56 = .ok (.iconst 4, 1) := by decide +kernel
theorem dX7_cut_57 : decode cX7_cut 57 = .ok (.invokevirtual 64, 3) := by decide +kernel
theorem dX7_cut_60 : decode cX7_cut 60 = .ok (.goto 15, 3) := by decide +kernel
theorem dX7_cut_63 : decode cX7_cut 63 = .ok (.aload_n 0, 1) := by decide +kernel
theorem dX7_cut_64 : decode cX7_cut 64 = .ok (.iload_n 1, 1) := by decide +kernel
theorem dX7_cut_65 : decode cX7_cut 65 = .ok (.bipush 100, 2) := by decide +kernel
theorem dX7_cut_67 : decode cX7_cut 67 = .ok (.idiv, 1) := by decide +kernel
theorem dX7_cut_68 : decode cX7_cut 68 = .ok (.iload_n 1, 1) := by decide +kernel
theorem dX7_cut_69 : decode cX7_cut 69 = .ok (.bipush 100, 2) := by decide +kernel
theorem dX7_cut_71 : decode cX7_cut 71 = .ok (.irem, 1) := by decide +kernel
theorem dX7_cut_72 : decode cX7_cut 72 = .ok (.invokevirtual 134, 3) := by decide +kernel
theorem dX7_cut_75 : decode cX7_cut 75 = .ok (.ireturn, 1) := by decide +kernel
set_option maxRecDepth 20000 in
theorem ggX7_goesBack_X7_sizeOf : GoodIn wsX7_goesBack wsX7_sizeOf := goodIn_r _ [6, 7, 75, 76, 77, 78, 79, 80, 81, 82, 83, 84, 85, 86, 87, 88, 89, 90, 91, 92, 93, 94, 95, 96, 97, 98] rfl (by decide +kernel)
set_option maxRecDepth 20000 in
theorem gX7_goesBack_X7_sizeOf : GoodIn wsX7_goesBack (wsV RX7 60 RX7 yX7_sizeOf wsX7_sizeOf) := goodIn_app (goodIn_r _ [2, 3, 4, 5] rfl (by decide +kernel)) ggX7_goesBack_X7_sizeOf
set_option maxRecDepth 20000 in
theorem ggX7_goesBack_X7_takeOver : GoodIn wsX7_goesBack wsX7_takeOver := goodIn_r _ [11, 12, 1, 13, 14, 15, 16, 5, 17, 7, 18, 19, 20, 21, 75, 76, 77, 78, 79, 80, 81, 82, 83, 84, 85, 86, 87, 88, 89, 90, 91, 92, 93, 94, 95, 96, 97, 98] rfl (by decide +kernel)
set_option maxRecDepth 20000 in
theorem gX7_goesBack_X7_takeOver : GoodIn wsX7_goesBack (wsV RX7 108 RX7 yX7_takeOver wsX7_takeOver) := goodIn_app (goodIn_r _ [8, 9, 10, 5] rfl (by decide +kernel)) ggX7_goesBack_X7_takeOver
set_option maxRecDepth 20000 in
theorem ggX7_goesBack_X7_done : GoodIn wsX7_goesBack wsX7_done := goodIn_r _ [25, 7, 1, 12, 13, 75, 76, 77, 78, 79, 80, 81, 82, 83, 84, 85, 86, 87, 88, 89, 90, 91, 92, 93, 94, 95, 96, 97, 98] rfl (by decide +kernel)
set_option maxRecDepth 20000 in
theorem gX7_goesBack_X7_done : GoodIn wsX7_goesBack (wsV RX7 112 RX7 yX7_done wsX7_done) := goodIn_app (goodIn_r _ [22, 23, 24, 5] rfl (by decide +kernel)) ggX7_goesBack_X7_done
set_option maxRecDepth 20000 in
theorem ggX7_goesBack_X7_seen : GoodIn wsX7_goesBack wsX7_seen := goodIn_r _ [29, 30, 31, 7, 1, 32, 33, 34, 5, 35, 36, 37, 38, 39, 40, 41, 42, 43, 44, 45, 46, 47, 2, 3, 4, 6, 14, 15, 16, 17, 48, 49, 50, 51, 52, 53, 54, 55, 56, 57, 58, 59, 60, 61, 62, 63, 64, 65, 66, 67, 68, 69, 70, 71, 72, 73, 74, 8, 9, 10, 11, 12, 13, 18, 19, 20, 21, 22, 23, 24, 25, 75, 76, 77, 78, 79, 80, 81, 82, 83, 84, 85, 86, 87, 88, 89, 90, 91, 92, 93, 94, 95, 96, 97, 98] rfl (by decide +kernel)
set_option maxRecDepth 20000 in
theorem gX7_goesBack_X7_seen : GoodIn wsX7_goesBack (wsV RX7 120 RX7 yX7_seen wsX7_seen) := goodIn_app (goodIn_r _ [26, 27, 28, 5] rfl (by decide +kernel)) ggX7_goesBack_X7_seen
theorem dX7_goesBack_0 : decode cX7_goesBack 0 = .ok (.aload_n 0, 1) := by decide +kernel
theorem dX7_goesBack_1 : decode cX7_goesBack 1 = .ok (.iconst 0, 1) := by decide +kernel
theorem dX7_goesBack_2 : decode cX7_goesBack 2 = .ok (.putfield 92, 3) := by decide +kernel
theorem dX7_goesBack_5 : decode cX7_goesBack 5 = .ok (.aload_n 0, 1) := by decide +kernel
theorem dX7_goesBack_6 : decode cX7_goesBack 6 = .ok (.iload_n 2, 1) := by decide +kernel
theorem dX7_goesBack_7 : decode cX7_goesBack 7 = .ok (.iconst 0, 1) := by decide +kernel
theorem dX7_goesBack_8 : decode cX7_goesBack 8 = .ok (.aload_n 0, 1) := by decide +kernel
theorem dX7_goesBack_9 : decode cX7_goesBack 9 = .ok (.iload_n 2, 1) := by decide +kernel
theorem dX7_goesBack_10 : decode cX7_goesBack 10 = .ok (.invokevirtual 60, 3) := by decide +kernel
theorem dX7_goesBack_13 : decode cX7_goesBack 13 = .ok (.invokevirtual 108, 3) := by decide +kernel
theorem dX7_goesBack_16 : decode cX7_goesBack 16 = .ok (.aload_n 0, 1) := by decide +kernel
theorem dX7_goesBack_17 : decode cX7_goesBack 17 = .ok (.aload_n 0, 1) := by decide +kernel
theorem dX7_goesBack_18 : decode cX7_goesBack 18 = .ok (.iconst 2, 1) := by decide +kernel
theorem dX7_goesBack_19 : decode cX7_goesBack 19 = .ok (.iload_n 1, 1) := by decide +kernel
theorem dX7_goesBack_20 : decode cX7_goesBack 20 = .ok (.iload_n 2, 1) := by decide +kernel
theorem dX7_goesBack_21 : decode cX7_goesBack 21 = .ok (.invokevirtual 112, 3) := by decide +kernel
theorem dX7_goesBack_24 : decode cX7_goesBack 24 = .ok (.invokevirtual 120, 3) := by decide +kernel
theorem dX7_goesBack_27 : decode cX7_goesBack 27 = .ok (.ireturn, 1) := by decide +kernel
set_option maxRecDepth 20000 in
theorem ggX7_back_X7_isWriter : GoodIn wsX7_back wsX7_isWriter := goodIn_r _ [4, 5, 6, 3, 7] rfl (by decide +kernel)
set_option maxRecDepth 20000 in
theorem gX7_back_X7_isWriter : GoodIn wsX7_back (va_wsS RX7 123 yX7_isWriter wsX7_isWriter) := goodIn_app (goodIn_r _ [1, 2, 3] rfl (by decide +kernel)) ggX7_back_X7_isWriter
set_option maxRecDepth 20000 in
theorem ggX7_back_X7_isVersion : GoodIn wsX7_back wsX7_isVersion := goodIn_r _ [11, 12, 5, 6, 3, 7, 99, 100, 101, 102, 103, 104, 105, 106, 107, 108, 109, 110, 111, 112, 113, 114, 115, 116, 117, 118, 119, 120, 121, 122] rfl (by decide +kernel)
set_option maxRecDepth 20000 in
theorem gX7_back_X7_isVersion : GoodIn wsX7_back (wsV RX7 137 RX7 yX7_isVersion wsX7_isVersion) := goodIn_app (goodIn_r _ [8, 9, 10, 3] rfl (by decide +kernel)) ggX7_back_X7_isVersion
set_option maxRecDepth 20000 in
theorem ggX7_back_X7_error : GoodIn wsX7_back wsX7_error := goodIn_r _ [16, 17, 18, 99, 100, 101, 102, 103, 104, 105, 106, 107, 108, 109, 110, 111, 112, 113, 114, 115, 116, 117, 118, 119, 120, 121, 122] rfl (by decide +kernel)
set_option maxRecDepth 20000 in
theorem gX7_back_X7_error : GoodIn wsX7_back (wsV RX7 64 RX7 yX7_error wsX7_error) := goodIn_app (goodIn_r _ [13, 14, 15, 3] rfl (by decide +kernel)) ggX7_back_X7_error
set_option maxRecDepth 20000 in
theorem ggX7_back_X7_mayAct : GoodIn wsX7_back wsX7_mayAct := goodIn_r _ [22, 12, 23, 24, 25, 26, 3, 27, 28, 29, 30, 31, 32, 33, 34, 35, 36, 37, 38, 39, 40, 41, 42, 43, 44, 45, 46, 47, 48, 49, 50, 51, 52, 53, 54, 55, 56, 57, 58, 99, 100, 101, 102, 103, 104, 105, 106, 107, 108, 109, 110, 111, 112, 113, 114, 115, 116, 117, 118, 119, 120, 121, 122] rfl (by decide +kernel)
set_option maxRecDepth 20000 in
theorem gX7_back_X7_mayAct : GoodIn wsX7_back (wsV RX7 105 RX7 yX7_mayAct wsX7_mayAct) := goodIn_app (goodIn_r _ [19, 20, 21, 3] rfl (by decide +kernel)) ggX7_back_X7_mayAct
set_option maxRecDepth 20000 in
theorem ggX7_back_X7_isFull : GoodIn wsX7_back wsX7_isFull := goodIn_r _ [62, 12, 99, 100, 101, 102, 103, 104, 105, 106, 107, 108, 109, 110, 111, 112, 113, 114, 115, 116, 117, 118, 119, 120, 121, 122] rfl (by decide +kernel)
set_option maxRecDepth 20000 in
theorem gX7_back_X7_isFull : GoodIn wsX7_back (wsV RX7 126 RX7 yX7_isFull wsX7_isFull) := goodIn_app (goodIn_r _ [59, 60, 61, 3] rfl (by decide +kernel)) ggX7_back_X7_isFull
set_option maxRecDepth 20000 in
theorem ggX7_back_X7_goesBack : GoodIn wsX7_back wsX7_goesBack := goodIn_r _ [66, 67, 43, 44, 45, 3, 46, 12, 68, 69, 70, 71, 72, 73, 74, 75, 76, 77, 78, 79, 80, 81, 82, 83, 84, 85, 86, 87, 88, 89, 90, 23, 32, 33, 34, 35, 24, 25, 26, 27, 91, 92, 93, 94, 95, 96, 97, 98, 51, 52, 53, 54, 55, 56, 57, 58, 19, 20, 21, 22, 28, 29, 30, 31, 36, 37, 38, 39, 40, 41, 42, 47, 48, 49, 50, 99, 100, 101, 102, 103, 104, 105, 106, 107, 108, 109, 110, 111, 112, 113, 114, 115, 116, 117, 118, 119, 120, 121, 122] rfl (by decide +kernel)
set_option maxRecDepth 20000 in
theorem gX7_back_X7_goesBack : GoodIn wsX7_back (wsV RX7 140 RX7 yX7_goesBack wsX7_goesBack) := goodIn_app (goodIn_r _ [63, 64, 65, 3] rfl (by decide +kernel)) ggX7_back_X7_goesBack
theorem dX7_back_0 : decode cX7_back 0 = .ok (.iload_n 1, 1) := by decide +kernel
theorem dX7_back_1 : decode cX7_back 1 = .ok (.invokestatic 123, 3) := by decide +kernel
theorem dX7_back_4 : decode cX7_back 4 = .ok (.ifCond .eq 11, 3) := by decide +kernel
theorem dX7_back_7 : decode cX7_back 7 = .ok (.aload_n 0, 1) := by decide +kernel
theorem dX7_back_8 : decode cX7_back 8 = .ok (.iload_n 2, 1) := by decide +kernel
theorem dX7_back_9 : decode cX7_back 9 = .ok (.invokevirtual 137, 3) := by decide +kernel
theorem dX7_back_12 : decode cX7_back 12 = .ok (.ifCond .ne 9, 3) := by decide +kernel
theorem dX7_back_15 : decode cX7_back 15 = .ok (.aload_n 0, 1) := by decide +kernel
theorem dX7_back_16 : decode cX7_back 16 = .ok (.iconst 1, 1) := by decide +kernel
theorem dX7_back_17 : decode cX7_back 17 = .ok (.invokevirtual 64, 3) := by decide +kernel
theorem dX7_back_20 : decode cX7_back 20 = .ok (.ireturn, 1) := by decide +kernel
theorem dX7_back_21 : decode cX7_back 21 = .ok (.aload_n 0, 1) := by decide +kernel
theorem dX7_back_22 : decode cX7_back 22 = .ok (.iload_n 1, 1) := by decide +kernel
theorem dX7_back_23 : decode cX7_back 23 = .ok (.invokevirtual 105, 3) := by decide +kernel
theorem dX7_back_26 : decode cX7_back 26 = .ok (.ifCond .ne 9, 3) := by decide +kernel
theorem dX7_back_29 : decode cX7_back 29 = .ok (.aload_n 0, 1) := by decide +kernel
theorem dX7_back_30 : decode cX7_back 30 = .ok (.iconst 3, 1) := by decide +kernel
theorem dX7_back_31 : decode cX7_back 31 = .ok (.invokevirtual 64, 3) := by decide +kernel
theorem dX7_back_34 : decode cX7_back 34 = .ok (.ireturn, 1) := by decide +kernel
theorem dX7_back_35 : decode cX7_back 35 = .ok (.aload_n 0, 1) := by decide +kernel
theorem dX7_back_36 : decode cX7_back 36 = .ok (.invokevirtual 126, 3) := by decide +kernel
theorem dX7_back_39 : decode cX7_back 39 = .ok (.ifCond .eq 11, 3) := by decide +kernel
theorem dX7_back_42 : decode cX7_back 42 = .ok (.aload_n 0, 1) := by decide +kernel
theorem dX7_back_43 : decode cX7_back 43 = .ok (.iconst 4, 1) := by decide +kernel
theorem dX7_back_44 : decode cX7_back 44 = .ok (.invokevirtual 64, 3) := by decide +kernel
theorem dX7_back_47 : decode cX7_back 47 = .ok (.goto 9, 3) := by decide +kernel
theorem dX7_back_50 : decode cX7_back 50 = .ok (.aload_n 0, 1) := by decide +kernel
theorem dX7_back_51 : decode cX7_back 51 = .ok (.iload_n 1, 1) := by decide +kernel
theorem dX7_back_52 : decode cX7_back 52 = .ok (.iload_n 2, 1) := by decide +kernel
theorem dX7_back_53 : decode cX7_back 53 = .ok (.invokevirtual 140, 3) := by decide +kernel
theorem dX7_back_56 : decode cX7_back 56 = .ok (.ireturn, 1) := by decide +kernel
set_option maxRecDepth 20000 in
theorem ggX7_half_X7_isWriter : GoodIn wsX7_half wsX7_isWriter := goodIn_r _ [6, 7, 8, 5, 9] rfl (by decide +kernel)
set_option maxRecDepth 20000 in
theorem gX7_half_X7_isWriter : GoodIn wsX7_half (va_wsS RX7 123 yX7_isWriter wsX7_isWriter) := goodIn_app (goodIn_r _ [3, 4, 5] rfl (by decide +kernel)) ggX7_half_X7_isWriter
set_option maxRecDepth 20000 in
theorem ggX7_half_X7_isVersion : GoodIn wsX7_half wsX7_isVersion := goodIn_r _ [13, 2, 7, 8, 5, 9, 95, 96, 97, 98, 99, 100, 101, 102, 103, 104, 105, 106, 107, 108, 109, 110, 111, 112, 113, 114, 115, 116, 117, 118] rfl (by decide +kernel)
set_option maxRecDepth 20000 in
theorem gX7_half_X7_isVersion : GoodIn wsX7_half (wsV RX7 137 RX7 yX7_isVersion wsX7_isVersion) := goodIn_app (goodIn_r _ [10, 11, 12, 5] rfl (by decide +kernel)) ggX7_half_X7_isVersion
set_option maxRecDepth 20000 in
theorem ggX7_half_X7_in : GoodIn wsX7_half wsX7_in := goodIn_r _ [9] rfl (by decide +kernel)
set_option maxRecDepth 20000 in
theorem gX7_half_X7_in : GoodIn wsX7_half (va_wsS RX7 56 yX7_in wsX7_in) := goodIn_app (goodIn_r _ [7, 8, 5] rfl (by decide +kernel)) ggX7_half_X7_in
set_option maxRecDepth 20000 in
theorem ggX7_half_X7_error : GoodIn wsX7_half wsX7_error := goodIn_r _ [17, 18, 19, 95, 96, 97, 98, 99, 100, 101, 102, 103, 104, 105, 106, 107, 108, 109, 110, 111, 112, 113, 114, 115, 116, 117, 118] rfl (by decide +kernel)
set_option maxRecDepth 20000 in
theorem gX7_half_X7_error : GoodIn wsX7_half (wsV RX7 64 RX7 yX7_error wsX7_error) := goodIn_app (goodIn_r _ [14, 15, 16, 5] rfl (by decide +kernel)) ggX7_half_X7_error
set_option maxRecDepth 20000 in
theorem ggX7_half_X7_mayAct : GoodIn wsX7_half wsX7_mayAct := goodIn_r _ [23, 2, 24, 25, 26, 27, 5, 28, 29, 30, 31, 32, 33, 34, 35, 36, 37, 38, 39, 40, 41, 42, 43, 44, 45, 46, 47, 48, 49, 50, 51, 52, 53, 54, 55, 56, 57, 58, 59, 95, 96, 97, 98, 99, 100, 101, 102, 103, 104, 105, 106, 107, 108, 109, 110, 111, 112, 113, 114, 115, 116, 117, 118] rfl (by decide +kernel)
set_option maxRecDepth 20000 in
theorem gX7_half_X7_mayAct : GoodIn wsX7_half (wsV RX7 105 RX7 yX7_mayAct wsX7_mayAct) := goodIn_app (goodIn_r _ [20, 21, 22, 5] rfl (by decide +kernel)) ggX7_half_X7_mayAct
set_option maxRecDepth 20000 in
theorem ggX7_half_X7_sizeOf : GoodIn wsX7_half wsX7_sizeOf := goodIn_r _ [47, 2, 95, 96, 97, 98, 99, 100, 101, 102, 103, 104, 105, 106, 107, 108, 109, 110, 111, 112, 113, 114, 115, 116, 117, 118] rfl (by decide +kernel)
set_option maxRecDepth 20000 in
theorem gX7_half_X7_sizeOf : GoodIn wsX7_half (wsV RX7 60 RX7 yX7_sizeOf wsX7_sizeOf) := goodIn_app (goodIn_r _ [44, 45, 46, 5] rfl (by decide +kernel)) ggX7_half_X7_sizeOf
set_option maxRecDepth 20000 in
theorem ggX7_half_X7_takeOver : GoodIn wsX7_half wsX7_takeOver := goodIn_r _ [63, 64, 1, 65, 66, 67, 68, 5, 69, 2, 70, 71, 72, 73, 95, 96, 97, 98, 99, 100, 101, 102, 103, 104, 105, 106, 107, 108, 109, 110, 111, 112, 113, 114, 115, 116, 117, 118] rfl (by decide +kernel)
set_option maxRecDepth 20000 in
theorem gX7_half_X7_takeOver : GoodIn wsX7_half (wsV RX7 108 RX7 yX7_takeOver wsX7_takeOver) := goodIn_app (goodIn_r _ [60, 61, 62, 5] rfl (by decide +kernel)) ggX7_half_X7_takeOver
set_option maxRecDepth 20000 in
theorem ggX7_half_X7_page : GoodIn wsX7_half wsX7_page := goodIn_r _ [43, 2, 44, 45, 46, 5, 47, 95, 96, 97, 98, 99, 100, 101, 102, 103, 104, 105, 106, 107, 108, 109, 110, 111, 112, 113, 114, 115, 116, 117, 118] rfl (by decide +kernel)
set_option maxRecDepth 20000 in
theorem gX7_half_X7_page : GoodIn wsX7_half (wsV RX7 82 RX7 yX7_page wsX7_page) := goodIn_app (goodIn_r _ [40, 41, 42, 5] rfl (by decide +kernel)) ggX7_half_X7_page
set_option maxRecDepth 20000 in
theorem ggX7_half_X7_isFull : GoodIn wsX7_half wsX7_isFull := goodIn_r _ [77, 2, 95, 96, 97, 98, 99, 100, 101, 102, 103, 104, 105, 106, 107, 108, 109, 110, 111, 112, 113, 114, 115, 116, 117, 118] rfl (by decide +kernel)
set_option maxRecDepth 20000 in
theorem gX7_half_X7_isFull : GoodIn wsX7_half (wsV RX7 126 RX7 yX7_isFull wsX7_isFull) := goodIn_app (goodIn_r _ [74, 75, 76, 5] rfl (by decide +kernel)) ggX7_half_X7_isFull
set_option maxRecDepth 20000 in
theorem ggX7_half_X7_done : GoodIn wsX7_half wsX7_done := goodIn_r _ [81, 2, 1, 64, 65, 95, 96, 97, 98, 99, 100, 101, 102, 103, 104, 105, 106, 107, 108, 109, 110, 111, 112, 113, 114, 115, 116, 117, 118] rfl (by decide +kernel)
set_option maxRecDepth 20000 in
theorem gX7_half_X7_done : GoodIn wsX7_half (wsV RX7 112 RX7 yX7_done wsX7_done) := goodIn_app (goodIn_r _ [78, 79, 80, 5] rfl (by decide +kernel)) ggX7_half_X7_done
set_option maxRecDepth 20000 in
theorem ggX7_half_X7_seen : GoodIn wsX7_half wsX7_seen := goodIn_r _ [85, 86, 24, 2, 1, 33, 34, 35, 5, 36, 25, 26, 27, 28, 87, 88, 89, 90, 91, 92, 93, 94, 44, 45, 46, 47, 66, 67, 68, 69, 52, 53, 54, 55, 56, 57, 58, 59, 20, 21, 22, 23, 29, 30, 31, 32, 37, 38, 39, 40, 41, 42, 43, 48, 49, 50, 51, 60, 61, 62, 63, 64, 65, 70, 71, 72, 73, 78, 79, 80, 81, 95, 96, 97, 98, 99, 100, 101, 102, 103, 104, 105, 106, 107, 108, 109, 110, 111, 112, 113, 114, 115, 116, 117, 118] rfl (by decide +kernel)
set_option maxRecDepth 20000 in
theorem gX7_half_X7_seen : GoodIn wsX7_half (wsV RX7 120 RX7 yX7_seen wsX7_seen) := goodIn_app (goodIn_r _ [82, 83, 84, 5] rfl (by decide +kernel)) ggX7_half_X7_seen
theorem dX7_half_0 : decode cX7_half 0 = .ok (.iload_n 1, 1) := by decide +kernel
theorem dX7_half_1 : decode cX7_half 1 = .ok (.invokestatic 123, 3) := by decide +kernel
theorem dX7_half_4 : decode cX7_half 4 = .ok (.ifCond .eq 21, 3) := by decide +kernel
theorem dX7_half_7 : decode cX7_half 7 = .ok (.aload_n 0, 1) := by decide +kernel
theorem dX7_half_8 : decode cX7_half 8 = .ok (.iload_n 2, 1) := by decide +kernel
theorem dX7_half_9 : decode cX7_half 9 = .ok (.invokevirtual 137, 3) := by decide +kernel
theorem dX7_half_12 : decode cX7_half 12 = .ok (.ifCond .eq 13, 3) := by decide +kernel
theorem dX7_half_15 : decode cX7_half 15 = .ok (.iload_n 3, 1) := by decide +kernel
theorem dX7_half_16 : decode cX7_half 16 = .ok (.iconst 0, 1) := by decide +kernel
theorem dX7_half_17 : decode cX7_half 17 = .ok (.bipush 20, 2) := by decide +kernel
theorem dX7_half_19 : decode cX7_half 19 = .ok (.invokestatic 56, 3) := by decide +kernel
theorem dX7_half_22 : decode cX7_half 22 = .ok (.ifCond .ne 9, 3) := by decide +kernel
theorem dX7_half_25 : decode cX7_half 25 = .ok (.aload_n 0, 1) := by decide +kernel
theorem dX7_half_26 : decode cX7_half 26 = .ok (.iconst 1, 1) := by decide +kernel
theorem dX7_half_27 : decode cX7_half 27 = .ok (.invokevirtual 64, 3) := by decide +kernel
theorem dX7_half_30 : decode cX7_half 30 = .ok (.ireturn, 1) := by decide +kernel
theorem dX7_half_31 : decode cX7_half 31 = .ok (.aload_n 0, 1) := by decide +kernel
theorem dX7_half_32 : decode cX7_half 32 = .ok (.iload_n 1, 1) := by decide +kernel
theorem dX7_half_33 : decode cX7_half 33 = .ok (.invokevirtual 105, 3) := by decide +kernel
theorem dX7_half_36 : decode cX7_half 36 = .ok (.ifCond .ne 9, 3) := by decide +kernel
theorem dX7_half_39 : decode cX7_half 39 = .ok (.aload_n 0, 1) := by decide +kernel
theorem dX7_half_40 : decode cX7_half 40 = .ok (.iconst 3, 1) := by decide +kernel
theorem dX7_half_41 : decode cX7_half 41 = .ok (.invokevirtual 64, 3) := by decide +kernel
theorem dX7_half_44 : decode cX7_half 44 = .ok (.ireturn, 1) := by decide +kernel
theorem dX7_half_45 : decode cX7_half 45 = .ok (.aload_n 0, 1) := by decide +kernel
theorem dX7_half_46 : decode cX7_half 46 = .ok (.iconst 0, 1) := by decide +kernel
theorem dX7_half_47 : decode cX7_half 47 = .ok (.putfield 92, 3) := by decide +kernel
theorem dX7_half_50 : decode cX7_half 50 = .ok (.aload_n 0, 1) := by decide +kernel
theorem dX7_half_51 : decode cX7_half 51 = .ok (.iload_n 2, 1) := by decide +kernel
theorem dX7_half_52 : decode cX7_half 52 = .ok (.iconst 0, 1) := by decide +kernel
theorem dX7_half_53 : decode cX7_half 53 = .ok (.iload_n 3, 1) := by decide +kernel
theorem dX7_half_54 : decode cX7_half 54 = .ok (.aload_n 0, 1) := by decide +kernel
theorem dX7_half_55 : decode cX7_half 55 = .ok (.iload_n 2, 1) := by decide +kernel
theorem dX7_half_56 : decode cX7_half 56 = .ok (.invokevirtual 60, 3) := by decide +kernel
theorem dX7_half_59 : decode cX7_half 59 = .ok (.if_icmp .ge 7, 3) := by decide +kernel
theorem dX7_half_62 : decode cX7_half 62 = .ok (.iload_n 3, 1) := by decide +kernel
theorem dX7_half_63 : decode cX7_half 63 = .ok (.goto 8, 3) := by decide +kernel
theorem dX7_half_66 : decode cX7_half 66 = .ok (.aload_n 0, 1) := by decide +kernel
theorem dX7_half_67 : decode cX7_half 67 = .ok (.iload_n 2, 1) := by decide +kernel
theorem dX7_half_68 : decode cX7_half 68 = .ok (.invokevirtual 60, 3) := by decide +kernel
theorem dX7_half_71 : decode cX7_half 71 = .ok (.invokevirtual 108, 3) := by decide +kernel
theorem dX7_half_74 : decode cX7_half 74 = .ok (.aload_n 0, 1) := by decide +kernel
theorem dX7_half_75 : decode cX7_half 75 = .ok (.aload_n 0, 1) := by decide +kernel
theorem dX7_half_76 : decode cX7_half 76 = .ok (.getfield 7, 3) := by decide +kernel
theorem dX7_half_79 : decode cX7_half 79 = .ok (.iconst 1, 1) := by decide +kernel
theorem dX7_half_80 : decode cX7_half 80 = .ok (.iaload, 1) := by decide +kernel
theorem dX7_half_81 : decode cX7_half 81 = .ok (.iload_n 3, 1) := by decide +kernel
theorem dX7_half_82 : decode cX7_half 82 = .ok (.aload_n 0, 1) := by decide +kernel
theorem dX7_half_83 : decode cX7_half 83 = .ok (.invokevirtual 82, 3) := by decide +kernel
theorem dX7_half_86 : decode cX7_half 86 = .ok (.invokevirtual 108, 3) := by decide +kernel
theorem dX7_half_89 : decode cX7_half 89 = .ok (.aload_n 0, 1) := by decide +kernel
theorem dX7_half_90 : decode cX7_half 90 = .ok (.invokevirtual 126, 3) := by decide +kernel
theorem dX7_half_93 : decode cX7_half 93 = .ok (.ifCond .ne 12, 3) := by decide +kernel
theorem dX7_half_96 : decode cX7_half 96 = .ok (.aload_n 0, 1) := by decide +kernel
theorem dX7_half_97 : decode cX7_half 97 = .ok (.getfield 92, 3) := by decide +kernel
theorem dX7_half_100 : decode cX7_half 100 = .ok (.bipush 20, 2) := by decide +kernel
theorem dX7_half_102 : decode cX7_half 102 = .ok (.if_icmp .le 9, 3) := by decide +kernel
theorem dX7_half_105 : decode cX7_half 105 = .ok (.aload_n 0, 1) := by decide +kernel
theorem dX7_half_106 : decode cX7_half 106 = .ok (.iconst 4, 1) := by decide +kernel
theorem dX7_half_107 : decode cX7_half 107 = .ok (.invokevirtual 64, 3) := by decide +kernel
theorem dX7_half_110 : decode cX7_half 110 = .ok (.ireturn, 1) := by decide +kernel
theorem dX7_half_111 : decode cX7_half 111 = .ok (.aload_n 0, 1) := by decide +kernel
theorem dX7_half_112 : decode cX7_half 112 = .ok (.aload_n 0, 1) := by decide +kernel
theorem dX7_half_113 : decode cX7_half 113 = .ok (.iconst 3, 1) := by decide +kernel
theorem dX7_half_114 : decode cX7_half 114 = .ok (.iload_n 1, 1) := by decide +kernel
theorem dX7_half_115 : decode cX7_half 115 = .ok (.iload_n 2, 1) := by decide +kernel
theorem dX7_half_116 : decode cX7_half 116 = .ok (.invokevirtual 112, 3) := by decide +kernel
theorem dX7_half_119 : decode cX7_half 119 = .ok (.invokevirtual 120, 3) := by decide +kernel
theorem dX7_half_122 : decode cX7_half 122 = .ok (.ireturn, 1) := by decide +kernel
set_option maxRecDepth 20000 in
theorem ggX7_staysSo_X7_page : GoodIn wsX7_staysSo wsX7_page := goodIn_r _ [7, 2, 8, 9, 10, 6, 11, 26, 27, 28, 29, 30, 31, 32, 33, 34, 35, 36, 37, 38, 39, 40, 41, 42, 43, 44, 45, 46, 47, 48, 49] rfl (by decide +kernel)
set_option maxRecDepth 20000 in
theorem gX7_staysSo_X7_page : GoodIn wsX7_staysSo (wsV RX7 82 RX7 yX7_page wsX7_page) := goodIn_app (goodIn_r _ [3, 4, 5, 6] rfl (by decide +kernel)) ggX7_staysSo_X7_page
set_option maxRecDepth 20000 in
theorem ggX7_staysSo_X7_takeOver : GoodIn wsX7_staysSo wsX7_takeOver := goodIn_r _ [15, 16, 1, 17, 18, 19, 20, 6, 21, 2, 22, 23, 24, 25, 26, 27, 28, 29, 30, 31, 32, 33, 34, 35, 36, 37, 38, 39, 40, 41, 42, 43, 44, 45, 46, 47, 48, 49] rfl (by decide +kernel)
set_option maxRecDepth 20000 in
theorem gX7_staysSo_X7_takeOver : GoodIn wsX7_staysSo (wsV RX7 108 RX7 yX7_takeOver wsX7_takeOver) := goodIn_app (goodIn_r _ [12, 13, 14, 6] rfl (by decide +kernel)) ggX7_staysSo_X7_takeOver
theorem dX7_staysSo_0 : decode cX7_staysSo 0 = .ok (.aload_n 0, 1) := by decide +kernel
theorem dX7_staysSo_1 : decode cX7_staysSo 1 = .ok (.iconst 0, 1) := by decide +kernel
theorem dX7_staysSo_2 : decode cX7_staysSo 2 = .ok (.putfield 92, 3) := by decide +kernel
theorem dX7_staysSo_5 : decode cX7_staysSo 5 = .ok (.aload_n 0, 1) := by decide +kernel
theorem dX7_staysSo_6 : decode cX7_staysSo 6 = .ok (.aload_n 0, 1) := by decide +kernel
theorem dX7_staysSo_7 : decode cX7_staysSo 7 = .ok (.getfield 7, 3) := by decide +kernel
theorem dX7_staysSo_10 : decode cX7_staysSo 10 = .ok (.iconst 1, 1) := by decide +kernel
theorem dX7_staysSo_11 : decode cX7_staysSo 11 = .ok (.iaload, 1) := by decide +kernel
theorem dX7_staysSo_12 : decode cX7_staysSo 12 = .ok (.iconst 0, 1) := by decide +kernel
theorem dX7_staysSo_13 : decode cX7_staysSo 13 = .ok (.aload_n 0, 1) := by decide +kernel
theorem dX7_staysSo_14 : decode cX7_staysSo 14 = .ok (.invokevirtual 82, 3) := by decide +kernel
theorem dX7_staysSo_17 : decode cX7_staysSo 17 = .ok (.invokevirtual 108, 3) := by decide +kernel
theorem dX7_staysSo_20 : decode cX7_staysSo 20 = .ok (.return_, 1) := by decide +kernel
set_option maxRecDepth 20000 in
theorem ggX7_shut_X7_isWriter : GoodIn wsX7_shut wsX7_isWriter := goodIn_r _ [5, 6, 7, 4, 8] rfl (by decide +kernel)
set_option maxRecDepth 20000 in
theorem gX7_shut_X7_isWriter : GoodIn wsX7_shut (va_wsS RX7 123 yX7_isWriter wsX7_isWriter) := goodIn_app (goodIn_r _ [2, 3, 4] rfl (by decide +kernel)) ggX7_shut_X7_isWriter
set_option maxRecDepth 20000 in
theorem ggX7_shut_X7_in : GoodIn wsX7_shut wsX7_in := goodIn_r _ [8] rfl (by decide +kernel)
set_option maxRecDepth 20000 in
theorem gX7_shut_X7_in : GoodIn wsX7_shut (va_wsS RX7 56 yX7_in wsX7_in) := goodIn_app (goodIn_r _ [6, 7, 4] rfl (by decide +kernel)) ggX7_shut_X7_in
set_option maxRecDepth 20000 in
theorem ggX7_shut_X7_error : GoodIn wsX7_shut wsX7_error := goodIn_r _ [12, 13, 14, 95, 96, 97, 98, 99, 100, 101, 102, 103, 104, 105, 106, 107, 108, 109, 110, 111, 112, 113, 114, 115, 116, 117, 118] rfl (by decide +kernel)
set_option maxRecDepth 20000 in
theorem gX7_shut_X7_error : GoodIn wsX7_shut (wsV RX7 64 RX7 yX7_error wsX7_error) := goodIn_app (goodIn_r _ [9, 10, 11, 4] rfl (by decide +kernel)) ggX7_shut_X7_error
set_option maxRecDepth 20000 in
theorem ggX7_shut_X7_mayAct : GoodIn wsX7_shut wsX7_mayAct := goodIn_r _ [18, 1, 19, 20, 21, 22, 4, 23, 24, 25, 26, 27, 28, 29, 30, 31, 32, 33, 34, 35, 36, 37, 38, 39, 40, 41, 42, 43, 44, 45, 46, 47, 48, 49, 50, 51, 52, 53, 54, 95, 96, 97, 98, 99, 100, 101, 102, 103, 104, 105, 106, 107, 108, 109, 110, 111, 112, 113, 114, 115, 116, 117, 118] rfl (by decide +kernel)
set_option maxRecDepth 20000 in
theorem gX7_shut_X7_mayAct : GoodIn wsX7_shut (wsV RX7 105 RX7 yX7_mayAct wsX7_mayAct) := goodIn_app (goodIn_r _ [15, 16, 17, 4] rfl (by decide +kernel)) ggX7_shut_X7_mayAct
set_option maxRecDepth 20000 in
theorem ggX7_shut_X7_isFull : GoodIn wsX7_shut wsX7_isFull := goodIn_r _ [58, 1, 95, 96, 97, 98, 99, 100, 101, 102, 103, 104, 105, 106, 107, 108, 109, 110, 111, 112, 113, 114, 115, 116, 117, 118] rfl (by decide +kernel)
set_option maxRecDepth 20000 in
theorem gX7_shut_X7_isFull : GoodIn wsX7_shut (wsV RX7 126 RX7 yX7_isFull wsX7_isFull) := goodIn_app (goodIn_r _ [55, 56, 57, 4] rfl (by decide +kernel)) ggX7_shut_X7_isFull
set_option maxRecDepth 20000 in
theorem ggX7_shut_X7_staysSo : GoodIn wsX7_shut wsX7_staysSo := goodIn_r _ [62, 63, 1, 35, 36, 37, 4, 38, 39, 40, 41, 42, 64, 65, 66, 67, 68, 69, 70, 71, 72, 73, 74, 75, 76, 77, 95, 96, 97, 98, 99, 100, 101, 102, 103, 104, 105, 106, 107, 108, 109, 110, 111, 112, 113, 114, 115, 116, 117, 118] rfl (by decide +kernel)
set_option maxRecDepth 20000 in
theorem gX7_shut_X7_staysSo : GoodIn wsX7_shut (wsV RX7 143 RX7 yX7_staysSo wsX7_staysSo) := goodIn_app (goodIn_r _ [59, 60, 61, 4] rfl (by decide +kernel)) ggX7_shut_X7_staysSo
set_option maxRecDepth 20000 in
theorem ggX7_shut_X7_done : GoodIn wsX7_shut wsX7_done := goodIn_r _ [81, 1, 63, 68, 69, 95, 96, 97, 98, 99, 100, 101, 102, 103, 104, 105, 106, 107, 108, 109, 110, 111, 112, 113, 114, 115, 116, 117, 118] rfl (by decide +kernel)
set_option maxRecDepth 20000 in
theorem gX7_shut_X7_done : GoodIn wsX7_shut (wsV RX7 112 RX7 yX7_done wsX7_done) := goodIn_app (goodIn_r _ [78, 79, 80, 4] rfl (by decide +kernel)) ggX7_shut_X7_done
set_option maxRecDepth 20000 in
theorem ggX7_shut_X7_seen : GoodIn wsX7_shut wsX7_seen := goodIn_r _ [85, 86, 19, 1, 63, 28, 29, 30, 4, 31, 20, 21, 22, 23, 87, 88, 89, 90, 91, 92, 93, 94, 39, 40, 41, 42, 70, 71, 72, 73, 47, 48, 49, 50, 51, 52, 53, 54, 15, 16, 17, 18, 24, 25, 26, 27, 32, 33, 34, 35, 36, 37, 38, 43, 44, 45, 46, 64, 65, 66, 67, 68, 69, 74, 75, 76, 77, 78, 79, 80, 81, 95, 96, 97, 98, 99, 100, 101, 102, 103, 104, 105, 106, 107, 108, 109, 110, 111, 112, 113, 114, 115, 116, 117, 118] rfl (by decide +kernel)
set_option maxRecDepth 20000 in
theorem gX7_shut_X7_seen : GoodIn wsX7_shut (wsV RX7 120 RX7 yX7_seen wsX7_seen) := goodIn_app (goodIn_r _ [82, 83, 84, 4] rfl (by decide +kernel)) ggX7_shut_X7_seen
theorem dX7_shut_0 : decode cX7_shut 0 = .ok (.iload_n 1, 1) := by decide +kernel
theorem dX7_shut_1 : decode cX7_shut 1 = .ok (.invokestatic 123, 3) := by decide +kernel
theorem dX7_shut_4 : decode cX7_shut 4 = .ok (.ifCond .eq 14, 3) := by decide +kernel
theorem dX7_shut_7 : decode cX7_shut 7 = .ok (.iload_n 2, 1) := by decide +kernel
theorem dX7_shut_8 : decode cX7_shut 8 = .ok (.iconst 1, 1) := by decide +kernel
theorem dX7_shut_9 : decode cX7_shut 9 = .ok (.sipush 9999, 3) := by decide +kernel
theorem dX7_shut_12 : decode cX7_shut 12 = .ok (.invokestatic 56, 3) := by decide +kernel
theorem dX7_shut_15 : decode cX7_shut 15 = .ok (.ifCond .ne 9, 3) := by decide +kernel
theorem dX7_shut_18 : decode cX7_shut 18 = .ok (.aload_n 0, 1) := by decide +kernel
theorem dX7_shut_19 : decode cX7_shut 19 = .ok (.iconst 1, 1) := by decide +kernel
theorem dX7_shut_20 : decode cX7_shut 20 = .ok (.invokevirtual 64, 3) := by decide +kernel
theorem dX7_shut_23 : decode cX7_shut 23 = .ok (.ireturn, 1) := by decide +kernel
theorem dX7_shut_24 : decode cX7_shut 24 = .ok (.aload_n 0, 1) := by decide +kernel
theorem dX7_shut_25 : decode cX7_shut 25 = .ok (.iload_n 1, 1) := by decide +kernel
theorem dX7_shut_26 : decode cX7_shut 26 = .ok (.invokevirtual 105, 3) := by decide +kernel
theorem dX7_shut_29 : decode cX7_shut 29 = .ok (.ifCond .ne 9, 3) := by decide +kernel
theorem dX7_shut_32 : decode cX7_shut 32 = .ok (.aload_n 0, 1) := by decide +kernel
theorem dX7_shut_33 : decode cX7_shut 33 = .ok (.iconst 3, 1) := by decide +kernel
theorem dX7_shut_34 : decode cX7_shut 34 = .ok (.invokevirtual 64, 3) := by decide +kernel
theorem dX7_shut_37 : decode cX7_shut 37 = .ok (.ireturn, 1) := by decide +kernel
theorem dX7_shut_38 : decode cX7_shut 38 = .ok (.aload_n 0, 1) := by decide +kernel
theorem dX7_shut_39 : decode cX7_shut 39 = .ok (.invokevirtual 126, 3) := by decide +kernel
theorem dX7_shut_42 : decode cX7_shut 42 = .ok (.ifCond .eq 9, 3) := by decide +kernel
theorem dX7_shut_45 : decode cX7_shut 45 = .ok (.aload_n 0, 1) := by decide +kernel
theorem dX7_shut_46 : decode cX7_shut 46 = .ok (.iconst 4, 1) := by decide +kernel
theorem dX7_shut_47 : decode cX7_shut 47 = .ok (.invokevirtual 64, 3) := by decide +kernel
theorem dX7_shut_50 : decode cX7_shut 50 = .ok (.ireturn, 1) := by decide +kernel
theorem dX7_shut_51 : decode cX7_shut 51 = .ok (.aload_n 0, 1) := by decide +kernel
theorem dX7_shut_52 : decode cX7_shut 52 = .ok (.invokevirtual 143, 3) := by decide +kernel
theorem dX7_shut_55 : decode cX7_shut 55 = .ok (.aload_n 0, 1) := by decide +kernel
theorem dX7_shut_56 : decode cX7_shut 56 = .ok (.getfield 7, 3) := by decide +kernel
theorem dX7_shut_59 : decode cX7_shut 59 = .ok (.iconst 2, 1) := by decide +kernel
theorem dX7_shut_60 : decode cX7_shut 60 = .ok (.aload_n 0, 1) := by decide +kernel
theorem dX7_shut_61 : decode cX7_shut 61 = .ok (.getfield 7, 3) := by decide +kernel
theorem dX7_shut_64 : decode cX7_shut 64 = .ok (.iconst 0, 1) := by decide +kernel
theorem dX7_shut_65 : decode cX7_shut 65 = .ok (.iaload, 1) := by decide +kernel
theorem dX7_shut_66 : decode cX7_shut 66 = .ok (.iload_n 2, 1) := by decide +kernel
theorem dX7_shut_67 : decode cX7_shut 67 = .ok (.iadd, 1) := by decide +kernel
theorem dX7_shut_68 : decode cX7_shut 68 = .ok (.iastore, 1) := by decide +kernel
theorem dX7_shut_69 : decode cX7_shut 69 = .ok (.aload_n 0, 1) := by decide +kernel
theorem dX7_shut_70 : decode cX7_shut 70 = .ok (.getfield 7, 3) := by decide +kernel
theorem dX7_shut_73 : decode cX7_shut 73 = .ok (.iconst 3, 1) := by decide +kernel
theorem dX7_shut_74 : decode cX7_shut 74 = .ok (.iload_n 1, 1) := by decide +kernel
theorem dX7_shut_75 : decode cX7_shut 75 = .ok (.iastore, 1) := by decide +kernel
theorem dX7_shut_76 : decode cX7_shut 76 = .ok (.aload_n 0, 1) := by decide +kernel
theorem dX7_shut_77 : decode cX7_shut 77 = .ok (.aload_n 0, 1) := by decide +kernel
theorem dX7_shut_78 : decode cX7_shut 78 = .ok (.bipush 6, 2) := by decide +kernel
theorem dX7_shut_80 : decode cX7_shut 80 = .ok (.iload_n 1, 1) := by decide +kernel
theorem dX7_shut_81 : decode cX7_shut 81 = .ok (.aload_n 0, 1) := by decide +kernel
theorem dX7_shut_82 : decode cX7_shut 82 = .ok (.getfield 7, 3) := by decide +kernel
theorem dX7_shut_85 : decode cX7_shut 85 = .ok (.iconst 2, 1) := by decide +kernel
theorem dX7_shut_86 : decode cX7_shut 86 = .ok (.iaload, 1) := by decide +kernel
theorem dX7_shut_87 : decode cX7_shut 87 = .ok (.invokevirtual 112, 3) := by decide +kernel
theorem dX7_shut_90 : decode cX7_shut 90 = .ok (.invokevirtual 120, 3) := by decide +kernel
theorem dX7_shut_93 : decode cX7_shut 93 = .ok (.ireturn, 1) := by decide +kernel
set_option maxRecDepth 20000 in
theorem ggX7_talk_X7_isWriter : GoodIn wsX7_talk wsX7_isWriter := goodIn_r _ [4, 5, 6, 3, 7] rfl (by decide +kernel)
set_option maxRecDepth 20000 in
theorem gX7_talk_X7_isWriter : GoodIn wsX7_talk (va_wsS RX7 123 yX7_isWriter wsX7_isWriter) := goodIn_app (goodIn_r _ [1, 2, 3] rfl (by decide +kernel)) ggX7_talk_X7_isWriter
set_option maxRecDepth 20000 in
theorem ggX7_talk_X7_in : GoodIn wsX7_talk wsX7_in := goodIn_r _ [7] rfl (by decide +kernel)
set_option maxRecDepth 20000 in
theorem gX7_talk_X7_in : GoodIn wsX7_talk (va_wsS RX7 56 yX7_in wsX7_in) := goodIn_app (goodIn_r _ [5, 6, 3] rfl (by decide +kernel)) ggX7_talk_X7_in
set_option maxRecDepth 20000 in
theorem ggX7_talk_X7_error : GoodIn wsX7_talk wsX7_error := goodIn_r _ [11, 12, 13, 95, 96, 97, 98, 99, 100, 101, 102, 103, 104, 105, 106, 107, 108, 109, 110, 111, 112, 113, 114, 115, 116, 117, 118] rfl (by decide +kernel)
set_option maxRecDepth 20000 in
theorem gX7_talk_X7_error : GoodIn wsX7_talk (wsV RX7 64 RX7 yX7_error wsX7_error) := goodIn_app (goodIn_r _ [8, 9, 10, 3] rfl (by decide +kernel)) ggX7_talk_X7_error
set_option maxRecDepth 20000 in
theorem ggX7_talk_X7_mayAct : GoodIn wsX7_talk wsX7_mayAct := goodIn_r _ [17, 18, 19, 20, 21, 22, 3, 23, 24, 25, 26, 27, 28, 29, 30, 31, 32, 33, 34, 35, 36, 37, 38, 39, 40, 41, 42, 43, 44, 45, 46, 47, 48, 49, 50, 51, 52, 53, 54, 95, 96, 97, 98, 99, 100, 101, 102, 103, 104, 105, 106, 107, 108, 109, 110, 111, 112, 113, 114, 115, 116, 117, 118] rfl (by decide +kernel)
set_option maxRecDepth 20000 in
theorem gX7_talk_X7_mayAct : GoodIn wsX7_talk (wsV RX7 105 RX7 yX7_mayAct wsX7_mayAct) := goodIn_app (goodIn_r _ [14, 15, 16, 3] rfl (by decide +kernel)) ggX7_talk_X7_mayAct
set_option maxRecDepth 20000 in
theorem ggX7_talk_X7_isFull : GoodIn wsX7_talk wsX7_isFull := goodIn_r _ [58, 18, 95, 96, 97, 98, 99, 100, 101, 102, 103, 104, 105, 106, 107, 108, 109, 110, 111, 112, 113, 114, 115, 116, 117, 118] rfl (by decide +kernel)
set_option maxRecDepth 20000 in
theorem gX7_talk_X7_isFull : GoodIn wsX7_talk (wsV RX7 126 RX7 yX7_isFull wsX7_isFull) := goodIn_app (goodIn_r _ [55, 56, 57, 3] rfl (by decide +kernel)) ggX7_talk_X7_isFull
set_option maxRecDepth 20000 in
theorem ggX7_talk_X7_staysSo : GoodIn wsX7_talk wsX7_staysSo := goodIn_r _ [62, 63, 18, 35, 36, 37, 3, 38, 39, 40, 41, 42, 64, 65, 66, 67, 68, 69, 70, 71, 72, 73, 74, 75, 76, 77, 95, 96, 97, 98, 99, 100, 101, 102, 103, 104, 105, 106, 107, 108, 109, 110, 111, 112, 113, 114, 115, 116, 117, 118] rfl (by decide +kernel)
set_option maxRecDepth 20000 in
theorem gX7_talk_X7_staysSo : GoodIn wsX7_talk (wsV RX7 143 RX7 yX7_staysSo wsX7_staysSo) := goodIn_app (goodIn_r _ [59, 60, 61, 3] rfl (by decide +kernel)) ggX7_talk_X7_staysSo
set_option maxRecDepth 20000 in
theorem ggX7_talk_X7_done : GoodIn wsX7_talk wsX7_done := goodIn_r _ [81, 18, 63, 68, 69, 95, 96, 97, 98, 99, 100, 101, 102, 103, 104, 105, 106, 107, 108, 109, 110, 111, 112, 113, 114, 115, 116, 117, 118] rfl (by decide +kernel)
set_option maxRecDepth 20000 in
theorem gX7_talk_X7_done : GoodIn wsX7_talk (wsV RX7 112 RX7 yX7_done wsX7_done) := goodIn_app (goodIn_r _ [78, 79, 80, 3] rfl (by decide +kernel)) ggX7_talk_X7_done
set_option maxRecDepth 20000 in
theorem ggX7_talk_X7_seen : GoodIn wsX7_talk wsX7_seen := goodIn_r _ [85, 86, 19, 18, 63, 28, 29, 30, 3, 31, 20, 21, 22, 23, 87, 88, 89, 90, 91, 92, 93, 94, 39, 40, 41, 42, 70, 71, 72, 73, 47, 48, 49, 50, 51, 52, 53, 54, 14, 15, 16, 17, 24, 25, 26, 27, 32, 33, 34, 35, 36, 37, 38, 43, 44, 45, 46, 64, 65, 66, 67, 68, 69, 74, 75, 76, 77, 78, 79, 80, 81, 95, 96, 97, 98, 99, 100, 101, 102, 103, 104, 105, 106, 107, 108, 109, 110, 111, 112, 113, 114, 115, 116, 117, 118] rfl (by decide +kernel)
set_option maxRecDepth 20000 in
theorem gX7_talk_X7_seen : GoodIn wsX7_talk (wsV RX7 120 RX7 yX7_seen wsX7_seen) := goodIn_app (goodIn_r _ [82, 83, 84, 3] rfl (by decide +kernel)) ggX7_talk_X7_seen
theorem dX7_talk_0 : decode cX7_talk 0 = .ok (.iload_n 1, 1) := by decide +kernel
theorem dX7_talk_1 : decode cX7_talk 1 = .ok (.invokestatic 123, 3) := by decide +kernel
theorem dX7_talk_4 : decode cX7_talk 4 = .ok (.ifCond .eq 14, 3) := by decide +kernel
theorem dX7_talk_7 : decode cX7_talk 7 = .ok (.iload_n 2, 1) := by decide +kernel
theorem dX7_talk_8 : decode cX7_talk 8 = .ok (.iconst 1, 1) := by decide +kernel
theorem dX7_talk_9 : decode cX7_talk 9 = .ok (.sipush 999, 3) := by decide +kernel
theorem dX7_talk_12 : decode cX7_talk 12 = .ok (.invokestatic 56, 3) := by decide +kernel
theorem dX7_talk_15 : decode cX7_talk 15 = .ok (.ifCond .ne 9, 3) := by decide +kernel
theorem dX7_talk_18 : decode cX7_talk 18 = .ok (.aload_n 0, 1) := by decide +kernel
theorem dX7_talk_19 : decode cX7_talk 19 = .ok (.iconst 1, 1) := by decide +kernel
theorem dX7_talk_20 : decode cX7_talk 20 = .ok (.invokevirtual 64, 3) := by decide +kernel
theorem dX7_talk_23 : decode cX7_talk 23 = .ok (.ireturn, 1) := by decide +kernel
theorem dX7_talk_24 : decode cX7_talk 24 = .ok (.aload_n 0, 1) := by decide +kernel
theorem dX7_talk_25 : decode cX7_talk 25 = .ok (.iload_n 1, 1) := by decide +kernel
theorem dX7_talk_26 : decode cX7_talk 26 = .ok (.invokevirtual 105, 3) := by decide +kernel
theorem dX7_talk_29 : decode cX7_talk 29 = .ok (.ifCond .ne 9, 3) := by decide +kernel
theorem dX7_talk_32 : decode cX7_talk 32 = .ok (.aload_n 0, 1) := by decide +kernel
theorem dX7_talk_33 : decode cX7_talk 33 = .ok (.iconst 3, 1) := by decide +kernel
theorem dX7_talk_34 : decode cX7_talk 34 = .ok (.invokevirtual 64, 3) := by decide +kernel
theorem dX7_talk_37 : decode cX7_talk 37 = .ok (.ireturn, 1) := by decide +kernel
theorem dX7_talk_38 : decode cX7_talk 38 = .ok (.aload_n 0, 1) := by decide +kernel
theorem dX7_talk_39 : decode cX7_talk 39 = .ok (.invokevirtual 126, 3) := by decide +kernel
theorem dX7_talk_42 : decode cX7_talk 42 = .ok (.ifCond .eq 9, 3) := by decide +kernel
theorem dX7_talk_45 : decode cX7_talk 45 = .ok (.aload_n 0, 1) := by decide +kernel
theorem dX7_talk_46 : decode cX7_talk 46 = .ok (.iconst 4, 1) := by decide +kernel
theorem dX7_talk_47 : decode cX7_talk 47 = .ok (.invokevirtual 64, 3) := by decide +kernel
theorem dX7_talk_50 : decode cX7_talk 50 = .ok (.ireturn, 1) := by decide +kernel
theorem dX7_talk_51 : decode cX7_talk 51 = .ok (.aload_n 0, 1) := by decide +kernel
theorem dX7_talk_52 : decode cX7_talk 52 = .ok (.invokevirtual 143, 3) := by decide +kernel
theorem dX7_talk_55 : decode cX7_talk 55 = .ok (.aload_n 0, 1) := by decide +kernel
theorem dX7_talk_56 : decode cX7_talk 56 = .ok (.aload_n 0, 1) := by decide +kernel
theorem dX7_talk_57 : decode cX7_talk 57 = .ok (.bipush 7, 2) := by decide +kernel
theorem dX7_talk_59 : decode cX7_talk 59 = .ok (.iload_n 1, 1) := by decide +kernel
theorem dX7_talk_60 : decode cX7_talk 60 = .ok (.iload_n 2, 1) := by decide +kernel
theorem dX7_talk_61 : decode cX7_talk 61 = .ok (.invokevirtual 112, 3) := by decide +kernel
theorem dX7_talk_64 : decode cX7_talk 64 = .ok (.invokevirtual 120, 3) := by decide +kernel
theorem dX7_talk_67 : decode cX7_talk 67 = .ok (.ireturn, 1) := by decide +kernel
set_option maxRecDepth 20000 in
theorem ggX7_actIs_X7_isAct : GoodIn wsX7_actIs wsX7_isAct := goodIn_r _ [6, 7, 8, 9, 5, 10, 37, 38, 39, 40, 41, 42, 43, 44, 45, 46, 47, 48, 49, 50, 51, 52, 53, 54, 55, 56, 57, 58, 59, 60] rfl (by decide +kernel)
set_option maxRecDepth 20000 in
theorem gX7_actIs_X7_isAct : GoodIn wsX7_actIs (wsV RX7 146 RX7 yX7_isAct wsX7_isAct) := goodIn_app (goodIn_r _ [2, 3, 4, 5] rfl (by decide +kernel)) ggX7_actIs_X7_isAct
set_option maxRecDepth 20000 in
theorem ggX7_actIs_X7_in : GoodIn wsX7_actIs wsX7_in := goodIn_r _ [10] rfl (by decide +kernel)
set_option maxRecDepth 20000 in
theorem gX7_actIs_X7_in : GoodIn wsX7_actIs (va_wsS RX7 56 yX7_in wsX7_in) := goodIn_app (goodIn_r _ [8, 9, 5] rfl (by decide +kernel)) ggX7_actIs_X7_in
set_option maxRecDepth 20000 in
theorem ggX7_actIs_X7_error : GoodIn wsX7_actIs wsX7_error := goodIn_r _ [14, 15, 16, 37, 38, 39, 40, 41, 42, 43, 44, 45, 46, 47, 48, 49, 50, 51, 52, 53, 54, 55, 56, 57, 58, 59, 60] rfl (by decide +kernel)
set_option maxRecDepth 20000 in
theorem gX7_actIs_X7_error : GoodIn wsX7_actIs (wsV RX7 64 RX7 yX7_error wsX7_error) := goodIn_app (goodIn_r _ [11, 12, 13, 5] rfl (by decide +kernel)) ggX7_actIs_X7_error
set_option maxRecDepth 20000 in
theorem ggX7_actIs_X7_findUndone : GoodIn wsX7_actIs wsX7_findUndone := goodIn_r _ [20, 7, 1, 21, 22, 23, 5, 24, 25, 26, 27, 28, 29, 30, 31, 32, 37, 38, 39, 40, 41, 42, 43, 44, 45, 46, 47, 48, 49, 50, 51, 52, 53, 54, 55, 56, 57, 58, 59, 60] rfl (by decide +kernel)
set_option maxRecDepth 20000 in
theorem gX7_actIs_X7_findUndone : GoodIn wsX7_actIs (wsV RX7 102 RX7 yX7_findUndone wsX7_findUndone) := goodIn_app (goodIn_r _ [17, 18, 19, 5] rfl (by decide +kernel)) ggX7_actIs_X7_findUndone
set_option maxRecDepth 20000 in
theorem ggX7_actIs_X7_actIs1 : GoodIn wsX7_actIs wsX7_actIs1 := goodIn_r _ [36, 7, 37, 38, 39, 40, 41, 42, 43, 44, 45, 46, 47, 48, 49, 50, 51, 52, 53, 54, 55, 56, 57, 58, 59, 60] rfl (by decide +kernel)
set_option maxRecDepth 20000 in
theorem gX7_actIs_X7_actIs1 : GoodIn wsX7_actIs (wsV RX7 67 RX7 yX7_actIs1 wsX7_actIs1) := goodIn_app (goodIn_r _ [33, 34, 35, 5] rfl (by decide +kernel)) ggX7_actIs_X7_actIs1
theorem dX7_actIs_0 : decode cX7_actIs 0 = .ok (.aload_n 0, 1) := by decide +kernel
theorem dX7_actIs_1 : decode cX7_actIs 1 = .ok (.iload_n 1, 1) := by decide +kernel
theorem dX7_actIs_2 : decode cX7_actIs 2 = .ok (.invokevirtual 146, 3) := by decide +kernel
theorem dX7_actIs_5 : decode cX7_actIs 5 = .ok (.ifCond .eq 12, 3) := by decide +kernel
theorem dX7_actIs_8 : decode cX7_actIs 8 = .ok (.iload_n 2, 1) := by decide +kernel
theorem dX7_actIs_9 : decode cX7_actIs 9 = .ok (.iconst 0, 1) := by decide +kernel
theorem dX7_actIs_10 : decode cX7_actIs 10 = .ok (.iconst 5, 1) := by decide +kernel
theorem dX7_actIs_11 : decode cX7_actIs 11 = .ok (.invokestatic 56, 3) := by decide +kernel
theorem dX7_actIs_14 : decode cX7_actIs 14 = .ok (.ifCond .ne 9, 3) := by decide +kernel
theorem dX7_actIs_17 : decode cX7_actIs 17 = .ok (.aload_n 0, 1) := by decide +kernel
theorem dX7_actIs_18 : decode cX7_actIs 18 = .ok (.iconst 1, 1) := by decide +kernel
theorem dX7_actIs_19 : decode cX7_actIs 19 = .ok (.invokevirtual 64, 3) := by decide +kernel
theorem dX7_actIs_22 : decode cX7_actIs 22 = .ok (.ireturn, 1) := by decide +kernel
theorem dX7_actIs_23 : decode cX7_actIs 23 = .ok (.iload_n 2, 1) := by decide +kernel
theorem dX7_actIs_24 : decode cX7_actIs 24 = .ok (.iconst 4, 1) := by decide +kernel
theorem dX7_actIs_25 : decode cX7_actIs 25 = .ok (.if_icmp .ne 14, 3) := by decide +kernel
theorem dX7_actIs_28 : decode cX7_actIs 28 = .ok (.aload_n 0, 1) := by decide +kernel
theorem dX7_actIs_29 : decode cX7_actIs 29 = .ok (.invokevirtual 102, 3) := by decide +kernel
theorem dX7_actIs_32 : decode cX7_actIs 32 = .ok (.aload_n 0, 1) := by decide +kernel
theorem dX7_actIs_33 : decode cX7_actIs 33 = .ok (.getfield 37, 3) := by decide +kernel
theorem dX7_actIs_36 : decode cX7_actIs 36 = .ok (.iload_n 1, 1) := by decide +kernel
theorem dX7_actIs_37 : decode cX7_actIs 37 = .ok (.iaload, 1) := by decide +kernel
theorem dX7_actIs_38 : decode cX7_actIs 38 = .ok (.ireturn, 1) := by decide +kernel
theorem dX7_actIs_39 : decode cX7_actIs 39 = .ok (.aload_n 0, 1) := by decide +kernel
theorem dX7_actIs_40 : decode cX7_actIs 40 = .ok (.iload_n 1, 1) := by decide +kernel
theorem dX7_actIs_41 : decode cX7_actIs 41 = .ok (.iload_n 2, 1) := by decide +kernel
theorem dX7_actIs_42 : decode cX7_actIs 42 = .ok (.iconst 5, 1) := by decide +kernel
theorem dX7_actIs_43 : decode cX7_actIs 43 = .ok (.if_icmp .ne 7, 3) := by decide +kernel
theorem dX7_actIs_46 : decode cX7_actIs 46 = .ok (.iconst 4, 1) := by decide +kernel
theorem dX7_actIs_47 : decode cX7_actIs 47 = .ok (.goto 4, 3) := by decide +kernel
theorem dX7_actIs_50 : decode cX7_actIs 50 = .ok (.iload_n 2, 1) := by decide +kernel
theorem dX7_actIs_51 : decode cX7_actIs 51 = .ok (.invokevirtual 67, 3) := by decide +kernel
theorem dX7_actIs_54 : decode cX7_actIs 54 = .ok (.ireturn, 1) := by decide +kernel
set_option maxRecDepth 20000 in
theorem ggX7_as_X7_isAct : GoodIn wsX7_as wsX7_isAct := goodIn_r _ [5, 6, 7, 8, 4, 9, 23, 24, 25, 26, 27, 28, 29, 30, 31, 32, 33, 34, 35, 36, 37, 38, 39, 40, 41, 42, 43, 44, 45, 46] rfl (by decide +kernel)
set_option maxRecDepth 20000 in
theorem gX7_as_X7_isAct : GoodIn wsX7_as (wsV RX7 146 RX7 yX7_isAct wsX7_isAct) := goodIn_app (goodIn_r _ [1, 2, 3, 4] rfl (by decide +kernel)) ggX7_as_X7_isAct
set_option maxRecDepth 20000 in
theorem ggX7_as_X7_in : GoodIn wsX7_as wsX7_in := goodIn_r _ [9] rfl (by decide +kernel)
set_option maxRecDepth 20000 in
theorem gX7_as_X7_in : GoodIn wsX7_as (va_wsS RX7 56 yX7_in wsX7_in) := goodIn_app (goodIn_r _ [7, 8, 4] rfl (by decide +kernel)) ggX7_as_X7_in
set_option maxRecDepth 20000 in
theorem ggX7_as_X7_error : GoodIn wsX7_as wsX7_error := goodIn_r _ [13, 14, 15, 23, 24, 25, 26, 27, 28, 29, 30, 31, 32, 33, 34, 35, 36, 37, 38, 39, 40, 41, 42, 43, 44, 45, 46] rfl (by decide +kernel)
set_option maxRecDepth 20000 in
theorem gX7_as_X7_error : GoodIn wsX7_as (wsV RX7 64 RX7 yX7_error wsX7_error) := goodIn_app (goodIn_r _ [10, 11, 12, 4] rfl (by decide +kernel)) ggX7_as_X7_error
set_option maxRecDepth 20000 in
theorem ggX7_as_X7_actIs1 : GoodIn wsX7_as wsX7_actIs1 := goodIn_r _ [19, 6, 23, 24, 25, 26, 27, 28, 29, 30, 31, 32, 33, 34, 35, 36, 37, 38, 39, 40, 41, 42, 43, 44, 45, 46] rfl (by decide +kernel)
set_option maxRecDepth 20000 in
theorem gX7_as_X7_actIs1 : GoodIn wsX7_as (wsV RX7 67 RX7 yX7_actIs1 wsX7_actIs1) := goodIn_app (goodIn_r _ [16, 17, 18, 4] rfl (by decide +kernel)) ggX7_as_X7_actIs1
set_option maxRecDepth 20000 in
theorem ggX7_as_X7_isUnder : GoodIn wsX7_as wsX7_isUnder := goodIn_r _ [22] rfl (by decide +kernel)
set_option maxRecDepth 20000 in
theorem gX7_as_X7_isUnder : GoodIn wsX7_as (va_wsS RX7 71 yX7_isUnder wsX7_isUnder) := goodIn_app (goodIn_r _ [20, 21, 4] rfl (by decide +kernel)) ggX7_as_X7_isUnder
theorem dX7_as_0 : decode cX7_as 0 = .ok (.aload_n 0, 1) := by decide +kernel
theorem dX7_as_1 : decode cX7_as 1 = .ok (.iload_n 1, 1) := by decide +kernel
theorem dX7_as_2 : decode cX7_as 2 = .ok (.invokevirtual 146, 3) := by decide +kernel
theorem dX7_as_5 : decode cX7_as 5 = .ok (.ifCond .eq 13, 3) := by decide +kernel
theorem dX7_as_8 : decode cX7_as 8 = .ok (.iload_n 2, 1) := by decide +kernel
theorem dX7_as_9 : decode cX7_as 9 = .ok (.iconst 0, 1) := by decide +kernel
theorem dX7_as_10 : decode cX7_as 10 = .ok (.bipush 7, 2) := by decide +kernel
theorem dX7_as_12 : decode cX7_as 12 = .ok (.invokestatic 56, 3) := by decide +kernel
theorem dX7_as_15 : decode cX7_as 15 = .ok (.ifCond .ne 9, 3) := by decide +kernel
theorem dX7_as_18 : decode cX7_as 18 = .ok (.aload_n 0, 1) := by decide +kernel
theorem dX7_as_19 : decode cX7_as 19 = .ok (.iconst 1, 1) := by decide +kernel
theorem dX7_as_20 : decode cX7_as 20 = .ok (.invokevirtual 64, 3) := by decide +kernel
theorem dX7_as_23 : decode cX7_as 23 = .ok (.ireturn, 1) := by decide +kernel
theorem dX7_as_24 : decode cX7_as 24 = .ok (.aload_n 0, 1) := by decide +kernel
theorem dX7_as_25 : decode cX7_as 25 = .ok (.iload_n 1, 1) := by decide +kernel
theorem dX7_as_26 : decode cX7_as 26 = .ok (.iconst 0, 1) := by decide +kernel
theorem dX7_as_27 : decode cX7_as 27 = .ok (.invokevirtual 67, 3) := by decide +kernel
theorem dX7_as_30 : decode cX7_as 30 = .ok (.iload_n 2, 1) := by decide +kernel
theorem dX7_as_31 : decode cX7_as 31 = .ok (.invokestatic 71, 3) := by decide +kernel
theorem dX7_as_34 : decode cX7_as 34 = .ok (.ifCond .eq 12, 3) := by decide +kernel
theorem dX7_as_37 : decode cX7_as 37 = .ok (.aload_n 0, 1) := by decide +kernel
theorem dX7_as_38 : decode cX7_as 38 = .ok (.iload_n 1, 1) := by decide +kernel
theorem dX7_as_39 : decode cX7_as 39 = .ok (.iconst 1, 1) := by decide +kernel
theorem dX7_as_40 : decode cX7_as 40 = .ok (.invokevirtual 67, 3) := by decide +kernel
theorem dX7_as_43 : decode cX7_as 43 = .ok (.goto 8, 3) := by decide +kernel
theorem dX7_as_46 : decode cX7_as 46 = .ok (.aload_n 0, 1) := by decide +kernel
theorem dX7_as_47 : decode cX7_as 47 = .ok (.iconst 5, 1) := by decide +kernel
theorem dX7_as_48 : decode cX7_as 48 = .ok (.invokevirtual 64, 3) := by decide +kernel
theorem dX7_as_51 : decode cX7_as 51 = .ok (.ireturn, 1) := by decide +kernel
set_option maxRecDepth 20000 in
theorem ggX7_word_X7_isVersion : GoodIn wsX7_word wsX7_isVersion := goodIn_r _ [5, 6, 7, 8, 4, 9, 24, 25, 26, 27, 28, 29, 30, 31, 32, 33, 34, 35, 36, 37, 38, 39, 40, 41, 42, 43, 44, 45, 46, 47] rfl (by decide +kernel)
set_option maxRecDepth 20000 in
theorem gX7_word_X7_isVersion : GoodIn wsX7_word (wsV RX7 137 RX7 yX7_isVersion wsX7_isVersion) := goodIn_app (goodIn_r _ [1, 2, 3, 4] rfl (by decide +kernel)) ggX7_word_X7_isVersion
set_option maxRecDepth 20000 in
theorem ggX7_word_X7_sizeOf : GoodIn wsX7_word wsX7_sizeOf := goodIn_r _ [13, 6, 24, 25, 26, 27, 28, 29, 30, 31, 32, 33, 34, 35, 36, 37, 38, 39, 40, 41, 42, 43, 44, 45, 46, 47] rfl (by decide +kernel)
set_option maxRecDepth 20000 in
theorem gX7_word_X7_sizeOf : GoodIn wsX7_word (wsV RX7 60 RX7 yX7_sizeOf wsX7_sizeOf) := goodIn_app (goodIn_r _ [10, 11, 12, 4] rfl (by decide +kernel)) ggX7_word_X7_sizeOf
set_option maxRecDepth 20000 in
theorem ggX7_word_X7_in : GoodIn wsX7_word wsX7_in := goodIn_r _ [9] rfl (by decide +kernel)
set_option maxRecDepth 20000 in
theorem gX7_word_X7_in : GoodIn wsX7_word (va_wsS RX7 56 yX7_in wsX7_in) := goodIn_app (goodIn_r _ [7, 8, 4] rfl (by decide +kernel)) ggX7_word_X7_in
set_option maxRecDepth 20000 in
theorem ggX7_word_X7_error : GoodIn wsX7_word wsX7_error := goodIn_r _ [17, 18, 19, 24, 25, 26, 27, 28, 29, 30, 31, 32, 33, 34, 35, 36, 37, 38, 39, 40, 41, 42, 43, 44, 45, 46, 47] rfl (by decide +kernel)
set_option maxRecDepth 20000 in
theorem gX7_word_X7_error : GoodIn wsX7_word (wsV RX7 64 RX7 yX7_error wsX7_error) := goodIn_app (goodIn_r _ [14, 15, 16, 4] rfl (by decide +kernel)) ggX7_word_X7_error
set_option maxRecDepth 20000 in
theorem ggX7_word_X7_wordAt : GoodIn wsX7_word wsX7_wordAt := goodIn_r _ [23, 6, 24, 25, 26, 27, 28, 29, 30, 31, 32, 33, 34, 35, 36, 37, 38, 39, 40, 41, 42, 43, 44, 45, 46, 47] rfl (by decide +kernel)
set_option maxRecDepth 20000 in
theorem gX7_word_X7_wordAt : GoodIn wsX7_word (wsV RX7 96 RX7 yX7_wordAt wsX7_wordAt) := goodIn_app (goodIn_r _ [20, 21, 22, 4] rfl (by decide +kernel)) ggX7_word_X7_wordAt
theorem dX7_word_0 : decode cX7_word 0 = .ok (.aload_n 0, 1) := by decide +kernel
theorem dX7_word_1 : decode cX7_word 1 = .ok (.iload_n 1, 1) := by decide +kernel
theorem dX7_word_2 : decode cX7_word 2 = .ok (.invokevirtual 137, 3) := by decide +kernel
theorem dX7_word_5 : decode cX7_word 5 = .ok (.ifCond .eq 18, 3) := by decide +kernel
theorem dX7_word_8 : decode cX7_word 8 = .ok (.iload_n 2, 1) := by decide +kernel
theorem dX7_word_9 : decode cX7_word 9 = .ok (.iconst (-1), 1) := by decide +kernel
theorem dX7_word_10 : decode cX7_word 10 = .ok (.aload_n 0, 1) := by decide +kernel
theorem dX7_word_11 : decode cX7_word 11 = .ok (.iload_n 1, 1) := by decide +kernel
theorem dX7_word_12 : decode cX7_word 12 = .ok (.invokevirtual 60, 3) := by decide +kernel
theorem dX7_word_15 : decode cX7_word 15 = .ok (.iconst 1, 1) := by decide +kernel
theorem dX7_word_16 : decode cX7_word 16 = .ok (.isub, 1) := by decide +kernel
theorem dX7_word_17 : decode cX7_word 17 = .ok (.invokestatic 56, 3) := by decide +kernel
theorem dX7_word_20 : decode cX7_word 20 = .ok (.ifCond .ne 9, 3) := by decide +kernel
theorem dX7_word_23 : decode cX7_word 23 = .ok (.aload_n 0, 1) := by decide +kernel
theorem dX7_word_24 : decode cX7_word 24 = .ok (.iconst 1, 1) := by decide +kernel
theorem dX7_word_25 : decode cX7_word 25 = .ok (.invokevirtual 64, 3) := by decide +kernel
theorem dX7_word_28 : decode cX7_word 28 = .ok (.ireturn, 1) := by decide +kernel
theorem dX7_word_29 : decode cX7_word 29 = .ok (.iload_n 2, 1) := by decide +kernel
theorem dX7_word_30 : decode cX7_word 30 = .ok (.ifCond .ge 11, 3) := by decide +kernel
theorem dX7_word_33 : decode cX7_word 33 = .ok (.aload_n 0, 1) := by decide +kernel
theorem dX7_word_34 : decode cX7_word 34 = .ok (.iload_n 1, 1) := by decide +kernel
theorem dX7_word_35 : decode cX7_word 35 = .ok (.invokevirtual 60, 3) := by decide +kernel
theorem dX7_word_38 : decode cX7_word 38 = .ok (.goto 9, 3) := by decide +kernel
theorem dX7_word_41 : decode cX7_word 41 = .ok (.aload_n 0, 1) := by decide +kernel
theorem dX7_word_42 : decode cX7_word 42 = .ok (.iload_n 1, 1) := by decide +kernel
theorem dX7_word_43 : decode cX7_word 43 = .ok (.iload_n 2, 1) := by decide +kernel
theorem dX7_word_44 : decode cX7_word 44 = .ok (.invokevirtual 96, 3) := by decide +kernel
theorem dX7_word_47 : decode cX7_word 47 = .ok (.ireturn, 1) := by decide +kernel
set_option maxRecDepth 20000 in
theorem ggX7_origin_X7_isVersion : GoodIn wsX7_origin wsX7_isVersion := goodIn_r _ [5, 6, 7, 8, 4, 9, 24, 25, 26, 27, 28, 29, 30, 31, 32, 33, 34, 35, 36, 37, 38, 39, 40, 41, 42, 43, 44, 45, 46, 47] rfl (by decide +kernel)
set_option maxRecDepth 20000 in
theorem gX7_origin_X7_isVersion : GoodIn wsX7_origin (wsV RX7 137 RX7 yX7_isVersion wsX7_isVersion) := goodIn_app (goodIn_r _ [1, 2, 3, 4] rfl (by decide +kernel)) ggX7_origin_X7_isVersion
set_option maxRecDepth 20000 in
theorem ggX7_origin_X7_sizeOf : GoodIn wsX7_origin wsX7_sizeOf := goodIn_r _ [13, 6, 24, 25, 26, 27, 28, 29, 30, 31, 32, 33, 34, 35, 36, 37, 38, 39, 40, 41, 42, 43, 44, 45, 46, 47] rfl (by decide +kernel)
set_option maxRecDepth 20000 in
theorem gX7_origin_X7_sizeOf : GoodIn wsX7_origin (wsV RX7 60 RX7 yX7_sizeOf wsX7_sizeOf) := goodIn_app (goodIn_r _ [10, 11, 12, 4] rfl (by decide +kernel)) ggX7_origin_X7_sizeOf
set_option maxRecDepth 20000 in
theorem ggX7_origin_X7_in : GoodIn wsX7_origin wsX7_in := goodIn_r _ [9] rfl (by decide +kernel)
set_option maxRecDepth 20000 in
theorem gX7_origin_X7_in : GoodIn wsX7_origin (va_wsS RX7 56 yX7_in wsX7_in) := goodIn_app (goodIn_r _ [7, 8, 4] rfl (by decide +kernel)) ggX7_origin_X7_in
set_option maxRecDepth 20000 in
theorem ggX7_origin_X7_originAt : GoodIn wsX7_origin wsX7_originAt := goodIn_r _ [17, 6, 24, 25, 26, 27, 28, 29, 30, 31, 32, 33, 34, 35, 36, 37, 38, 39, 40, 41, 42, 43, 44, 45, 46, 47] rfl (by decide +kernel)
set_option maxRecDepth 20000 in
theorem gX7_origin_X7_originAt : GoodIn wsX7_origin (wsV RX7 99 RX7 yX7_originAt wsX7_originAt) := goodIn_app (goodIn_r _ [14, 15, 16, 4] rfl (by decide +kernel)) ggX7_origin_X7_originAt
set_option maxRecDepth 20000 in
theorem ggX7_origin_X7_error : GoodIn wsX7_origin wsX7_error := goodIn_r _ [21, 22, 23, 24, 25, 26, 27, 28, 29, 30, 31, 32, 33, 34, 35, 36, 37, 38, 39, 40, 41, 42, 43, 44, 45, 46, 47] rfl (by decide +kernel)
set_option maxRecDepth 20000 in
theorem gX7_origin_X7_error : GoodIn wsX7_origin (wsV RX7 64 RX7 yX7_error wsX7_error) := goodIn_app (goodIn_r _ [18, 19, 20, 4] rfl (by decide +kernel)) ggX7_origin_X7_error
theorem dX7_origin_0 : decode cX7_origin 0 = .ok (.aload_n 0, 1) := by decide +kernel
theorem dX7_origin_1 : decode cX7_origin 1 = .ok (.iload_n 1, 1) := by decide +kernel
theorem dX7_origin_2 : decode cX7_origin 2 = .ok (.invokevirtual 137, 3) := by decide +kernel
theorem dX7_origin_5 : decode cX7_origin 5 = .ok (.ifCond .eq 27, 3) := by decide +kernel
theorem dX7_origin_8 : decode cX7_origin 8 = .ok (.iload_n 2, 1) := by decide +kernel
theorem dX7_origin_9 : decode cX7_origin 9 = .ok (.iconst 0, 1) := by decide +kernel
theorem dX7_origin_10 : decode cX7_origin 10 = .ok (.aload_n 0, 1) := by decide +kernel
theorem dX7_origin_11 : decode cX7_origin 11 = .ok (.iload_n 1, 1) := by decide +kernel
theorem dX7_origin_12 : decode cX7_origin 12 = .ok (.invokevirtual 60, 3) := by decide +kernel
theorem dX7_origin_15 : decode cX7_origin 15 = .ok (.iconst 1, 1) := by decide +kernel
theorem dX7_origin_16 : decode cX7_origin 16 = .ok (.isub, 1) := by decide +kernel
theorem dX7_origin_17 : decode cX7_origin 17 = .ok (.invokestatic 56, 3) := by decide +kernel
theorem dX7_origin_20 : decode cX7_origin 20 = .ok (.ifCond .eq 12, 3) := by decide +kernel
theorem dX7_origin_23 : decode cX7_origin 23 = .ok (.aload_n 0, 1) := by decide +kernel
theorem dX7_origin_24 : decode cX7_origin 24 = .ok (.iload_n 1, 1) := by decide +kernel
theorem dX7_origin_25 : decode cX7_origin 25 = .ok (.iload_n 2, 1) := by decide +kernel
theorem dX7_origin_26 : decode cX7_origin 26 = .ok (.invokevirtual 99, 3) := by decide +kernel
theorem dX7_origin_29 : decode cX7_origin 29 = .ok (.goto 8, 3) := by decide +kernel
theorem dX7_origin_32 : decode cX7_origin 32 = .ok (.aload_n 0, 1) := by decide +kernel
theorem dX7_origin_33 : decode cX7_origin 33 = .ok (.iconst 1, 1) := by decide +kernel
theorem dX7_origin_34 : decode cX7_origin 34 = .ok (.invokevirtual 64, 3) := by decide +kernel
theorem dX7_origin_37 : decode cX7_origin 37 = .ok (.ireturn, 1) := by decide +kernel
set_option maxRecDepth 20000 in
theorem ggX7_may_X7_isWriter : GoodIn wsX7_may wsX7_isWriter := goodIn_r _ [4, 5, 6, 3, 7] rfl (by decide +kernel)
set_option maxRecDepth 20000 in
theorem gX7_may_X7_isWriter : GoodIn wsX7_may (va_wsS RX7 123 yX7_isWriter wsX7_isWriter) := goodIn_app (goodIn_r _ [1, 2, 3] rfl (by decide +kernel)) ggX7_may_X7_isWriter
set_option maxRecDepth 20000 in
theorem ggX7_may_X7_error : GoodIn wsX7_may wsX7_error := goodIn_r _ [11, 12, 13, 55, 56, 57, 58, 59, 60, 61, 62, 63, 64, 65, 66, 67, 68, 69, 70, 71, 72, 73, 74, 75, 76, 77, 78] rfl (by decide +kernel)
set_option maxRecDepth 20000 in
theorem gX7_may_X7_error : GoodIn wsX7_may (wsV RX7 64 RX7 yX7_error wsX7_error) := goodIn_app (goodIn_r _ [8, 9, 10, 3] rfl (by decide +kernel)) ggX7_may_X7_error
set_option maxRecDepth 20000 in
theorem ggX7_may_X7_mayAct : GoodIn wsX7_may wsX7_mayAct := goodIn_r _ [17, 18, 19, 20, 21, 22, 3, 23, 24, 25, 26, 27, 28, 29, 30, 31, 32, 33, 34, 35, 36, 37, 38, 39, 40, 41, 42, 43, 44, 45, 46, 47, 48, 49, 50, 51, 52, 53, 54, 55, 56, 57, 58, 59, 60, 61, 62, 63, 64, 65, 66, 67, 68, 69, 70, 71, 72, 73, 74, 75, 76, 77, 78] rfl (by decide +kernel)
set_option maxRecDepth 20000 in
theorem gX7_may_X7_mayAct : GoodIn wsX7_may (wsV RX7 105 RX7 yX7_mayAct wsX7_mayAct) := goodIn_app (goodIn_r _ [14, 15, 16, 3] rfl (by decide +kernel)) ggX7_may_X7_mayAct
theorem dX7_may_0 : decode cX7_may 0 = .ok (.iload_n 1, 1) := by decide +kernel
theorem dX7_may_1 : decode cX7_may 1 = .ok (.invokestatic 123, 3) := by decide +kernel
theorem dX7_may_4 : decode cX7_may 4 = .ok (.ifCond .ne 11, 3) := by decide +kernel
theorem dX7_may_7 : decode cX7_may 7 = .ok (.aload_n 0, 1) := by decide +kernel
theorem dX7_may_8 : decode cX7_may 8 = .ok (.iconst 1, 1) := by decide +kernel
theorem dX7_may_9 : decode cX7_may 9 = .ok (.invokevirtual 64, 3) := by decide +kernel
theorem dX7_may_12 : decode cX7_may 12 = .ok (.goto 16, 3) := by decide +kernel
theorem dX7_may_15 : decode cX7_may 15 = .ok (.aload_n 0, 1) := by decide +kernel
theorem dX7_may_16 : decode cX7_may 16 = .ok (.iload_n 1, 1) := by decide +kernel
theorem dX7_may_17 : decode cX7_may 17 = .ok (.invokevirtual 105, 3) := by decide +kernel
theorem dX7_may_20 : decode cX7_may 20 = .ok (.ifCond .eq 7, 3) := by decide +kernel
theorem dX7_may_23 : decode cX7_may 23 = .ok (.iconst 1, 1) := by decide +kernel
theorem dX7_may_24 : decode cX7_may 24 = .ok (.goto 4, 3) := by decide +kernel
theorem dX7_may_27 : decode cX7_may 27 = .ok (.iconst 0, 1) := by decide +kernel
theorem dX7_may_28 : decode cX7_may 28 = .ok (.ireturn, 1) := by decide +kernel
set_option maxRecDepth 20000 in
theorem ggX7_feed_X7_in : GoodIn wsX7_feed wsX7_in := goodIn_r _ [6] rfl (by decide +kernel)
set_option maxRecDepth 20000 in
theorem gX7_feed_X7_in : GoodIn wsX7_feed (va_wsS RX7 56 yX7_in wsX7_in) := goodIn_app (goodIn_r _ [3, 4, 5] rfl (by decide +kernel)) ggX7_feed_X7_in
set_option maxRecDepth 20000 in
theorem ggX7_feed_X7_error : GoodIn wsX7_feed wsX7_error := goodIn_r _ [10, 11, 12, 13, 14, 15, 16, 17, 18, 19, 20, 21, 22, 23, 24, 25, 26, 27, 28, 29, 30, 31, 32, 33, 34, 35, 36] rfl (by decide +kernel)
set_option maxRecDepth 20000 in
theorem gX7_feed_X7_error : GoodIn wsX7_feed (wsV RX7 64 RX7 yX7_error wsX7_error) := goodIn_app (goodIn_r _ [7, 8, 9, 5] rfl (by decide +kernel)) ggX7_feed_X7_error
theorem dX7_feed_0 : decode cX7_feed 0 = .ok (.iload_n 3, 1) := by decide +kernel
theorem dX7_feed_1 : decode cX7_feed 1 = .ok (.iconst 1, 1) := by decide +kernel
theorem dX7_feed_2 : decode cX7_feed 2 = .ok (.bipush 8, 2) := by decide +kernel
theorem dX7_feed_4 : decode cX7_feed 4 = .ok (.invokestatic 56, 3) := by decide +kernel
theorem dX7_feed_7 : decode cX7_feed 7 = .ok (.ifCond .ne 9, 3) := by decide +kernel
theorem dX7_feed_10 : decode cX7_feed 10 = .ok (.aload_n 0, 1) := by decide +kernel
theorem dX7_feed_11 : decode cX7_feed 11 = .ok (.iconst 1, 1) := by decide +kernel
theorem dX7_feed_12 : decode cX7_feed 12 = .ok (.invokevirtual 64, 3) := by decide +kernel
theorem dX7_feed_15 : decode cX7_feed 15 = .ok (.ireturn, 1) := by decide +kernel
theorem dX7_feed_16 : decode cX7_feed 16 = .ok (.aload_n 0, 1) := by decide +kernel
theorem dX7_feed_17 : decode cX7_feed 17 = .ok (.getfield 7, 3) := by decide +kernel
theorem dX7_feed_20 : decode cX7_feed 20 = .ok (.iconst 4, 1) := by decide +kernel
theorem dX7_feed_21 : decode cX7_feed 21 = .ok (.iaload, 1) := by decide +kernel
theorem dX7_feed_22 : decode cX7_feed 22 = .ok (.iload_n 3, 1) := by decide +kernel
theorem dX7_feed_23 : decode cX7_feed 23 = .ok (.iadd, 1) := by decide +kernel
theorem dX7_feed_24 : decode cX7_feed 24 = .ok (.bipush 60, 2) := by decide +kernel
theorem dX7_feed_26 : decode cX7_feed 26 = .ok (.if_icmp .le 9, 3) := by decide +kernel
theorem dX7_feed_29 : decode cX7_feed 29 = .ok (.aload_n 0, 1) := by decide +kernel
theorem dX7_feed_30 : decode cX7_feed 30 = .ok (.iconst 4, 1) := by decide +kernel
theorem dX7_feed_31 : decode cX7_feed 31 = .ok (.invokevirtual 64, 3) := by decide +kernel
theorem dX7_feed_34 : decode cX7_feed 34 = .ok (.ireturn, 1) := by decide +kernel
theorem dX7_feed_35 : decode cX7_feed 35 = .ok (.iconst 0, 1) := by decide +kernel
theorem dX7_feed_36 : decode cX7_feed 36 = .ok (.istore 4, 2) := by decide +kernel
theorem dX7_feed_38 : decode cX7_feed 38 = .ok (.iload 4, 2) := by decide +kernel
theorem dX7_feed_40 : decode cX7_feed 40 = .ok (.iload_n 3, 1) := by decide +kernel
theorem dX7_feed_41 : decode cX7_feed 41 = .ok (.if_icmp .ge 46, 3) := by decide +kernel
theorem dX7_feed_44 : decode cX7_feed 44 = .ok (.aload_n 0, 1) := by decide +kernel
theorem dX7_feed_45 : decode cX7_feed 45 = .ok (.getfield 7, 3) := by decide +kernel
theorem dX7_feed_48 : decode cX7_feed 48 = .ok (.sipush 3890, 3) := by decide +kernel
theorem dX7_feed_51 : decode cX7_feed 51 = .ok (.aload_n 0, 1) := by decide +kernel
theorem dX7_feed_52 : decode cX7_feed 52 = .ok (.getfield 7, 3) := by decide +kernel
theorem dX7_feed_55 : decode cX7_feed 55 = .ok (.iconst 4, 1) := by decide +kernel
theorem dX7_feed_56 : decode cX7_feed 56 = .ok (.iaload, 1) := by decide +kernel
theorem dX7_feed_57 : decode cX7_feed 57 = .ok (.iadd, 1) := by decide +kernel
theorem dX7_feed_58 : decode cX7_feed 58 = .ok (.lload_n 1, 1) := by decide +kernel
theorem dX7_feed_59 : decode cX7_feed 59 = .ok (.bipush 8, 2) := by decide +kernel
theorem dX7_feed_61 : decode cX7_feed 61 = .ok (.iload 4, 2) := by decide +kernel
theorem dX7_feed_63 : decode cX7_feed 63 = .ok (.imul, 1) := by decide +kernel
theorem dX7_feed_64 : decode cX7_feed 64 = .ok (.lshr, 1) := by decide +kernel
theorem dX7_feed_65 : decode cX7_feed 65 = .ok (.ldc2_w 149, 3) := by decide +kernel
theorem dX7_feed_68 : decode cX7_feed 68 = .ok (.land, 1) := by decide +kernel
theorem dX7_feed_69 : decode cX7_feed 69 = .ok (.l2i, 1) := by decide +kernel
theorem dX7_feed_70 : decode cX7_feed 70 = .ok (.iastore, 1) := by decide +kernel
theorem dX7_feed_71 : decode cX7_feed 71 = .ok (.aload_n 0, 1) := by decide +kernel
theorem dX7_feed_72 : decode cX7_feed 72 = .ok (.getfield 7, 3) := by decide +kernel
theorem dX7_feed_75 : decode cX7_feed 75 = .ok (.iconst 4, 1) := by decide +kernel
theorem dX7_feed_76 : decode cX7_feed 76 = .ok (.dup2, 1) := by decide +kernel
theorem dX7_feed_77 : decode cX7_feed 77 = .ok (.iaload, 1) := by decide +kernel
theorem dX7_feed_78 : decode cX7_feed 78 = .ok (.iconst 1, 1) := by decide +kernel
theorem dX7_feed_79 : decode cX7_feed 79 = .ok (.iadd, 1) := by decide +kernel
theorem dX7_feed_80 : decode cX7_feed 80 = .ok (.iastore, 1) := by decide +kernel
theorem dX7_feed_81 : decode cX7_feed 81 = .ok (.iinc 4 1, 3) := by decide +kernel
theorem dX7_feed_84 : decode cX7_feed 84 = .ok (.goto (-46), 3) := by decide +kernel
theorem dX7_feed_87 : decode cX7_feed 87 = .ok (.aload_n 0, 1) := by decide +kernel
theorem dX7_feed_88 : decode cX7_feed 88 = .ok (.getfield 7, 3) := by decide +kernel
theorem dX7_feed_91 : decode cX7_feed 91 = .ok (.iconst 4, 1) := by decide +kernel
theorem dX7_feed_92 : decode cX7_feed 92 = .ok (.iaload, 1) := by decide +kernel
theorem dX7_feed_93 : decode cX7_feed 93 = .ok (.ireturn, 1) := by decide +kernel
theorem dX7_look_0 : decode cX7_look 0 = .ok (.aload_n 0, 1) := by decide +kernel
theorem dX7_look_1 : decode cX7_look 1 = .ok (.getfield 151, 3) := by decide +kernel
theorem dX7_look_4 : decode cX7_look 4 = .ok (.aload_n 0, 1) := by decide +kernel
theorem dX7_look_5 : decode cX7_look 5 = .ok (.getfield 7, 3) := by decide +kernel
theorem dX7_look_8 : decode cX7_look 8 = .ok (.iconst 4, 1) := by decide +kernel
theorem dX7_look_9 : decode cX7_look 9 = .ok (.iaload, 1) := by decide +kernel
theorem dX7_look_10 : decode cX7_look 10 = .ok (.if_icmp .ge 19, 3) := by decide +kernel
theorem dX7_look_13 : decode cX7_look 13 = .ok (.aload_n 0, 1) := by decide +kernel
theorem dX7_look_14 : decode cX7_look 14 = .ok (.getfield 7, 3) := by decide +kernel
theorem dX7_look_17 : decode cX7_look 17 = .ok (.sipush 3890, 3) := by decide +kernel
theorem dX7_look_20 : decode cX7_look 20 = .ok (.aload_n 0, 1) := by decide +kernel
theorem dX7_look_21 : decode cX7_look 21 = .ok (.getfield 151, 3) := by decide +kernel
theorem dX7_look_24 : decode cX7_look 24 = .ok (.iadd, 1) := by decide +kernel
theorem dX7_look_25 : decode cX7_look 25 = .ok (.iaload, 1) := by decide +kernel
theorem dX7_look_26 : decode cX7_look 26 = .ok (.goto 4, 3) := by decide +kernel
theorem dX7_look_29 : decode cX7_look 29 = .ok (.iconst (-1), 1) := by decide +kernel
theorem dX7_look_30 : decode cX7_look 30 = .ok (.ireturn, 1) := by decide +kernel
theorem dX7_isName_0 : decode cX7_isName 0 = .ok (.iload_n 1, 1) := by decide +kernel
theorem dX7_isName_1 : decode cX7_isName 1 = .ok (.bipush 108, 2) := by decide +kernel
theorem dX7_isName_3 : decode cX7_isName 3 = .ok (.if_icmp .ne 5, 3) := by decide +kernel
theorem dX7_isName_6 : decode cX7_isName 6 = .ok (.iconst 1, 1) := by decide +kernel
theorem dX7_isName_7 : decode cX7_isName 7 = .ok (.ireturn, 1) := by decide +kernel
theorem dX7_isName_8 : decode cX7_isName 8 = .ok (.aload_n 0, 1) := by decide +kernel
theorem dX7_isName_9 : decode cX7_isName 9 = .ok (.getfield 154, 3) := by decide +kernel
theorem dX7_isName_12 : decode cX7_isName 12 = .ok (.ifCond .ne 33, 3) := by decide +kernel
theorem dX7_isName_15 : decode cX7_isName 15 = .ok (.iload_n 1, 1) := by decide +kernel
theorem dX7_isName_16 : decode cX7_isName 16 = .ok (.bipush 98, 2) := by decide +kernel
theorem dX7_isName_18 : decode cX7_isName 18 = .ok (.if_icmp .eq 21, 3) := by decide +kernel
theorem dX7_isName_21 : decode cX7_isName 21 = .ok (.iload_n 1, 1) := by decide +kernel
theorem dX7_isName_22 : decode cX7_isName 22 = .ok (.bipush 119, 2) := by decide +kernel
theorem dX7_isName_24 : decode cX7_isName 24 = .ok (.if_icmp .eq 15, 3) := by decide +kernel
theorem dX7_isName_27 : decode cX7_isName 27 = .ok (.iload_n 1, 1) := by decide +kernel
theorem dX7_isName_28 : decode cX7_isName 28 = .ok (.bipush 109, 2) := by decide +kernel
theorem dX7_isName_30 : decode cX7_isName 30 = .ok (.if_icmp .eq 9, 3) := by decide +kernel
theorem dX7_isName_33 : decode cX7_isName 33 = .ok (.iload_n 1, 1) := by decide +kernel
theorem dX7_isName_34 : decode cX7_isName 34 = .ok (.bipush 97, 2) := by decide +kernel
theorem dX7_isName_36 : decode cX7_isName 36 = .ok (.if_icmp .ne 7, 3) := by decide +kernel
theorem dX7_isName_39 : decode cX7_isName 39 = .ok (.iconst 1, 1) := by decide +kernel
theorem dX7_isName_40 : decode cX7_isName 40 = .ok (.goto 4, 3) := by decide +kernel
theorem dX7_isName_43 : decode cX7_isName 43 = .ok (.iconst 0, 1) := by decide +kernel
theorem dX7_isName_44 : decode cX7_isName 44 = .ok (.ireturn, 1) := by decide +kernel
theorem dX7_isName_45 : decode cX7_isName 45 = .ok (.aload_n 0, 1) := by decide +kernel
theorem dX7_isName_46 : decode cX7_isName 46 = .ok (.getfield 154, 3) := by decide +kernel
theorem dX7_isName_49 : decode cX7_isName 49 = .ok (.iconst 1, 1) := by decide +kernel
theorem dX7_isName_50 : decode cX7_isName 50 = .ok (.if_icmp .ne 33, 3) := by decide +kernel
theorem dX7_isName_53 : decode cX7_isName 53 = .ok (.iload_n 1, 1) := by decide +kernel
theorem dX7_isName_54 : decode cX7_isName 54 = .ok (.bipush 107, 2) := by decide +kernel
theorem dX7_isName_56 : decode cX7_isName 56 = .ok (.if_icmp .eq 21, 3) := by decide +kernel
theorem dX7_isName_59 : decode cX7_isName 59 = .ok (.iload_n 1, 1) := by decide +kernel
theorem dX7_isName_60 : decode cX7_isName 60 = .ok (.bipush 119, 2) := by decide +kernel
theorem dX7_isName_62 : decode cX7_isName 62 = .ok (.if_icmp .eq 15, 3) := by decide +kernel
theorem dX7_isName_65 : decode cX7_isName 65 = .ok (.iload_n 1, 1) := by decide +kernel
theorem dX7_isName_66 : decode cX7_isName 66 = .ok (.bipush 100, 2) := by decide +kernel
theorem dX7_isName_68 : decode cX7_isName 68 = .ok (.if_icmp .eq 9, 3) := by decide +kernel
theorem dX7_isName_71 : decode cX7_isName 71 = .ok (.iload_n 1, 1) := by decide +kernel
theorem dX7_isName_72 : decode cX7_isName 72 = .ok (.bipush 117, 2) := by decide +kernel
theorem dX7_isName_74 : decode cX7_isName 74 = .ok (.if_icmp .ne 7, 3) := by decide +kernel
theorem dX7_isName_77 : decode cX7_isName 77 = .ok (.iconst 1, 1) := by decide +kernel
theorem dX7_isName_78 : decode cX7_isName 78 = .ok (.goto 4, 3) := by decide +kernel
theorem dX7_isName_81 : decode cX7_isName 81 = .ok (.iconst 0, 1) := by decide +kernel
theorem dX7_isName_82 : decode cX7_isName 82 = .ok (.ireturn, 1) := by decide +kernel
theorem dX7_isName_83 : decode cX7_isName 83 = .ok (.iload_n 1, 1) := by decide +kernel
theorem dX7_isName_84 : decode cX7_isName 84 = .ok (.bipush 109, 2) := by decide +kernel
theorem dX7_isName_86 : decode cX7_isName 86 = .ok (.if_icmp .eq 21, 3) := by decide +kernel
theorem dX7_isName_89 : decode cX7_isName 89 = .ok (.iload_n 1, 1) := by decide +kernel
theorem dX7_isName_90 : decode cX7_isName 90 = .ok (.bipush 98, 2) := by decide +kernel
theorem dX7_isName_92 : decode cX7_isName 92 = .ok (.if_icmp .eq 15, 3) := by decide +kernel
theorem dX7_isName_95 : decode cX7_isName 95 = .ok (.iload_n 1, 1) := by decide +kernel
theorem dX7_isName_96 : decode cX7_isName 96 = .ok (.bipush 111, 2) := by decide +kernel
theorem dX7_isName_98 : decode cX7_isName 98 = .ok (.if_icmp .eq 9, 3) := by decide +kernel
theorem dX7_isName_101 : decode cX7_isName 101 = .ok (.iload_n 1, 1) := by decide +kernel
theorem dX7_isName_102 : decode cX7_isName 102 = .ok (.bipush 114, 2) := by decide +kernel
theorem dX7_isName_104 : decode cX7_isName 104 = .ok (.if_icmp .ne 7, 3) := by decide +kernel
theorem dX7_isName_107 : decode cX7_isName 107 = .ok (.iconst 1, 1) := by decide +kernel
theorem dX7_isName_108 : decode cX7_isName 108 = .ok (.goto 4, 3) := by decide +kernel
theorem dX7_isName_111 : decode cX7_isName 111 = .ok (.iconst 0, 1) := by decide +kernel
theorem dX7_isName_112 : decode cX7_isName 112 = .ok (.ireturn, 1) := by decide +kernel
theorem dX7_lay_0 : decode cX7_lay 0 = .ok (.aload_n 0, 1) := by decide +kernel
theorem dX7_lay_1 : decode cX7_lay 1 = .ok (.getfield 25, 3) := by decide +kernel
theorem dX7_lay_4 : decode cX7_lay 4 = .ok (.iconst 2, 1) := by decide +kernel
theorem dX7_lay_5 : decode cX7_lay 5 = .ok (.aload_n 0, 1) := by decide +kernel
theorem dX7_lay_6 : decode cX7_lay 6 = .ok (.getfield 157, 3) := by decide +kernel
theorem dX7_lay_9 : decode cX7_lay 9 = .ok (.imul, 1) := by decide +kernel
theorem dX7_lay_10 : decode cX7_lay 10 = .ok (.iload_n 1, 1) := by decide +kernel
theorem dX7_lay_11 : decode cX7_lay 11 = .ok (.iastore, 1) := by decide +kernel
theorem dX7_lay_12 : decode cX7_lay 12 = .ok (.aload_n 0, 1) := by decide +kernel
theorem dX7_lay_13 : decode cX7_lay 13 = .ok (.getfield 25, 3) := by decide +kernel
theorem dX7_lay_16 : decode cX7_lay 16 = .ok (.iconst 2, 1) := by decide +kernel
theorem dX7_lay_17 : decode cX7_lay 17 = .ok (.aload_n 0, 1) := by decide +kernel
theorem dX7_lay_18 : decode cX7_lay 18 = .ok (.getfield 157, 3) := by decide +kernel
theorem dX7_lay_21 : decode cX7_lay 21 = .ok (.imul, 1) := by decide +kernel
theorem dX7_lay_22 : decode cX7_lay 22 = .ok (.iconst 1, 1) := by decide +kernel
theorem dX7_lay_23 : decode cX7_lay 23 = .ok (.iadd, 1) := by decide +kernel
theorem dX7_lay_24 : decode cX7_lay 24 = .ok (.iload_n 2, 1) := by decide +kernel
theorem dX7_lay_25 : decode cX7_lay 25 = .ok (.iastore, 1) := by decide +kernel
theorem dX7_lay_26 : decode cX7_lay 26 = .ok (.aload_n 0, 1) := by decide +kernel
theorem dX7_lay_27 : decode cX7_lay 27 = .ok (.dup, 1) := by decide +kernel
theorem dX7_lay_28 : decode cX7_lay 28 = .ok (.getfield 157, 3) := by decide +kernel
theorem dX7_lay_31 : decode cX7_lay 31 = .ok (.iconst 1, 1) := by decide +kernel
theorem dX7_lay_32 : decode cX7_lay 32 = .ok (.iadd, 1) := by decide +kernel
theorem dX7_lay_33 : decode cX7_lay 33 = .ok (.putfield 157, 3) := by decide +kernel
theorem dX7_lay_36 : decode cX7_lay 36 = .ok (.return_, 1) := by decide +kernel
set_option maxRecDepth 20000 in
theorem ggX7_whole_X7_both : GoodIn wsX7_whole wsX7_both := goodIn_r _ [17, 1, 18, 19, 20, 5, 6, 7, 8, 9, 10, 11, 12, 13, 14, 15, 16, 21, 22, 23, 24, 25, 26, 27, 28, 29, 30, 31, 32, 33, 34, 35, 36, 37, 38, 39, 40, 41, 42, 43, 44, 45, 46, 47, 48, 49, 0, 2, 3, 4, 50, 51, 52, 53, 54, 55, 56, 57, 58, 59, 60, 61, 62, 63, 64, 65, 66, 67, 68, 69, 70, 71, 72, 73] rfl (by decide +kernel)
set_option maxRecDepth 20000 in
theorem gX7_whole_X7_both : GoodIn wsX7_whole (wsV RX7 160 RX7 yX7_both wsX7_both) := goodIn_app (goodIn_r _ [2, 3, 4, 5] rfl (by decide +kernel)) ggX7_whole_X7_both
set_option maxRecDepth 20000 in
theorem ggX7_whole_X7_look : GoodIn wsX7_whole wsX7_look := goodIn_r _ [9, 1, 10, 50, 51, 52, 53, 54, 55, 56, 57, 58, 59, 60, 61, 62, 63, 64, 65, 66, 67, 68, 69, 70, 71, 72, 73] rfl (by decide +kernel)
set_option maxRecDepth 20000 in
theorem gX7_whole_X7_look : GoodIn wsX7_whole (wsV RX7 163 RX7 yX7_look wsX7_look) := goodIn_app (goodIn_r _ [6, 7, 8, 5] rfl (by decide +kernel)) ggX7_whole_X7_look
set_option maxRecDepth 20000 in
theorem ggX7_whole_X7_lay : GoodIn wsX7_whole wsX7_lay := goodIn_r _ [14, 15, 16, 50, 51, 52, 53, 54, 55, 56, 57, 58, 59, 60, 61, 62, 63, 64, 65, 66, 67, 68, 69, 70, 71, 72, 73] rfl (by decide +kernel)
set_option maxRecDepth 20000 in
theorem gX7_whole_X7_lay : GoodIn wsX7_whole (wsV RX7 166 RX7 yX7_lay wsX7_lay) := goodIn_app (goodIn_r _ [11, 12, 13, 5] rfl (by decide +kernel)) ggX7_whole_X7_lay
theorem dX7_whole_0 : decode cX7_whole 0 = .ok (.aload_n 0, 1) := by decide +kernel
theorem dX7_whole_1 : decode cX7_whole 1 = .ok (.invokevirtual 160, 3) := by decide +kernel
theorem dX7_whole_4 : decode cX7_whole 4 = .ok (.ifCond .ne 5, 3) := by decide +kernel
theorem dX7_whole_7 : decode cX7_whole 7 = .ok (.iconst 0, 1) := by decide +kernel
theorem dX7_whole_8 : decode cX7_whole 8 = .ok (.ireturn, 1) := by decide +kernel
theorem dX7_whole_9 : decode cX7_whole 9 = .ok (.aload_n 0, 1) := by decide +kernel
theorem dX7_whole_10 : decode cX7_whole 10 = .ok (.invokevirtual 163, 3) := by decide +kernel
theorem dX7_whole_13 : decode cX7_whole 13 = .ok (.bipush 124, 2) := by decide +kernel
theorem dX7_whole_15 : decode cX7_whole 15 = .ok (.if_icmp .ne 32, 3) := by decide +kernel
theorem dX7_whole_18 : decode cX7_whole 18 = .ok (.aload_n 0, 1) := by decide +kernel
theorem dX7_whole_19 : decode cX7_whole 19 = .ok (.dup, 1) := by decide +kernel
theorem dX7_whole_20 : decode cX7_whole 20 = .ok (.getfield 151, 3) := by decide +kernel
theorem dX7_whole_23 : decode cX7_whole 23 = .ok (.iconst 1, 1) := by decide +kernel
theorem dX7_whole_24 : decode cX7_whole 24 = .ok (.iadd, 1) := by decide +kernel
theorem dX7_whole_25 : decode cX7_whole 25 = .ok (.putfield 151, 3) := by decide +kernel
theorem dX7_whole_28 : decode cX7_whole 28 = .ok (.aload_n 0, 1) := by decide +kernel
theorem dX7_whole_29 : decode cX7_whole 29 = .ok (.invokevirtual 160, 3) := by decide +kernel
theorem dX7_whole_32 : decode cX7_whole 32 = .ok (.ifCond .ne 5, 3) := by decide +kernel
theorem dX7_whole_35 : decode cX7_whole 35 = .ok (.iconst 0, 1) := by decide +kernel
theorem dX7_whole_36 : decode cX7_whole 36 = .ok (.ireturn, 1) := by decide +kernel
theorem dX7_whole_37 : decode cX7_whole 37 = .ok (.aload_n 0, 1) := by decide +kernel
theorem dX7_whole_38 : decode cX7_whole 38 = .ok (.iconst 3, 1) := by decide +kernel
theorem dX7_whole_39 : decode cX7_whole 39 = .ok (.bipush 124, 2) := by decide +kernel
theorem dX7_whole_41 : decode cX7_whole 41 = .ok (.invokevirtual 166, 3) := by decide +kernel
theorem dX7_whole_44 : decode cX7_whole 44 = .ok (.goto (-35), 3) := by decide +kernel
theorem dX7_whole_47 : decode cX7_whole 47 = .ok (.iconst 1, 1) := by decide +kernel
theorem dX7_whole_48 : decode cX7_whole 48 = .ok (.ireturn, 1) := by decide +kernel
set_option maxRecDepth 20000 in
theorem ggX7_both_X7_compared : GoodIn wsX7_both wsX7_compared := goodIn_r _ [17, 1, 18, 19, 20, 5, 6, 7, 8, 9, 10, 11, 12, 13, 14, 15, 16, 0, 2, 3, 4, 21, 22, 23, 24, 25, 26, 27, 28, 29, 30, 31, 32, 33, 34, 35, 36, 37, 38, 39, 40, 41, 42, 43, 44, 45, 46, 47, 48, 49, 50, 51, 52, 53, 54, 55, 56, 57, 58, 59, 60, 61, 62, 63, 64, 65, 66, 67, 68, 69, 70, 71, 72, 73] rfl (by decide +kernel)
set_option maxRecDepth 20000 in
theorem gX7_both_X7_compared : GoodIn wsX7_both (wsV RX7 170 RX7 yX7_compared wsX7_compared) := goodIn_app (goodIn_r _ [2, 3, 4, 5] rfl (by decide +kernel)) ggX7_both_X7_compared
set_option maxRecDepth 20000 in
theorem ggX7_both_X7_look : GoodIn wsX7_both wsX7_look := goodIn_r _ [9, 1, 10, 50, 51, 52, 53, 54, 55, 56, 57, 58, 59, 60, 61, 62, 63, 64, 65, 66, 67, 68, 69, 70, 71, 72, 73] rfl (by decide +kernel)
set_option maxRecDepth 20000 in
theorem gX7_both_X7_look : GoodIn wsX7_both (wsV RX7 163 RX7 yX7_look wsX7_look) := goodIn_app (goodIn_r _ [6, 7, 8, 5] rfl (by decide +kernel)) ggX7_both_X7_look
set_option maxRecDepth 20000 in
theorem ggX7_both_X7_lay : GoodIn wsX7_both wsX7_lay := goodIn_r _ [14, 15, 16, 50, 51, 52, 53, 54, 55, 56, 57, 58, 59, 60, 61, 62, 63, 64, 65, 66, 67, 68, 69, 70, 71, 72, 73] rfl (by decide +kernel)
set_option maxRecDepth 20000 in
theorem gX7_both_X7_lay : GoodIn wsX7_both (wsV RX7 166 RX7 yX7_lay wsX7_lay) := goodIn_app (goodIn_r _ [11, 12, 13, 5] rfl (by decide +kernel)) ggX7_both_X7_lay
theorem dX7_both_0 : decode cX7_both 0 = .ok (.aload_n 0, 1) := by decide +kernel
theorem dX7_both_1 : decode cX7_both 1 = .ok (.invokevirtual 170, 3) := by decide +kernel
theorem dX7_both_4 : decode cX7_both 4 = .ok (.ifCond .ne 5, 3) := by decide +kernel
theorem dX7_both_7 : decode cX7_both 7 = .ok (.iconst 0, 1) := by decide +kernel
theorem dX7_both_8 : decode cX7_both 8 = .ok (.ireturn, 1) := by decide +kernel
theorem dX7_both_9 : decode cX7_both 9 = .ok (.aload_n 0, 1) := by decide +kernel
theorem dX7_both_10 : decode cX7_both 10 = .ok (.invokevirtual 163, 3) := by decide +kernel
theorem dX7_both_13 : decode cX7_both 13 = .ok (.bipush 38, 2) := by decide +kernel
theorem dX7_both_15 : decode cX7_both 15 = .ok (.if_icmp .ne 32, 3) := by decide +kernel
theorem dX7_both_18 : decode cX7_both 18 = .ok (.aload_n 0, 1) := by decide +kernel
theorem dX7_both_19 : decode cX7_both 19 = .ok (.dup, 1) := by decide +kernel
theorem dX7_both_20 : decode cX7_both 20 = .ok (.getfield 151, 3) := by decide +kernel
theorem dX7_both_23 : decode cX7_both 23 = .ok (.iconst 1, 1) := by decide +kernel
theorem dX7_both_24 : decode cX7_both 24 = .ok (.iadd, 1) := by decide +kernel
theorem dX7_both_25 : decode cX7_both 25 = .ok (.putfield 151, 3) := by decide +kernel
theorem dX7_both_28 : decode cX7_both 28 = .ok (.aload_n 0, 1) := by decide +kernel
theorem dX7_both_29 : decode cX7_both 29 = .ok (.invokevirtual 170, 3) := by decide +kernel
theorem dX7_both_32 : decode cX7_both 32 = .ok (.ifCond .ne 5, 3) := by decide +kernel
theorem dX7_both_35 : decode cX7_both 35 = .ok (.iconst 0, 1) := by decide +kernel
theorem dX7_both_36 : decode cX7_both 36 = .ok (.ireturn, 1) := by decide +kernel
theorem dX7_both_37 : decode cX7_both 37 = .ok (.aload_n 0, 1) := by decide +kernel
theorem dX7_both_38 : decode cX7_both 38 = .ok (.iconst 3, 1) := by decide +kernel
theorem dX7_both_39 : decode cX7_both 39 = .ok (.bipush 38, 2) := by decide +kernel
theorem dX7_both_41 : decode cX7_both 41 = .ok (.invokevirtual 166, 3) := by decide +kernel
theorem dX7_both_44 : decode cX7_both 44 = .ok (.goto (-35), 3) := by decide +kernel
theorem dX7_both_47 : decode cX7_both 47 = .ok (.iconst 1, 1) := by decide +kernel
theorem dX7_both_48 : decode cX7_both 48 = .ok (.ireturn, 1) := by decide +kernel
set_option maxRecDepth 20000 in
theorem ggX7_compared_X7_sum : GoodIn wsX7_compared wsX7_sum := goodIn_r _ [42, 1, 43, 44, 45, 5, 6, 7, 8, 9, 10, 11, 12, 13, 14, 15, 16, 17, 18, 19, 20, 0, 2, 3, 4, 21, 22, 23, 24, 25, 26, 27, 28, 29, 30, 31, 32, 33, 34, 35, 36, 37, 38, 39, 40, 41, 46, 47, 48, 49, 50, 51, 52, 53, 54, 55, 56, 57, 58, 59, 60, 61, 62, 63, 64, 65, 66, 67, 68, 69, 70, 71, 72, 73] rfl (by decide +kernel)
set_option maxRecDepth 20000 in
theorem gX7_compared_X7_sum : GoodIn wsX7_compared (wsV RX7 173 RX7 yX7_sum wsX7_sum) := goodIn_app (goodIn_r _ [2, 3, 4, 5] rfl (by decide +kernel)) ggX7_compared_X7_sum
set_option maxRecDepth 20000 in
theorem ggX7_compared_X7_look : GoodIn wsX7_compared wsX7_look := goodIn_r _ [9, 1, 10, 50, 51, 52, 53, 54, 55, 56, 57, 58, 59, 60, 61, 62, 63, 64, 65, 66, 67, 68, 69, 70, 71, 72, 73] rfl (by decide +kernel)
set_option maxRecDepth 20000 in
theorem gX7_compared_X7_look : GoodIn wsX7_compared (wsV RX7 163 RX7 yX7_look wsX7_look) := goodIn_app (goodIn_r _ [6, 7, 8, 5] rfl (by decide +kernel)) ggX7_compared_X7_look
set_option maxRecDepth 20000 in
theorem ggX7_compared_X7_lay : GoodIn wsX7_compared wsX7_lay := goodIn_r _ [14, 15, 16, 50, 51, 52, 53, 54, 55, 56, 57, 58, 59, 60, 61, 62, 63, 64, 65, 66, 67, 68, 69, 70, 71, 72, 73] rfl (by decide +kernel)
set_option maxRecDepth 20000 in
theorem gX7_compared_X7_lay : GoodIn wsX7_compared (wsV RX7 166 RX7 yX7_lay wsX7_lay) := goodIn_app (goodIn_r _ [11, 12, 13, 5] rfl (by decide +kernel)) ggX7_compared_X7_lay
theorem dX7_compared_0 : decode cX7_compared 0 = .ok (.aload_n 0, 1) := by decide +kernel
theorem dX7_compared_1 : decode cX7_compared 1 = .ok (.invokevirtual 173, 3) := by decide +kernel
theorem dX7_compared_4 : decode cX7_compared 4 = .ok (.ifCond .ne 5, 3) := by decide +kernel
theorem dX7_compared_7 : decode cX7_compared 7 = .ok (.iconst 0, 1) := by decide +kernel
theorem dX7_compared_8 : decode cX7_compared 8 = .ok (.ireturn, 1) := by decide +kernel
theorem dX7_compared_9 : decode cX7_compared 9 = .ok (.aload_n 0, 1) := by decide +kernel
theorem dX7_compared_10 : decode cX7_compared 10 = .ok (.invokevirtual 163, 3) := by decide +kernel
theorem dX7_compared_13 : decode cX7_compared 13 = .ok (.istore_n 1, 1) := by decide +kernel
theorem dX7_compared_14 : decode cX7_compared 14 = .ok (.iload_n 1, 1) := by decide +kernel
theorem dX7_compared_15 : decode cX7_compared 15 = .ok (.bipush 60, 2) := by decide +kernel
theorem dX7_compared_17 : decode cX7_compared 17 = .ok (.if_icmp .eq 17, 3) := by decide +kernel
theorem dX7_compared_20 : decode cX7_compared 20 = .ok (.iload_n 1, 1) := by decide +kernel
theorem dX7_compared_21 : decode cX7_compared 21 = .ok (.bipush 61, 2) := by decide +kernel
theorem dX7_compared_23 : decode cX7_compared 23 = .ok (.if_icmp .eq 11, 3) := by decide +kernel
theorem dX7_compared_26 : decode cX7_compared 26 = .ok (.iload_n 1, 1) := by decide +kernel
theorem dX7_compared_27 : decode cX7_compared 27 = .ok (.bipush 62, 2) := by decide +kernel
theorem dX7_compared_29 : decode cX7_compared 29 = .ok (.if_icmp .eq 5, 3) := by decide +kernel
theorem dX7_compared_32 : decode cX7_compared 32 = .ok (.iconst 1, 1) := by decide +kernel
theorem dX7_compared_33 : decode cX7_compared 33 = .ok (.ireturn, 1) := by decide +kernel
theorem dX7_compared_34 : decode cX7_compared 34 = .ok (.aload_n 0, 1) := by decide +kernel
theorem dX7_compared_35 : decode cX7_compared 35 = .ok (.dup, 1) := by decide +kernel
theorem dX7_compared_36 : decode cX7_compared 36 = .ok (.getfield 151, 3) := by decide +kernel
theorem dX7_compared_39 : decode cX7_compared 39 = .ok (.iconst 1, 1) := by decide +kernel
theorem dX7_compared_40 : decode cX7_compared 40 = .ok (.iadd, 1) := by decide +kernel
theorem dX7_compared_41 : decode cX7_compared 41 = .ok (.putfield 151, 3) := by decide +kernel
theorem dX7_compared_44 : decode cX7_compared 44 = .ok (.aload_n 0, 1) := by decide +kernel
theorem dX7_compared_45 : decode cX7_compared 45 = .ok (.invokevirtual 173, 3) := by decide +kernel
theorem dX7_compared_48 : decode cX7_compared 48 = .ok (.ifCond .ne 5, 3) := by decide +kernel
theorem dX7_compared_51 : decode cX7_compared 51 = .ok (.iconst 0, 1) := by decide +kernel
theorem dX7_compared_52 : decode cX7_compared 52 = .ok (.ireturn, 1) := by decide +kernel
theorem dX7_compared_53 : decode cX7_compared 53 = .ok (.aload_n 0, 1) := by decide +kernel
theorem dX7_compared_54 : decode cX7_compared 54 = .ok (.iconst 3, 1) := by decide +kernel
theorem dX7_compared_55 : decode cX7_compared 55 = .ok (.iload_n 1, 1) := by decide +kernel
theorem dX7_compared_56 : decode cX7_compared 56 = .ok (.invokevirtual 166, 3) := by decide +kernel
theorem dX7_compared_59 : decode cX7_compared 59 = .ok (.iconst 1, 1) := by decide +kernel
theorem dX7_compared_60 : decode cX7_compared 60 = .ok (.ireturn, 1) := by decide +kernel
set_option maxRecDepth 20000 in
theorem ggX7_sum_X7_product : GoodIn wsX7_sum wsX7_product := goodIn_r _ [45, 1, 39, 40, 41, 5, 6, 7, 8, 9, 10, 11, 12, 13, 14, 15, 16, 17, 18, 19, 20, 21, 22, 23, 24, 25, 26, 27, 28, 29, 30, 31, 32, 33, 34, 35, 36, 37, 38, 42, 43, 44, 0, 2, 3, 4, 46, 47, 48, 49, 50, 51, 52, 53, 54, 55, 56, 57, 58, 59, 60, 61, 62, 63, 64, 65, 66, 67, 68, 69, 70, 71, 72, 73] rfl (by decide +kernel)
set_option maxRecDepth 20000 in
theorem gX7_sum_X7_product : GoodIn wsX7_sum (wsV RX7 176 RX7 yX7_product wsX7_product) := goodIn_app (goodIn_r _ [2, 3, 4, 5] rfl (by decide +kernel)) ggX7_sum_X7_product
set_option maxRecDepth 20000 in
theorem ggX7_sum_X7_look : GoodIn wsX7_sum wsX7_look := goodIn_r _ [9, 1, 10, 50, 51, 52, 53, 54, 55, 56, 57, 58, 59, 60, 61, 62, 63, 64, 65, 66, 67, 68, 69, 70, 71, 72, 73] rfl (by decide +kernel)
set_option maxRecDepth 20000 in
theorem gX7_sum_X7_look : GoodIn wsX7_sum (wsV RX7 163 RX7 yX7_look wsX7_look) := goodIn_app (goodIn_r _ [6, 7, 8, 5] rfl (by decide +kernel)) ggX7_sum_X7_look
set_option maxRecDepth 20000 in
theorem ggX7_sum_X7_lay : GoodIn wsX7_sum wsX7_lay := goodIn_r _ [14, 15, 16, 50, 51, 52, 53, 54, 55, 56, 57, 58, 59, 60, 61, 62, 63, 64, 65, 66, 67, 68, 69, 70, 71, 72, 73] rfl (by decide +kernel)
set_option maxRecDepth 20000 in
theorem gX7_sum_X7_lay : GoodIn wsX7_sum (wsV RX7 166 RX7 yX7_lay wsX7_lay) := goodIn_app (goodIn_r _ [11, 12, 13, 5] rfl (by decide +kernel)) ggX7_sum_X7_lay
theorem dX7_sum_0 : decode cX7_sum 0 = .ok (.aload_n 0, 1) := by decide +kernel
theorem dX7_sum_1 : decode cX7_sum 1 = .ok (.invokevirtual 176, 3) := by decide +kernel
theorem dX7_sum_4 : decode cX7_sum 4 = .ok (.ifCond .ne 5, 3) := by decide +kernel
theorem dX7_sum_7 : decode cX7_sum 7 = .ok (.iconst 0, 1) := by decide +kernel
theorem dX7_sum_8 : decode cX7_sum 8 = .ok (.ireturn, 1) := by decide +kernel
theorem dX7_sum_9 : decode cX7_sum 9 = .ok (.aload_n 0, 1) := by decide +kernel
theorem dX7_sum_10 : decode cX7_sum 10 = .ok (.invokevirtual 163, 3) := by decide +kernel
theorem dX7_sum_13 : decode cX7_sum 13 = .ok (.bipush 43, 2) := by decide +kernel
theorem dX7_sum_15 : decode cX7_sum 15 = .ok (.if_icmp .eq 12, 3) := by decide +kernel
theorem dX7_sum_18 : decode cX7_sum 18 = .ok (.aload_n 0, 1) := by decide +kernel
theorem dX7_sum_19 : decode cX7_sum 19 = .ok (.invokevirtual 163, 3) := by decide +kernel
theorem dX7_sum_22 : decode cX7_sum 22 = .ok (.bipush 45, 2) := by decide +kernel
theorem dX7_sum_24 : decode cX7_sum 24 = .ok (.if_icmp .ne 36, 3) := by decide +kernel
theorem dX7_sum_27 : decode cX7_sum 27 = .ok (.aload_n 0, 1) := by decide +kernel
theorem dX7_sum_28 : decode cX7_sum 28 = .ok (.invokevirtual 163, 3) := by decide +kernel
theorem dX7_sum_31 : decode cX7_sum 31 = .ok (.istore_n 1, 1) := by decide +kernel
theorem dX7_sum_32 : decode cX7_sum 32 = .ok (.aload_n 0, 1) := by decide +kernel
theorem dX7_sum_33 : decode cX7_sum 33 = .ok (.dup, 1) := by decide +kernel
theorem dX7_sum_34 : decode cX7_sum 34 = .ok (.getfield 151, 3) := by decide +kernel
theorem dX7_sum_37 : decode cX7_sum 37 = .ok (.iconst 1, 1) := by decide +kernel
theorem dX7_sum_38 : decode cX7_sum 38 = .ok (.iadd, 1) := by decide +kernel
theorem dX7_sum_39 : decode cX7_sum 39 = .ok (.putfield 151, 3) := by decide +kernel
theorem dX7_sum_42 : decode cX7_sum 42 = .ok (.aload_n 0, 1) := by decide +kernel
theorem dX7_sum_43 : decode cX7_sum 43 = .ok (.invokevirtual 176, 3) := by decide +kernel
theorem dX7_sum_46 : decode cX7_sum 46 = .ok (.ifCond .ne 5, 3) := by decide +kernel
theorem dX7_sum_49 : decode cX7_sum 49 = .ok (.iconst 0, 1) := by decide +kernel
theorem dX7_sum_50 : decode cX7_sum 50 = .ok (.ireturn, 1) := by decide +kernel
theorem dX7_sum_51 : decode cX7_sum 51 = .ok (.aload_n 0, 1) := by decide +kernel
theorem dX7_sum_52 : decode cX7_sum 52 = .ok (.iconst 3, 1) := by decide +kernel
theorem dX7_sum_53 : decode cX7_sum 53 = .ok (.iload_n 1, 1) := by decide +kernel
theorem dX7_sum_54 : decode cX7_sum 54 = .ok (.invokevirtual 166, 3) := by decide +kernel
theorem dX7_sum_57 : decode cX7_sum 57 = .ok (.goto (-48), 3) := by decide +kernel
theorem dX7_sum_60 : decode cX7_sum 60 = .ok (.iconst 1, 1) := by decide +kernel
theorem dX7_sum_61 : decode cX7_sum 61 = .ok (.ireturn, 1) := by decide +kernel
set_option maxRecDepth 20000 in
theorem ggX7_product_X7_one : GoodIn wsX7_product wsX7_one := goodIn_r _ [25, 1, 26, 6, 7, 8, 5, 9, 10, 27, 28, 29, 30, 31, 11, 12, 13, 14, 15, 16, 32, 33, 34, 35, 36, 37, 38, 2, 3, 4, 39, 40, 41, 17, 18, 19, 20, 21, 22, 23, 24, 0, 42, 43, 44, 45, 46, 47, 48, 49, 50, 51, 52, 53, 54, 55, 56, 57, 58, 59, 60, 61, 62, 63, 64, 65, 66, 67, 68, 69, 70, 71, 72, 73] rfl (by decide +kernel)
set_option maxRecDepth 20000 in
theorem gX7_product_X7_one : GoodIn wsX7_product (wsV RX7 179 RX7 yX7_one wsX7_one) := goodIn_app (goodIn_r _ [2, 3, 4, 5] rfl (by decide +kernel)) ggX7_product_X7_one
set_option maxRecDepth 20000 in
theorem ggX7_product_X7_look : GoodIn wsX7_product wsX7_look := goodIn_r _ [9, 1, 10, 50, 51, 52, 53, 54, 55, 56, 57, 58, 59, 60, 61, 62, 63, 64, 65, 66, 67, 68, 69, 70, 71, 72, 73] rfl (by decide +kernel)
set_option maxRecDepth 20000 in
theorem gX7_product_X7_look : GoodIn wsX7_product (wsV RX7 163 RX7 yX7_look wsX7_look) := goodIn_app (goodIn_r _ [6, 7, 8, 5] rfl (by decide +kernel)) ggX7_product_X7_look
set_option maxRecDepth 20000 in
theorem ggX7_product_X7_lay : GoodIn wsX7_product wsX7_lay := goodIn_r _ [14, 15, 16, 50, 51, 52, 53, 54, 55, 56, 57, 58, 59, 60, 61, 62, 63, 64, 65, 66, 67, 68, 69, 70, 71, 72, 73] rfl (by decide +kernel)
set_option maxRecDepth 20000 in
theorem gX7_product_X7_lay : GoodIn wsX7_product (wsV RX7 166 RX7 yX7_lay wsX7_lay) := goodIn_app (goodIn_r _ [11, 12, 13, 5] rfl (by decide +kernel)) ggX7_product_X7_lay
theorem dX7_product_0 : decode cX7_product 0 = .ok (.aload_n 0, 1) := by decide +kernel
theorem dX7_product_1 : decode cX7_product 1 = .ok (.invokevirtual 179, 3) := by decide +kernel
theorem dX7_product_4 : decode cX7_product 4 = .ok (.ifCond .ne 5, 3) := by decide +kernel
theorem dX7_product_7 : decode cX7_product 7 = .ok (.iconst 0, 1) := by decide +kernel
theorem dX7_product_8 : decode cX7_product 8 = .ok (.ireturn, 1) := by decide +kernel
theorem dX7_product_9 : decode cX7_product 9 = .ok (.aload_n 0, 1) := by decide +kernel
theorem dX7_product_10 : decode cX7_product 10 = .ok (.invokevirtual 163, 3) := by decide +kernel
theorem dX7_product_13 : decode cX7_product 13 = .ok (.bipush 42, 2) := by decide +kernel
theorem dX7_product_15 : decode cX7_product 15 = .ok (.if_icmp .eq 21, 3) := by decide +kernel
theorem dX7_product_18 : decode cX7_product 18 = .ok (.aload_n 0, 1) := by decide +kernel
theorem dX7_product_19 : decode cX7_product 19 = .ok (.invokevirtual 163, 3) := by decide +kernel
theorem dX7_product_22 : decode cX7_product 22 = .ok (.bipush 47, 2) := by decide +kernel
theorem dX7_product_24 : decode cX7_product 24 = .ok (.if_icmp .eq 12, 3) := by decide +kernel
theorem dX7_product_27 : decode cX7_product 27 = .ok (.aload_n 0, 1) := by decide +kernel
theorem dX7_product_28 : decode cX7_product 28 = .ok (.invokevirtual 163, 3) := by decide +kernel
