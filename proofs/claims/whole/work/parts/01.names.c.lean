theorem dX2_readsDenied_2 : decode cX2_readsDenied 2 = .ok (.invokevirtual 50, 3) := by decide +kernel
theorem dX2_readsDenied_5 : decode cX2_readsDenied 5 = .ok (.ifCond .ne 5, 3) := by decide +kernel
theorem dX2_readsDenied_8 : decode cX2_readsDenied 8 = .ok (.iconst 0, 1) := by decide +kernel
theorem dX2_readsDenied_9 : decode cX2_readsDenied 9 = .ok (.ireturn, 1) := by decide +kernel
theorem dX2_readsDenied_10 : decode cX2_readsDenied 10 = .ok (.aload_n 0, 1) := by decide +kernel
theorem dX2_readsDenied_11 : decode cX2_readsDenied 11 = .ok (.bipush (-33), 2) := by decide +kernel
theorem dX2_readsDenied_13 : decode cX2_readsDenied 13 = .ok (.invokevirtual 61, 3) := by decide +kernel
theorem dX2_readsDenied_16 : decode cX2_readsDenied 16 = .ok (.iconst 1, 1) := by decide +kernel
theorem dX2_readsDenied_17 : decode cX2_readsDenied 17 = .ok (.ireturn, 1) := by decide +kernel
set_option maxRecDepth 20000 in
theorem ggX2_readsInside_X2_readsLevel : GoodIn wsX2_readsInside wsX2_readsLevel := goodIn_r _ [126, 1, 13, 14, 15, 5, 2, 3, 4, 127, 128, 129, 130, 6, 7, 8, 9, 10, 11, 16, 17, 18, 19, 20, 21, 12, 22, 23, 24, 25, 26, 27, 28, 29, 30, 31, 32, 33, 34, 35, 36, 37, 38, 39, 40, 41, 42, 43, 44, 45, 46, 47, 48, 49, 50, 51, 52, 53, 54, 55, 56, 57, 58, 59, 60, 61, 62, 63, 64, 65, 66, 67, 68, 69, 70, 71, 72, 73, 74, 75, 76, 77, 78, 79, 80, 81, 82, 83, 84, 85, 86, 87, 88, 89, 90, 91, 92, 93, 94, 95, 96, 97, 98, 99, 100, 101, 102, 103, 104, 105, 106, 107, 108, 109, 110, 111, 112, 113, 114, 115, 116, 117, 118, 119, 120, 121, 122, 123, 124, 125, 0, 131, 132, 133, 134, 135, 136] rfl (by decide +kernel)
set_option maxRecDepth 20000 in
theorem gX2_readsInside_X2_readsLevel : GoodIn wsX2_readsInside (wsV RX2 42 RX2 yX2_readsLevel wsX2_readsLevel) := goodIn_app (goodIn_r _ [2, 3, 4, 5] rfl (by decide +kernel)) ggX2_readsInside_X2_readsLevel
set_option maxRecDepth 20000 in
theorem ggX2_readsInside_X2_sign : GoodIn wsX2_readsInside wsX2_sign := goodIn_r _ [9, 1, 10, 11, 131, 132, 133, 134, 135, 136] rfl (by decide +kernel)
set_option maxRecDepth 20000 in
theorem gX2_readsInside_X2_sign : GoodIn wsX2_readsInside (wsV RX2 57 RX2 yX2_sign wsX2_sign) := goodIn_app (goodIn_r _ [6, 7, 8, 5] rfl (by decide +kernel)) ggX2_readsInside_X2_sign
theorem dX2_readsInside_0 : decode cX2_readsInside 0 = .ok (.aload_n 0, 1) := by decide +kernel
theorem dX2_readsInside_1 : decode cX2_readsInside 1 = .ok (.iconst 0, 1) := by decide +kernel
theorem dX2_readsInside_2 : decode cX2_readsInside 2 = .ok (.iload_n 1, 1) := by decide +kernel
theorem dX2_readsInside_3 : decode cX2_readsInside 3 = .ok (.invokevirtual 42, 3) := by decide +kernel
theorem dX2_readsInside_6 : decode cX2_readsInside 6 = .ok (.ifCond .eq 12, 3) := by decide +kernel
theorem dX2_readsInside_9 : decode cX2_readsInside 9 = .ok (.aload_n 0, 1) := by decide +kernel
theorem dX2_readsInside_10 : decode cX2_readsInside 10 = .ok (.invokevirtual 57, 3) := by decide +kernel
theorem dX2_readsInside_13 : decode cX2_readsInside 13 = .ok (.bipush 41, 2) := by decide +kernel
theorem dX2_readsInside_15 : decode cX2_readsInside 15 = .ok (.if_icmp .eq 5, 3) := by decide +kernel
theorem dX2_readsInside_18 : decode cX2_readsInside 18 = .ok (.iconst 0, 1) := by decide +kernel
theorem dX2_readsInside_19 : decode cX2_readsInside 19 = .ok (.ireturn, 1) := by decide +kernel
theorem dX2_readsInside_20 : decode cX2_readsInside 20 = .ok (.aload_n 0, 1) := by decide +kernel
theorem dX2_readsInside_21 : decode cX2_readsInside 21 = .ok (.dup, 1) := by decide +kernel
theorem dX2_readsInside_22 : decode cX2_readsInside 22 = .ok (.getfield 24, 3) := by decide +kernel
theorem dX2_readsInside_25 : decode cX2_readsInside 25 = .ok (.iconst 1, 1) := by decide +kernel
theorem dX2_readsInside_26 : decode cX2_readsInside 26 = .ok (.iadd, 1) := by decide +kernel
theorem dX2_readsInside_27 : decode cX2_readsInside 27 = .ok (.putfield 24, 3) := by decide +kernel
theorem dX2_readsInside_30 : decode cX2_readsInside 30 = .ok (.iconst 1, 1) := by decide +kernel
theorem dX2_readsInside_31 : decode cX2_readsInside 31 = .ok (.ireturn, 1) := by decide +kernel
set_option maxRecDepth 20000 in
theorem ggX2_readsNumber_X2_sign : GoodIn wsX2_readsNumber wsX2_sign := goodIn_r _ [6, 1, 7, 8, 18, 19, 20, 21, 22, 23] rfl (by decide +kernel)
set_option maxRecDepth 20000 in
theorem gX2_readsNumber_X2_sign : GoodIn wsX2_readsNumber (wsV RX2 57 RX2 yX2_sign wsX2_sign) := goodIn_app (goodIn_r _ [2, 3, 4, 5] rfl (by decide +kernel)) ggX2_readsNumber_X2_sign
set_option maxRecDepth 20000 in
theorem ggX2_readsNumber_X2_isDigit : GoodIn wsX2_readsNumber wsX2_isDigit := goodIn_r _ [11] rfl (by decide +kernel)
set_option maxRecDepth 20000 in
theorem gX2_readsNumber_X2_isDigit : GoodIn wsX2_readsNumber (va_wsS RX2 65 yX2_isDigit wsX2_isDigit) := goodIn_app (goodIn_r _ [9, 10, 5] rfl (by decide +kernel)) ggX2_readsNumber_X2_isDigit
set_option maxRecDepth 20000 in
theorem ggX2_readsNumber_X2_adds : GoodIn wsX2_readsNumber wsX2_adds := goodIn_r _ [15, 16, 17, 18, 19, 20, 21, 22, 23] rfl (by decide +kernel)
set_option maxRecDepth 20000 in
theorem gX2_readsNumber_X2_adds : GoodIn wsX2_readsNumber (wsV RX2 61 RX2 yX2_adds wsX2_adds) := goodIn_app (goodIn_r _ [12, 13, 14, 5] rfl (by decide +kernel)) ggX2_readsNumber_X2_adds
theorem dX2_readsNumber_0 : decode cX2_readsNumber 0 = .ok (.iconst 0, 1) := by decide +kernel
theorem dX2_readsNumber_1 : decode cX2_readsNumber 1 = .ok (.istore_n 1, 1) := by decide +kernel
theorem dX2_readsNumber_2 : decode cX2_readsNumber 2 = .ok (.iconst 0, 1) := by decide +kernel
theorem dX2_readsNumber_3 : decode cX2_readsNumber 3 = .ok (.istore_n 2, 1) := by decide +kernel
theorem dX2_readsNumber_4 : decode cX2_readsNumber 4 = .ok (.iload_n 2, 1) := by decide +kernel
theorem dX2_readsNumber_5 : decode cX2_readsNumber 5 = .ok (.iconst 4, 1) := by decide +kernel
theorem dX2_readsNumber_6 : decode cX2_readsNumber 6 = .ok (.if_icmp .ge 42, 3) := by decide +kernel
theorem dX2_readsNumber_9 : decode cX2_readsNumber 9 = .ok (.aload_n 0, 1) := by decide +kernel
theorem dX2_readsNumber_10 : decode cX2_readsNumber 10 = .ok (.invokevirtual 57, 3) := by decide +kernel
theorem dX2_readsNumber_13 : decode cX2_readsNumber 13 = .ok (.invokestatic 65, 3) := by decide +kernel
theorem dX2_readsNumber_16 : decode cX2_readsNumber 16 = .ok (.ifCond .eq 32, 3) := by decide +kernel
theorem dX2_readsNumber_19 : decode cX2_readsNumber 19 = .ok (.iload_n 1, 1) := by decide +kernel
theorem dX2_readsNumber_20 : decode cX2_readsNumber 20 = .ok (.bipush 10, 2) := by decide +kernel
theorem dX2_readsNumber_22 : decode cX2_readsNumber 22 = .ok (.imul, 1) := by decide +kernel
theorem dX2_readsNumber_23 : decode cX2_readsNumber 23 = .ok (.aload_n 0, 1) := by decide +kernel
theorem dX2_readsNumber_24 : decode cX2_readsNumber 24 = .ok (.invokevirtual 57, 3) := by decide +kernel
theorem dX2_readsNumber_27 : decode cX2_readsNumber 27 = .ok (.iadd, 1) := by decide +kernel
theorem dX2_readsNumber_28 : decode cX2_readsNumber 28 = .ok (.bipush 48, 2) := by decide +kernel
theorem dX2_readsNumber_30 : decode cX2_readsNumber 30 = .ok (.isub, 1) := by decide +kernel
theorem dX2_readsNumber_31 : decode cX2_readsNumber 31 = .ok (.istore_n 1, 1) := by decide +kernel
theorem dX2_readsNumber_32 : decode cX2_readsNumber 32 = .ok (.aload_n 0, 1) := by decide +kernel
theorem dX2_readsNumber_33 : decode cX2_readsNumber 33 = .ok (.dup, 1) := by decide +kernel
theorem dX2_readsNumber_34 : decode cX2_readsNumber 34 = .ok (.getfield 24, 3) := by decide +kernel
theorem dX2_readsNumber_37 : decode cX2_readsNumber 37 = .ok (.iconst 1, 1) := by decide +kernel
theorem dX2_readsNumber_38 : decode cX2_readsNumber 38 = .ok (.iadd, 1) := by decide +kernel
theorem dX2_readsNumber_39 : decode cX2_readsNumber 39 = .ok (.putfield 24, 3) := by decide +kernel
theorem dX2_readsNumber_42 : decode cX2_readsNumber 42 = .ok (.iinc 2 1, 3) := by decide +kernel
theorem dX2_readsNumber_45 : decode cX2_readsNumber 45 = .ok (.goto (-41), 3) := by decide +kernel
theorem dX2_readsNumber_48 : decode cX2_readsNumber 48 = .ok (.aload_n 0, 1) := by decide +kernel
theorem dX2_readsNumber_49 : decode cX2_readsNumber 49 = .ok (.iload_n 1, 1) := by decide +kernel
theorem dX2_readsNumber_50 : decode cX2_readsNumber 50 = .ok (.invokevirtual 61, 3) := by decide +kernel
theorem dX2_readsNumber_53 : decode cX2_readsNumber 53 = .ok (.return_, 1) := by decide +kernel
theorem dX2_sign_0 : decode cX2_sign 0 = .ok (.aload_n 0, 1) := by decide +kernel
theorem dX2_sign_1 : decode cX2_sign 1 = .ok (.getfield 24, 3) := by decide +kernel
theorem dX2_sign_4 : decode cX2_sign 4 = .ok (.aload_n 0, 1) := by decide +kernel
theorem dX2_sign_5 : decode cX2_sign 5 = .ok (.getfield 37, 3) := by decide +kernel
theorem dX2_sign_8 : decode cX2_sign 8 = .ok (.if_icmp .ge 27, 3) := by decide +kernel
theorem dX2_sign_11 : decode cX2_sign 11 = .ok (.aload_n 0, 1) := by decide +kernel
theorem dX2_sign_12 : decode cX2_sign 12 = .ok (.getfield 24, 3) := by decide +kernel
theorem dX2_sign_15 : decode cX2_sign 15 = .ok (.aload_n 0, 1) := by decide +kernel
theorem dX2_sign_16 : decode cX2_sign 16 = .ok (.getfield 9, 3) := by decide +kernel
theorem dX2_sign_19 : decode cX2_sign 19 = .ok (.arraylength, 1) := by decide +kernel
theorem dX2_sign_20 : decode cX2_sign 20 = .ok (.if_icmp .ge 15, 3) := by decide +kernel
theorem dX2_sign_23 : decode cX2_sign 23 = .ok (.aload_n 0, 1) := by decide +kernel
theorem dX2_sign_24 : decode cX2_sign 24 = .ok (.getfield 9, 3) := by decide +kernel
theorem dX2_sign_27 : decode cX2_sign 27 = .ok (.aload_n 0, 1) := by decide +kernel
theorem dX2_sign_28 : decode cX2_sign 28 = .ok (.getfield 24, 3) := by decide +kernel
theorem dX2_sign_31 : decode cX2_sign 31 = .ok (.iaload, 1) := by decide +kernel
theorem dX2_sign_32 : decode cX2_sign 32 = .ok (.goto 4, 3) := by decide +kernel
theorem dX2_sign_35 : decode cX2_sign 35 = .ok (.iconst (-1), 1) := by decide +kernel
theorem dX2_sign_36 : decode cX2_sign 36 = .ok (.ireturn, 1) := by decide +kernel
set_option maxRecDepth 20000 in
theorem ggX2_isJoining_X2_sign : GoodIn wsX2_isJoining wsX2_sign := goodIn_r _ [5, 6, 7, 8, 9, 10, 11, 12, 13, 14] rfl (by decide +kernel)
set_option maxRecDepth 20000 in
theorem gX2_isJoining_X2_sign : GoodIn wsX2_isJoining (wsV RX2 57 RX2 yX2_sign wsX2_sign) := goodIn_app (goodIn_r _ [1, 2, 3, 4] rfl (by decide +kernel)) ggX2_isJoining_X2_sign
theorem dX2_isJoining_0 : decode cX2_isJoining 0 = .ok (.aload_n 0, 1) := by decide +kernel
theorem dX2_isJoining_1 : decode cX2_isJoining 1 = .ok (.invokevirtual 57, 3) := by decide +kernel
theorem dX2_isJoining_4 : decode cX2_isJoining 4 = .ok (.istore_n 2, 1) := by decide +kernel
theorem dX2_isJoining_5 : decode cX2_isJoining 5 = .ok (.iload_n 1, 1) := by decide +kernel
theorem dX2_isJoining_6 : decode cX2_isJoining 6 = .ok (.tableswitch 96 0 3 #[30, 42, 54, 78], 30) := by decide +kernel
theorem dX2_isJoining_36 : decode cX2_isJoining 36 = .ok (.iload_n 2, 1) := by decide +kernel
theorem dX2_isJoining_37 : decode cX2_isJoining 37 = .ok (.bipush 124, 2) := by decide +kernel
theorem dX2_isJoining_39 : decode cX2_isJoining 39 = .ok (.if_icmp .ne 7, 3) := by decide +kernel
theorem dX2_isJoining_42 : decode cX2_isJoining 42 = .ok (.iconst 1, 1) := by decide +kernel
theorem dX2_isJoining_43 : decode cX2_isJoining 43 = .ok (.goto 4, 3) := by decide +kernel
theorem dX2_isJoining_46 : decode cX2_isJoining 46 = .ok (.iconst 0, 1) := by decide +kernel
theorem dX2_isJoining_47 : decode cX2_isJoining 47 = .ok (.ireturn, 1) := by decide +kernel
theorem dX2_isJoining_48 : decode cX2_isJoining 48 = .ok (.iload_n 2, 1) := by decide +kernel
theorem dX2_isJoining_49 : decode cX2_isJoining 49 = .ok (.bipush 38, 2) := by decide +kernel
theorem dX2_isJoining_51 : decode cX2_isJoining 51 = .ok (.if_icmp .ne 7, 3) := by decide +kernel
theorem dX2_isJoining_54 : decode cX2_isJoining 54 = .ok (.iconst 1, 1) := by decide +kernel
theorem dX2_isJoining_55 : decode cX2_isJoining 55 = .ok (.goto 4, 3) := by decide +kernel
theorem dX2_isJoining_58 : decode cX2_isJoining 58 = .ok (.iconst 0, 1) := by decide +kernel
theorem dX2_isJoining_59 : decode cX2_isJoining 59 = .ok (.ireturn, 1) := by decide +kernel
theorem dX2_isJoining_60 : decode cX2_isJoining 60 = .ok (.iload_n 2, 1) := by decide +kernel
theorem dX2_isJoining_61 : decode cX2_isJoining 61 = .ok (.bipush 60, 2) := by decide +kernel
theorem dX2_isJoining_63 : decode cX2_isJoining 63 = .ok (.if_icmp .eq 15, 3) := by decide +kernel
theorem dX2_isJoining_66 : decode cX2_isJoining 66 = .ok (.iload_n 2, 1) := by decide +kernel
theorem dX2_isJoining_67 : decode cX2_isJoining 67 = .ok (.bipush 61, 2) := by decide +kernel
theorem dX2_isJoining_69 : decode cX2_isJoining 69 = .ok (.if_icmp .eq 9, 3) := by decide +kernel
theorem dX2_isJoining_72 : decode cX2_isJoining 72 = .ok (.iload_n 2, 1) := by decide +kernel
theorem dX2_isJoining_73 : decode cX2_isJoining 73 = .ok (.bipush 62, 2) := by decide +kernel
theorem dX2_isJoining_75 : decode cX2_isJoining 75 = .ok (.if_icmp .ne 7, 3) := by decide +kernel
theorem dX2_isJoining_78 : decode cX2_isJoining 78 = .ok (.iconst 1, 1) := by decide +kernel
theorem dX2_isJoining_79 : decode cX2_isJoining 79 = .ok (.goto 4, 3) := by decide +kernel
theorem dX2_isJoining_82 : decode cX2_isJoining 82 = .ok (.iconst 0, 1) := by decide +kernel
theorem dX2_isJoining_83 : decode cX2_isJoining 83 = .ok (.ireturn, 1) := by decide +kernel
theorem dX2_isJoining_84 : decode cX2_isJoining 84 = .ok (.iload_n 2, 1) := by decide +kernel
theorem dX2_isJoining_85 : decode cX2_isJoining 85 = .ok (.bipush 43, 2) := by decide +kernel
theorem dX2_isJoining_87 : decode cX2_isJoining 87 = .ok (.if_icmp .eq 9, 3) := by decide +kernel
theorem dX2_isJoining_90 : decode cX2_isJoining 90 = .ok (.iload_n 2, 1) := by decide +kernel
theorem dX2_isJoining_91 : decode cX2_isJoining 91 = .ok (.bipush 45, 2) := by decide +kernel
theorem dX2_isJoining_93 : decode cX2_isJoining 93 = .ok (.if_icmp .ne 7, 3) := by decide +kernel
theorem dX2_isJoining_96 : decode cX2_isJoining 96 = .ok (.iconst 1, 1) := by decide +kernel
theorem dX2_isJoining_97 : decode cX2_isJoining 97 = .ok (.goto 4, 3) := by decide +kernel
theorem dX2_isJoining_100 : decode cX2_isJoining 100 = .ok (.iconst 0, 1) := by decide +kernel
theorem dX2_isJoining_101 : decode cX2_isJoining 101 = .ok (.ireturn, 1) := by decide +kernel
theorem dX2_isJoining_102 : decode cX2_isJoining 102 = .ok (.iload_n 2, 1) := by decide +kernel
theorem dX2_isJoining_103 : decode cX2_isJoining 103 = .ok (.bipush 42, 2) := by decide +kernel
theorem dX2_isJoining_105 : decode cX2_isJoining 105 = .ok (.if_icmp .eq 15, 3) := by decide +kernel
theorem dX2_isJoining_108 : decode cX2_isJoining 108 = .ok (.iload_n 2, 1) := by decide +kernel
theorem dX2_isJoining_109 : decode cX2_isJoining 109 = .ok (.bipush 47, 2) := by decide +kernel
theorem dX2_isJoining_111 : decode cX2_isJoining 111 = .ok (.if_icmp .eq 9, 3) := by decide +kernel
theorem dX2_isJoining_114 : decode cX2_isJoining 114 = .ok (.iload_n 2, 1) := by decide +kernel
theorem dX2_isJoining_115 : decode cX2_isJoining 115 = .ok (.bipush 37, 2) := by decide +kernel
theorem dX2_isJoining_117 : decode cX2_isJoining 117 = .ok (.if_icmp .ne 7, 3) := by decide +kernel
theorem dX2_isJoining_120 : decode cX2_isJoining 120 = .ok (.iconst 1, 1) := by decide +kernel
theorem dX2_isJoining_121 : decode cX2_isJoining 121 = .ok (.goto 4, 3) := by decide +kernel
theorem dX2_isJoining_124 : decode cX2_isJoining 124 = .ok (.iconst 0, 1) := by decide +kernel
theorem dX2_isJoining_125 : decode cX2_isJoining 125 = .ok (.ireturn, 1) := by decide +kernel
theorem dX2_isDigit_0 : decode cX2_isDigit 0 = .ok (.iload_n 0, 1) := by decide +kernel
theorem dX2_isDigit_1 : decode cX2_isDigit 1 = .ok (.bipush 48, 2) := by decide +kernel
theorem dX2_isDigit_3 : decode cX2_isDigit 3 = .ok (.if_icmp .lt 13, 3) := by decide +kernel
theorem dX2_isDigit_6 : decode cX2_isDigit 6 = .ok (.iload_n 0, 1) := by decide +kernel
theorem dX2_isDigit_7 : decode cX2_isDigit 7 = .ok (.bipush 57, 2) := by decide +kernel
theorem dX2_isDigit_9 : decode cX2_isDigit 9 = .ok (.if_icmp .gt 7, 3) := by decide +kernel
theorem dX2_isDigit_12 : decode cX2_isDigit 12 = .ok (.iconst 1, 1) := by decide +kernel
theorem dX2_isDigit_13 : decode cX2_isDigit 13 = .ok (.goto 4, 3) := by decide +kernel
theorem dX2_isDigit_16 : decode cX2_isDigit 16 = .ok (.iconst 0, 1) := by decide +kernel
theorem dX2_isDigit_17 : decode cX2_isDigit 17 = .ok (.ireturn, 1) := by decide +kernel
theorem dX2_adds_0 : decode cX2_adds 0 = .ok (.aload_n 0, 1) := by decide +kernel
theorem dX2_adds_1 : decode cX2_adds 1 = .ok (.getfield 28, 3) := by decide +kernel
theorem dX2_adds_4 : decode cX2_adds 4 = .ok (.bipush 60, 2) := by decide +kernel
theorem dX2_adds_6 : decode cX2_adds 6 = .ok (.if_icmp .ge 23, 3) := by decide +kernel
theorem dX2_adds_9 : decode cX2_adds 9 = .ok (.aload_n 0, 1) := by decide +kernel
theorem dX2_adds_10 : decode cX2_adds 10 = .ok (.getfield 21, 3) := by decide +kernel
theorem dX2_adds_13 : decode cX2_adds 13 = .ok (.aload_n 0, 1) := by decide +kernel
theorem dX2_adds_14 : decode cX2_adds 14 = .ok (.getfield 28, 3) := by decide +kernel
theorem dX2_adds_17 : decode cX2_adds 17 = .ok (.iload_n 1, 1) := by decide +kernel
theorem dX2_adds_18 : decode cX2_adds 18 = .ok (.iastore, 1) := by decide +kernel
theorem dX2_adds_19 : decode cX2_adds 19 = .ok (.aload_n 0, 1) := by decide +kernel
theorem dX2_adds_20 : decode cX2_adds 20 = .ok (.dup, 1) := by decide +kernel
theorem dX2_adds_21 : decode cX2_adds 21 = .ok (.getfield 28, 3) := by decide +kernel
theorem dX2_adds_24 : decode cX2_adds 24 = .ok (.iconst 1, 1) := by decide +kernel
theorem dX2_adds_25 : decode cX2_adds 25 = .ok (.iadd, 1) := by decide +kernel
theorem dX2_adds_26 : decode cX2_adds 26 = .ok (.putfield 28, 3) := by decide +kernel
theorem dX2_adds_29 : decode cX2_adds 29 = .ok (.return_, 1) := by decide +kernel
theorem dX3_init_0 : decode cX3_init 0 = .ok (.aload_n 0, 1) := by decide +kernel
theorem dX3_init_1 : decode cX3_init 1 = .ok (.invokespecial 1, 3) := by decide +kernel
theorem dX3_init_4 : decode cX3_init 4 = .ok (.aload_n 0, 1) := by decide +kernel
theorem dX3_init_5 : decode cX3_init 5 = .ok (.iconst 4, 1) := by decide +kernel
theorem dX3_init_6 : decode cX3_init 6 = .ok (.newarray .int, 2) := by decide +kernel
theorem dX3_init_8 : decode cX3_init 8 = .ok (.putfield 9, 3) := by decide +kernel
theorem dX3_init_11 : decode cX3_init 11 = .ok (.aload_n 0, 1) := by decide +kernel
theorem dX3_init_12 : decode cX3_init 12 = .ok (.iconst 4, 1) := by decide +kernel
theorem dX3_init_13 : decode cX3_init 13 = .ok (.newarray .int, 2) := by decide +kernel
theorem dX3_init_15 : decode cX3_init 15 = .ok (.putfield 13, 3) := by decide +kernel
theorem dX3_init_18 : decode cX3_init 18 = .ok (.aload_n 0, 1) := by decide +kernel
theorem dX3_init_19 : decode cX3_init 19 = .ok (.bipush 96, 2) := by decide +kernel
theorem dX3_init_21 : decode cX3_init 21 = .ok (.newarray .int, 2) := by decide +kernel
theorem dX3_init_23 : decode cX3_init 23 = .ok (.putfield 16, 3) := by decide +kernel
theorem dX3_init_26 : decode cX3_init 26 = .ok (.return_, 1) := by decide +kernel
theorem dX3_lays_0 : decode cX3_lays 0 = .ok (.aload_n 0, 1) := by decide +kernel
theorem dX3_lays_1 : decode cX3_lays 1 = .ok (.getfield 9, 3) := by decide +kernel
theorem dX3_lays_4 : decode cX3_lays 4 = .ok (.iload_n 1, 1) := by decide +kernel
theorem dX3_lays_5 : decode cX3_lays 5 = .ok (.iload_n 2, 1) := by decide +kernel
theorem dX3_lays_6 : decode cX3_lays 6 = .ok (.iastore, 1) := by decide +kernel
theorem dX3_lays_7 : decode cX3_lays 7 = .ok (.aload_n 0, 1) := by decide +kernel
theorem dX3_lays_8 : decode cX3_lays 8 = .ok (.getfield 13, 3) := by decide +kernel
theorem dX3_lays_11 : decode cX3_lays 11 = .ok (.iload_n 1, 1) := by decide +kernel
theorem dX3_lays_12 : decode cX3_lays 12 = .ok (.iload_n 2, 1) := by decide +kernel
theorem dX3_lays_13 : decode cX3_lays 13 = .ok (.ifCond .ne 7, 3) := by decide +kernel
theorem dX3_lays_16 : decode cX3_lays 16 = .ok (.iconst 0, 1) := by decide +kernel
theorem dX3_lays_17 : decode cX3_lays 17 = .ok (.goto 4, 3) := by decide +kernel
theorem dX3_lays_20 : decode cX3_lays 20 = .ok (.iload_n 3, 1) := by decide +kernel
theorem dX3_lays_21 : decode cX3_lays 21 = .ok (.iastore, 1) := by decide +kernel
theorem dX3_lays_22 : decode cX3_lays 22 = .ok (.iconst 0, 1) := by decide +kernel
theorem dX3_lays_23 : decode cX3_lays 23 = .ok (.istore 4, 2) := by decide +kernel
theorem dX3_lays_25 : decode cX3_lays 25 = .ok (.iload 4, 2) := by decide +kernel
theorem dX3_lays_27 : decode cX3_lays 27 = .ok (.aload_n 0, 1) := by decide +kernel
theorem dX3_lays_28 : decode cX3_lays 28 = .ok (.getfield 13, 3) := by decide +kernel
theorem dX3_lays_31 : decode cX3_lays 31 = .ok (.iload_n 1, 1) := by decide +kernel
theorem dX3_lays_32 : decode cX3_lays 32 = .ok (.iaload, 1) := by decide +kernel
theorem dX3_lays_33 : decode cX3_lays 33 = .ok (.if_icmp .ge 22, 3) := by decide +kernel
theorem dX3_lays_36 : decode cX3_lays 36 = .ok (.aload_n 0, 1) := by decide +kernel
theorem dX3_lays_37 : decode cX3_lays 37 = .ok (.getfield 16, 3) := by decide +kernel
theorem dX3_lays_40 : decode cX3_lays 40 = .ok (.iload_n 1, 1) := by decide +kernel
theorem dX3_lays_41 : decode cX3_lays 41 = .ok (.bipush 24, 2) := by decide +kernel
theorem dX3_lays_43 : decode cX3_lays 43 = .ok (.imul, 1) := by decide +kernel
theorem dX3_lays_44 : decode cX3_lays 44 = .ok (.iload 4, 2) := by decide +kernel
theorem dX3_lays_46 : decode cX3_lays 46 = .ok (.iadd, 1) := by decide +kernel
theorem dX3_lays_47 : decode cX3_lays 47 = .ok (.iconst 0, 1) := by decide +kernel
theorem dX3_lays_48 : decode cX3_lays 48 = .ok (.iastore, 1) := by decide +kernel
theorem dX3_lays_49 : decode cX3_lays 49 = .ok (.iinc 4 1, 3) := by decide +kernel
theorem dX3_lays_52 : decode cX3_lays 52 = .ok (.goto (-27), 3) := by decide +kernel
theorem dX3_lays_55 : decode cX3_lays 55 = .ok (.return_, 1) := by decide +kernel
theorem dX3_sets_0 : decode cX3_sets 0 = .ok (.bipush 32, 2) := by decide +kernel
theorem dX3_sets_2 : decode cX3_sets 2 = .ok (.aload_n 0, 1) := by decide +kernel
theorem dX3_sets_3 : decode cX3_sets 3 = .ok (.getfield 9, 3) := by decide +kernel
theorem dX3_sets_6 : decode cX3_sets 6 = .ok (.iload_n 1, 1) := by decide +kernel
theorem dX3_sets_7 : decode cX3_sets 7 = .ok (.iaload, 1) := by decide +kernel
theorem dX3_sets_8 : decode cX3_sets 8 = .ok (.isub, 1) := by decide +kernel
theorem dX3_sets_9 : decode cX3_sets 9 = .ok (.istore 4, 2) := by decide +kernel
theorem dX3_sets_11 : decode cX3_sets 11 = .ok (.aload_n 0, 1) := by decide +kernel
theorem dX3_sets_12 : decode cX3_sets 12 = .ok (.getfield 16, 3) := by decide +kernel
theorem dX3_sets_15 : decode cX3_sets 15 = .ok (.iload_n 1, 1) := by decide +kernel
theorem dX3_sets_16 : decode cX3_sets 16 = .ok (.bipush 24, 2) := by decide +kernel
theorem dX3_sets_18 : decode cX3_sets 18 = .ok (.imul, 1) := by decide +kernel
theorem dX3_sets_19 : decode cX3_sets 19 = .ok (.iload_n 2, 1) := by decide +kernel
theorem dX3_sets_20 : decode cX3_sets 20 = .ok (.iadd, 1) := by decide +kernel
theorem dX3_sets_21 : decode cX3_sets 21 = .ok (.iload_n 3, 1) := by decide +kernel
theorem dX3_sets_22 : decode cX3_sets 22 = .ok (.iload 4, 2) := by decide +kernel
theorem dX3_sets_24 : decode cX3_sets 24 = .ok (.ishl, 1) := by decide +kernel
theorem dX3_sets_25 : decode cX3_sets 25 = .ok (.iload 4, 2) := by decide +kernel
theorem dX3_sets_27 : decode cX3_sets 27 = .ok (.ishr, 1) := by decide +kernel
theorem dX3_sets_28 : decode cX3_sets 28 = .ok (.iastore, 1) := by decide +kernel
theorem dX3_sets_29 : decode cX3_sets 29 = .ok (.return_, 1) := by decide +kernel
theorem dX3_numberAt_0 : decode cX3_numberAt 0 = .ok (.aload_n 0, 1) := by decide +kernel
theorem dX3_numberAt_1 : decode cX3_numberAt 1 = .ok (.getfield 16, 3) := by decide +kernel
theorem dX3_numberAt_4 : decode cX3_numberAt 4 = .ok (.iload_n 1, 1) := by decide +kernel
theorem dX3_numberAt_5 : decode cX3_numberAt 5 = .ok (.bipush 24, 2) := by decide +kernel
theorem dX3_numberAt_7 : decode cX3_numberAt 7 = .ok (.imul, 1) := by decide +kernel
theorem dX3_numberAt_8 : decode cX3_numberAt 8 = .ok (.iload_n 2, 1) := by decide +kernel
theorem dX3_numberAt_9 : decode cX3_numberAt 9 = .ok (.iadd, 1) := by decide +kernel
theorem dX3_numberAt_10 : decode cX3_numberAt 10 = .ok (.iaload, 1) := by decide +kernel
theorem dX3_numberAt_11 : decode cX3_numberAt 11 = .ok (.ireturn, 1) := by decide +kernel
theorem dX3_hold_0 : decode cX3_hold 0 = .ok (.iload_n 2, 1) := by decide +kernel
theorem dX3_hold_1 : decode cX3_hold 1 = .ok (.ifCond .lt 33, 3) := by decide +kernel
theorem dX3_hold_4 : decode cX3_hold 4 = .ok (.iload_n 3, 1) := by decide +kernel
theorem dX3_hold_5 : decode cX3_hold 5 = .ok (.ifCond .lt 29, 3) := by decide +kernel
theorem dX3_hold_8 : decode cX3_hold 8 = .ok (.iload_n 3, 1) := by decide +kernel
theorem dX3_hold_9 : decode cX3_hold 9 = .ok (.aload_n 0, 1) := by decide +kernel
theorem dX3_hold_10 : decode cX3_hold 10 = .ok (.getfield 13, 3) := by decide +kernel
theorem dX3_hold_13 : decode cX3_hold 13 = .ok (.iload_n 1, 1) := by decide +kernel
theorem dX3_hold_14 : decode cX3_hold 14 = .ok (.iaload, 1) := by decide +kernel
theorem dX3_hold_15 : decode cX3_hold 15 = .ok (.if_icmp .gt 19, 3) := by decide +kernel
theorem dX3_hold_18 : decode cX3_hold 18 = .ok (.iload_n 2, 1) := by decide +kernel
theorem dX3_hold_19 : decode cX3_hold 19 = .ok (.aload_n 0, 1) := by decide +kernel
theorem dX3_hold_20 : decode cX3_hold 20 = .ok (.getfield 13, 3) := by decide +kernel
theorem dX3_hold_23 : decode cX3_hold 23 = .ok (.iload_n 1, 1) := by decide +kernel
theorem dX3_hold_24 : decode cX3_hold 24 = .ok (.iaload, 1) := by decide +kernel
theorem dX3_hold_25 : decode cX3_hold 25 = .ok (.iload_n 3, 1) := by decide +kernel
theorem dX3_hold_26 : decode cX3_hold 26 = .ok (.isub, 1) := by decide +kernel
theorem dX3_hold_27 : decode cX3_hold 27 = .ok (.if_icmp .gt 7, 3) := by decide +kernel
theorem dX3_hold_30 : decode cX3_hold 30 = .ok (.iconst 1, 1) := by decide +kernel
theorem dX3_hold_31 : decode cX3_hold 31 = .ok (.goto 4, 3) := by decide +kernel
theorem dX3_hold_34 : decode cX3_hold 34 = .ok (.iconst 0, 1) := by decide +kernel
theorem dX3_hold_35 : decode cX3_hold 35 = .ok (.ireturn, 1) := by decide +kernel
theorem dX3_copies_0 : decode cX3_copies 0 = .ok (.aload_n 0, 1) := by decide +kernel
theorem dX3_copies_1 : decode cX3_copies 1 = .ok (.getfield 16, 3) := by decide +kernel
theorem dX3_copies_4 : decode cX3_copies 4 = .ok (.iload_n 1, 1) := by decide +kernel
theorem dX3_copies_5 : decode cX3_copies 5 = .ok (.bipush 24, 2) := by decide +kernel
theorem dX3_copies_7 : decode cX3_copies 7 = .ok (.imul, 1) := by decide +kernel
theorem dX3_copies_8 : decode cX3_copies 8 = .ok (.iload_n 2, 1) := by decide +kernel
theorem dX3_copies_9 : decode cX3_copies 9 = .ok (.iadd, 1) := by decide +kernel
theorem dX3_copies_10 : decode cX3_copies 10 = .ok (.aload_n 0, 1) := by decide +kernel
theorem dX3_copies_11 : decode cX3_copies 11 = .ok (.getfield 16, 3) := by decide +kernel
theorem dX3_copies_14 : decode cX3_copies 14 = .ok (.iload_n 3, 1) := by decide +kernel
theorem dX3_copies_15 : decode cX3_copies 15 = .ok (.bipush 24, 2) := by decide +kernel
theorem dX3_copies_17 : decode cX3_copies 17 = .ok (.imul, 1) := by decide +kernel
theorem dX3_copies_18 : decode cX3_copies 18 = .ok (.iload 4, 2) := by decide +kernel
theorem dX3_copies_20 : decode cX3_copies 20 = .ok (.iadd, 1) := by decide +kernel
theorem dX3_copies_21 : decode cX3_copies 21 = .ok (.iload 5, 2) := by decide +kernel
theorem dX3_copies_23 : decode cX3_copies 23 = .ok (.invokestatic 19, 3) := by decide +kernel
theorem dX3_copies_26 : decode cX3_copies 26 = .ok (.return_, 1) := by decide +kernel
theorem dX4_init_0 : decode cX4_init 0 = .ok (.aload_n 0, 1) := by decide +kernel
theorem dX4_init_1 : decode cX4_init 1 = .ok (.invokespecial 3, 3) := by decide +kernel
theorem dX4_init_4 : decode cX4_init 4 = .ok (.aload_n 0, 1) := by decide +kernel
theorem dX4_init_5 : decode cX4_init 5 = .ok (.bipush 60, 2) := by decide +kernel
theorem dX4_init_7 : decode cX4_init 7 = .ok (.newarray .int, 2) := by decide +kernel
theorem dX4_init_9 : decode cX4_init 9 = .ok (.putfield 9, 3) := by decide +kernel
theorem dX4_init_12 : decode cX4_init 12 = .ok (.aload_n 0, 1) := by decide +kernel
theorem dX4_init_13 : decode cX4_init 13 = .ok (.sipush 480, 3) := by decide +kernel
theorem dX4_init_16 : decode cX4_init 16 = .ok (.newarray .int, 2) := by decide +kernel
theorem dX4_init_18 : decode cX4_init 18 = .ok (.putfield 15, 3) := by decide +kernel
theorem dX4_init_21 : decode cX4_init 21 = .ok (.aload_n 0, 1) := by decide +kernel
theorem dX4_init_22 : decode cX4_init 22 = .ok (.bipush 8, 2) := by decide +kernel
theorem dX4_init_24 : decode cX4_init 24 = .ok (.newarray .int, 2) := by decide +kernel
theorem dX4_init_26 : decode cX4_init 26 = .ok (.putfield 18, 3) := by decide +kernel
theorem dX4_init_29 : decode cX4_init 29 = .ok (.aload_n 0, 1) := by decide +kernel
theorem dX4_init_30 : decode cX4_init 30 = .ok (.iconst 5, 1) := by decide +kernel
theorem dX4_init_31 : decode cX4_init 31 = .ok (.newarray .int, 2) := by decide +kernel
theorem dX4_init_33 : decode cX4_init 33 = .ok (.putfield 21, 3) := by decide +kernel
theorem dX4_init_36 : decode cX4_init 36 = .ok (.aload_n 0, 1) := by decide +kernel
theorem dX4_init_37 : decode cX4_init 37 = .ok (.bipush 60, 2) := by decide +kernel
theorem dX4_init_39 : decode cX4_init 39 = .ok (.newarray .int, 2) := by decide +kernel
theorem dX4_init_41 : decode cX4_init 41 = .ok (.putfield 24, 3) := by decide +kernel
theorem dX4_init_44 : decode cX4_init 44 = .ok (.return_, 1) := by decide +kernel
theorem dX4_becomes_0 : decode cX4_becomes 0 = .ok (.aload_n 0, 1) := by decide +kernel
theorem dX4_becomes_1 : decode cX4_becomes 1 = .ok (.aload_n 1, 1) := by decide +kernel
theorem dX4_becomes_2 : decode cX4_becomes 2 = .ok (.getfield 27, 3) := by decide +kernel
theorem dX4_becomes_5 : decode cX4_becomes 5 = .ok (.putfield 27, 3) := by decide +kernel
theorem dX4_becomes_8 : decode cX4_becomes 8 = .ok (.aload_n 1, 1) := by decide +kernel
theorem dX4_becomes_9 : decode cX4_becomes 9 = .ok (.getfield 9, 3) := by decide +kernel
theorem dX4_becomes_12 : decode cX4_becomes 12 = .ok (.iconst 0, 1) := by decide +kernel
theorem dX4_becomes_13 : decode cX4_becomes 13 = .ok (.aload_n 0, 1) := by decide +kernel
theorem dX4_becomes_14 : decode cX4_becomes 14 = .ok (.getfield 9, 3) := by decide +kernel
theorem dX4_becomes_17 : decode cX4_becomes 17 = .ok (.iconst 0, 1) := by decide +kernel
theorem dX4_becomes_18 : decode cX4_becomes 18 = .ok (.aload_n 0, 1) := by decide +kernel
theorem dX4_becomes_19 : decode cX4_becomes 19 = .ok (.getfield 9, 3) := by decide +kernel
theorem dX4_becomes_22 : decode cX4_becomes 22 = .ok (.arraylength, 1) := by decide +kernel
theorem dX4_becomes_23 : decode cX4_becomes 23 = .ok (.invokestatic 31, 3) := by decide +kernel
theorem dX4_becomes_26 : decode cX4_becomes 26 = .ok (.aload_n 1, 1) := by decide +kernel
theorem dX4_becomes_27 : decode cX4_becomes 27 = .ok (.getfield 15, 3) := by decide +kernel
theorem dX4_becomes_30 : decode cX4_becomes 30 = .ok (.iconst 0, 1) := by decide +kernel
theorem dX4_becomes_31 : decode cX4_becomes 31 = .ok (.aload_n 0, 1) := by decide +kernel
theorem dX4_becomes_32 : decode cX4_becomes 32 = .ok (.getfield 15, 3) := by decide +kernel
theorem dX4_becomes_35 : decode cX4_becomes 35 = .ok (.iconst 0, 1) := by decide +kernel
theorem dX4_becomes_36 : decode cX4_becomes 36 = .ok (.aload_n 0, 1) := by decide +kernel
theorem dX4_becomes_37 : decode cX4_becomes 37 = .ok (.getfield 15, 3) := by decide +kernel
theorem dX4_becomes_40 : decode cX4_becomes 40 = .ok (.arraylength, 1) := by decide +kernel
theorem dX4_becomes_41 : decode cX4_becomes 41 = .ok (.invokestatic 31, 3) := by decide +kernel
theorem dX4_becomes_44 : decode cX4_becomes 44 = .ok (.aload_n 1, 1) := by decide +kernel
theorem dX4_becomes_45 : decode cX4_becomes 45 = .ok (.getfield 18, 3) := by decide +kernel
theorem dX4_becomes_48 : decode cX4_becomes 48 = .ok (.iconst 0, 1) := by decide +kernel
theorem dX4_becomes_49 : decode cX4_becomes 49 = .ok (.aload_n 0, 1) := by decide +kernel
theorem dX4_becomes_50 : decode cX4_becomes 50 = .ok (.getfield 18, 3) := by decide +kernel
theorem dX4_becomes_53 : decode cX4_becomes 53 = .ok (.iconst 0, 1) := by decide +kernel
theorem dX4_becomes_54 : decode cX4_becomes 54 = .ok (.aload_n 0, 1) := by decide +kernel
theorem dX4_becomes_55 : decode cX4_becomes 55 = .ok (.getfield 18, 3) := by decide +kernel
theorem dX4_becomes_58 : decode cX4_becomes 58 = .ok (.arraylength, 1) := by decide +kernel
theorem dX4_becomes_59 : decode cX4_becomes 59 = .ok (.invokestatic 31, 3) := by decide +kernel
theorem dX4_becomes_62 : decode cX4_becomes 62 = .ok (.return_, 1) := by decide +kernel
theorem dX4_takes_0 : decode cX4_takes 0 = .ok (.iconst 0, 1) := by decide +kernel
theorem dX4_takes_1 : decode cX4_takes 1 = .ok (.istore 4, 2) := by decide +kernel
theorem dX4_takes_3 : decode cX4_takes 3 = .ok (.iload 4, 2) := by decide +kernel
theorem dX4_takes_5 : decode cX4_takes 5 = .ok (.iload_n 3, 1) := by decide +kernel
theorem dX4_takes_6 : decode cX4_takes 6 = .ok (.if_icmp .ge 40, 3) := by decide +kernel
theorem dX4_takes_9 : decode cX4_takes 9 = .ok (.aload_n 0, 1) := by decide +kernel
theorem dX4_takes_10 : decode cX4_takes 10 = .ok (.getfield 9, 3) := by decide +kernel
theorem dX4_takes_13 : decode cX4_takes 13 = .ok (.aload_n 0, 1) := by decide +kernel
theorem dX4_takes_14 : decode cX4_takes 14 = .ok (.getfield 27, 3) := by decide +kernel
theorem dX4_takes_17 : decode cX4_takes 17 = .ok (.lload_n 1, 1) := by decide +kernel
theorem dX4_takes_18 : decode cX4_takes 18 = .ok (.bipush 8, 2) := by decide +kernel
theorem dX4_takes_20 : decode cX4_takes 20 = .ok (.iload 4, 2) := by decide +kernel
theorem dX4_takes_22 : decode cX4_takes 22 = .ok (.imul, 1) := by decide +kernel
theorem dX4_takes_23 : decode cX4_takes 23 = .ok (.lushr, 1) := by decide +kernel
theorem dX4_takes_24 : decode cX4_takes 24 = .ok (.l2i, 1) := by decide +kernel
theorem dX4_takes_25 : decode cX4_takes 25 = .ok (.sipush 255, 3) := by decide +kernel
theorem dX4_takes_28 : decode cX4_takes 28 = .ok (.iand, 1) := by decide +kernel
theorem dX4_takes_29 : decode cX4_takes 29 = .ok (.iastore, 1) := by decide +kernel
theorem dX4_takes_30 : decode cX4_takes 30 = .ok (.aload_n 0, 1) := by decide +kernel
theorem dX4_takes_31 : decode cX4_takes 31 = .ok (.dup, 1) := by decide +kernel
theorem dX4_takes_32 : decode cX4_takes 32 = .ok (.getfield 27, 3) := by decide +kernel
theorem dX4_takes_35 : decode cX4_takes 35 = .ok (.iconst 1, 1) := by decide +kernel
theorem dX4_takes_36 : decode cX4_takes 36 = .ok (.iadd, 1) := by decide +kernel
theorem dX4_takes_37 : decode cX4_takes 37 = .ok (.putfield 27, 3) := by decide +kernel
theorem dX4_takes_40 : decode cX4_takes 40 = .ok (.iinc 4 1, 3) := by decide +kernel
theorem dX4_takes_43 : decode cX4_takes 43 = .ok (.goto (-40), 3) := by decide +kernel
theorem dX4_takes_46 : decode cX4_takes 46 = .ok (.aload_n 0, 1) := by decide +kernel
theorem dX4_takes_47 : decode cX4_takes 47 = .ok (.getfield 27, 3) := by decide +kernel
theorem dX4_takes_50 : decode cX4_takes 50 = .ok (.ireturn, 1) := by decide +kernel
theorem dX4_has_0 : decode cX4_has 0 = .ok (.aload_n 0, 1) := by decide +kernel
theorem dX4_has_1 : decode cX4_has 1 = .ok (.getfield 18, 3) := by decide +kernel
theorem dX4_has_4 : decode cX4_has 4 = .ok (.iload_n 1, 1) := by decide +kernel
theorem dX4_has_5 : decode cX4_has 5 = .ok (.iaload, 1) := by decide +kernel
theorem dX4_has_6 : decode cX4_has 6 = .ok (.ifCond .le 7, 3) := by decide +kernel
theorem dX4_has_9 : decode cX4_has 9 = .ok (.iconst 1, 1) := by decide +kernel
theorem dX4_has_10 : decode cX4_has 10 = .ok (.goto 4, 3) := by decide +kernel
theorem dX4_has_13 : decode cX4_has 13 = .ok (.iconst 0, 1) := by decide +kernel
theorem dX4_has_14 : decode cX4_has 14 = .ok (.ireturn, 1) := by decide +kernel
set_option maxRecDepth 20000 in
theorem ggX4_drops_X4_has : GoodIn wsX4_drops wsX4_has := goodIn_r _ [6, 1, 7, 8, 9, 10, 11, 12] rfl (by decide +kernel)
set_option maxRecDepth 20000 in
theorem gX4_drops_X4_has : GoodIn wsX4_drops (wsV RX4 37 RX4 yX4_has wsX4_has) := goodIn_app (goodIn_r _ [2, 3, 4, 5] rfl (by decide +kernel)) ggX4_drops_X4_has
theorem dX4_drops_0 : decode cX4_drops 0 = .ok (.aload_n 0, 1) := by decide +kernel
theorem dX4_drops_1 : decode cX4_drops 1 = .ok (.iload_n 1, 1) := by decide +kernel
theorem dX4_drops_2 : decode cX4_drops 2 = .ok (.invokevirtual 37, 3) := by decide +kernel
theorem dX4_drops_5 : decode cX4_drops 5 = .ok (.istore_n 2, 1) := by decide +kernel
theorem dX4_drops_6 : decode cX4_drops 6 = .ok (.aload_n 0, 1) := by decide +kernel
theorem dX4_drops_7 : decode cX4_drops 7 = .ok (.getfield 18, 3) := by decide +kernel
theorem dX4_drops_10 : decode cX4_drops 10 = .ok (.iload_n 1, 1) := by decide +kernel
theorem dX4_drops_11 : decode cX4_drops 11 = .ok (.iconst 0, 1) := by decide +kernel
theorem dX4_drops_12 : decode cX4_drops 12 = .ok (.iastore, 1) := by decide +kernel
theorem dX4_drops_13 : decode cX4_drops 13 = .ok (.iload_n 2, 1) := by decide +kernel
theorem dX4_drops_14 : decode cX4_drops 14 = .ok (.ireturn, 1) := by decide +kernel
theorem dX4_keeps_0 : decode cX4_keeps 0 = .ok (.aload_n 2, 1) := by decide +kernel
theorem dX4_keeps_1 : decode cX4_keeps 1 = .ok (.iconst 0, 1) := by decide +kernel
theorem dX4_keeps_2 : decode cX4_keeps 2 = .ok (.aload_n 0, 1) := by decide +kernel
theorem dX4_keeps_3 : decode cX4_keeps 3 = .ok (.getfield 15, 3) := by decide +kernel
theorem dX4_keeps_6 : decode cX4_keeps 6 = .ok (.iload_n 1, 1) := by decide +kernel
theorem dX4_keeps_7 : decode cX4_keeps 7 = .ok (.bipush 60, 2) := by decide +kernel
theorem dX4_keeps_9 : decode cX4_keeps 9 = .ok (.imul, 1) := by decide +kernel
theorem dX4_keeps_10 : decode cX4_keeps 10 = .ok (.iload_n 3, 1) := by decide +kernel
theorem dX4_keeps_11 : decode cX4_keeps 11 = .ok (.invokestatic 31, 3) := by decide +kernel
theorem dX4_keeps_14 : decode cX4_keeps 14 = .ok (.aload_n 0, 1) := by decide +kernel
theorem dX4_keeps_15 : decode cX4_keeps 15 = .ok (.getfield 18, 3) := by decide +kernel
theorem dX4_keeps_18 : decode cX4_keeps 18 = .ok (.iload_n 1, 1) := by decide +kernel
theorem dX4_keeps_19 : decode cX4_keeps 19 = .ok (.iload_n 3, 1) := by decide +kernel
theorem dX4_keeps_20 : decode cX4_keeps 20 = .ok (.iastore, 1) := by decide +kernel
theorem dX4_keeps_21 : decode cX4_keeps 21 = .ok (.return_, 1) := by decide +kernel
theorem dX4_names_0 : decode cX4_names 0 = .ok (.aload_n 0, 1) := by decide +kernel
theorem dX4_names_1 : decode cX4_names 1 = .ok (.getfield 21, 3) := by decide +kernel
theorem dX4_names_4 : decode cX4_names 4 = .ok (.iconst 0, 1) := by decide +kernel
theorem dX4_names_5 : decode cX4_names 5 = .ok (.iload_n 1, 1) := by decide +kernel
theorem dX4_names_6 : decode cX4_names 6 = .ok (.iastore, 1) := by decide +kernel
theorem dX4_names_7 : decode cX4_names 7 = .ok (.aload_n 0, 1) := by decide +kernel
theorem dX4_names_8 : decode cX4_names 8 = .ok (.getfield 21, 3) := by decide +kernel
theorem dX4_names_11 : decode cX4_names 11 = .ok (.iconst 1, 1) := by decide +kernel
theorem dX4_names_12 : decode cX4_names 12 = .ok (.iload_n 2, 1) := by decide +kernel
theorem dX4_names_13 : decode cX4_names 13 = .ok (.iastore, 1) := by decide +kernel
theorem dX4_names_14 : decode cX4_names 14 = .ok (.aload_n 0, 1) := by decide +kernel
theorem dX4_names_15 : decode cX4_names 15 = .ok (.getfield 21, 3) := by decide +kernel
theorem dX4_names_18 : decode cX4_names 18 = .ok (.iconst 2, 1) := by decide +kernel
theorem dX4_names_19 : decode cX4_names 19 = .ok (.iload_n 3, 1) := by decide +kernel
theorem dX4_names_20 : decode cX4_names 20 = .ok (.iastore, 1) := by decide +kernel
theorem dX4_names_21 : decode cX4_names 21 = .ok (.aload_n 0, 1) := by decide +kernel
theorem dX4_names_22 : decode cX4_names 22 = .ok (.getfield 21, 3) := by decide +kernel
theorem dX4_names_25 : decode cX4_names 25 = .ok (.iconst 3, 1) := by decide +kernel
theorem dX4_names_26 : decode cX4_names 26 = .ok (.iload 4, 2) := by decide +kernel
theorem dX4_names_28 : decode cX4_names 28 = .ok (.iastore, 1) := by decide +kernel
theorem dX4_names_29 : decode cX4_names 29 = .ok (.aload_n 0, 1) := by decide +kernel
theorem dX4_names_30 : decode cX4_names 30 = .ok (.getfield 21, 3) := by decide +kernel
theorem dX4_names_33 : decode cX4_names 33 = .ok (.iconst 4, 1) := by decide +kernel
theorem dX4_names_34 : decode cX4_names 34 = .ok (.iload 5, 2) := by decide +kernel
theorem dX4_names_36 : decode cX4_names 36 = .ok (.iastore, 1) := by decide +kernel
theorem dX4_names_37 : decode cX4_names 37 = .ok (.return_, 1) := by decide +kernel
set_option maxRecDepth 20000 in
theorem ggX4_worked_X4_joined : GoodIn wsX4_worked wsX4_joined := goodIn_r _ [8] rfl (by decide +kernel)
set_option maxRecDepth 20000 in
theorem gX4_worked_X4_joined : GoodIn wsX4_worked (va_wsS RX4 41 yX4_joined wsX4_joined) := goodIn_app (goodIn_r _ [5, 6, 7] rfl (by decide +kernel)) ggX4_worked_X4_joined
theorem dX4_worked_0 : decode cX4_worked 0 = .ok (.iconst 0, 1) := by decide +kernel
theorem dX4_worked_1 : decode cX4_worked 1 = .ok (.istore_n 2, 1) := by decide +kernel
theorem dX4_worked_2 : decode cX4_worked 2 = .ok (.iconst 0, 1) := by decide +kernel
theorem dX4_worked_3 : decode cX4_worked 3 = .ok (.istore_n 3, 1) := by decide +kernel
theorem dX4_worked_4 : decode cX4_worked 4 = .ok (.iload_n 3, 1) := by decide +kernel
theorem dX4_worked_5 : decode cX4_worked 5 = .ok (.aload_n 0, 1) := by decide +kernel
theorem dX4_worked_6 : decode cX4_worked 6 = .ok (.getfield 18, 3) := by decide +kernel
theorem dX4_worked_9 : decode cX4_worked 9 = .ok (.iload_n 1, 1) := by decide +kernel
theorem dX4_worked_10 : decode cX4_worked 10 = .ok (.iaload, 1) := by decide +kernel
theorem dX4_worked_11 : decode cX4_worked 11 = .ok (.if_icmp .ge 140, 3) := by decide +kernel
theorem dX4_worked_14 : decode cX4_worked 14 = .ok (.aload_n 0, 1) := by decide +kernel
theorem dX4_worked_15 : decode cX4_worked 15 = .ok (.getfield 15, 3) := by decide +kernel
theorem dX4_worked_18 : decode cX4_worked 18 = .ok (.iload_n 1, 1) := by decide +kernel
theorem dX4_worked_19 : decode cX4_worked 19 = .ok (.bipush 60, 2) := by decide +kernel
theorem dX4_worked_21 : decode cX4_worked 21 = .ok (.imul, 1) := by decide +kernel
theorem dX4_worked_22 : decode cX4_worked 22 = .ok (.iload_n 3, 1) := by decide +kernel
theorem dX4_worked_23 : decode cX4_worked 23 = .ok (.iadd, 1) := by decide +kernel
theorem dX4_worked_24 : decode cX4_worked 24 = .ok (.iaload, 1) := by decide +kernel
theorem dX4_worked_25 : decode cX4_worked 25 = .ok (.istore 4, 2) := by decide +kernel
theorem dX4_worked_27 : decode cX4_worked 27 = .ok (.iload 4, 2) := by decide +kernel
theorem dX4_worked_29 : decode cX4_worked 29 = .ok (.bipush (-5), 2) := by decide +kernel
theorem dX4_worked_31 : decode cX4_worked 31 = .ok (.if_icmp .lt 40, 3) := by decide +kernel
theorem dX4_worked_34 : decode cX4_worked 34 = .ok (.iload_n 2, 1) := by decide +kernel
theorem dX4_worked_35 : decode cX4_worked 35 = .ok (.bipush 60, 2) := by decide +kernel
theorem dX4_worked_37 : decode cX4_worked 37 = .ok (.if_icmp .ge 34, 3) := by decide +kernel
theorem dX4_worked_40 : decode cX4_worked 40 = .ok (.aload_n 0, 1) := by decide +kernel
theorem dX4_worked_41 : decode cX4_worked 41 = .ok (.getfield 24, 3) := by decide +kernel
theorem dX4_worked_44 : decode cX4_worked 44 = .ok (.iload_n 2, 1) := by decide +kernel
theorem dX4_worked_45 : decode cX4_worked 45 = .ok (.iload 4, 2) := by decide +kernel
theorem dX4_worked_47 : decode cX4_worked 47 = .ok (.ifCond .lt 8, 3) := by decide +kernel
theorem dX4_worked_50 : decode cX4_worked 50 = .ok (.iload 4, 2) := by decide +kernel
theorem dX4_worked_52 : decode cX4_worked 52 = .ok (.goto 12, 3) := by decide +kernel
theorem dX4_worked_55 : decode cX4_worked 55 = .ok (.aload_n 0, 1) := by decide +kernel
theorem dX4_worked_56 : decode cX4_worked 56 = .ok (.getfield 21, 3) := by decide +kernel
theorem dX4_worked_59 : decode cX4_worked 59 = .ok (.iconst (-1), 1) := by decide +kernel
theorem dX4_worked_60 : decode cX4_worked 60 = .ok (.iload 4, 2) := by decide +kernel
theorem dX4_worked_62 : decode cX4_worked 62 = .ok (.isub, 1) := by decide +kernel
theorem dX4_worked_63 : decode cX4_worked 63 = .ok (.iaload, 1) := by decide +kernel
theorem dX4_worked_64 : decode cX4_worked 64 = .ok (.iastore, 1) := by decide +kernel
theorem dX4_worked_65 : decode cX4_worked 65 = .ok (.iinc 2 1, 3) := by decide +kernel
theorem dX4_worked_68 : decode cX4_worked 68 = .ok (.goto 77, 3) := by decide +kernel
theorem dX4_worked_71 : decode cX4_worked 71 = .ok (.iload 4, 2) := by decide +kernel
theorem dX4_worked_73 : decode cX4_worked 73 = .ok (.bipush (-33), 2) := by decide +kernel
theorem dX4_worked_75 : decode cX4_worked 75 = .ok (.if_icmp .ne 34, 3) := by decide +kernel
theorem dX4_worked_78 : decode cX4_worked 78 = .ok (.iload_n 2, 1) := by decide +kernel
theorem dX4_worked_79 : decode cX4_worked 79 = .ok (.ifCond .le 30, 3) := by decide +kernel
theorem dX4_worked_82 : decode cX4_worked 82 = .ok (.aload_n 0, 1) := by decide +kernel
theorem dX4_worked_83 : decode cX4_worked 83 = .ok (.getfield 24, 3) := by decide +kernel
theorem dX4_worked_86 : decode cX4_worked 86 = .ok (.iload_n 2, 1) := by decide +kernel
theorem dX4_worked_87 : decode cX4_worked 87 = .ok (.iconst 1, 1) := by decide +kernel
theorem dX4_worked_88 : decode cX4_worked 88 = .ok (.isub, 1) := by decide +kernel
theorem dX4_worked_89 : decode cX4_worked 89 = .ok (.aload_n 0, 1) := by decide +kernel
theorem dX4_worked_90 : decode cX4_worked 90 = .ok (.getfield 24, 3) := by decide +kernel
theorem dX4_worked_93 : decode cX4_worked 93 = .ok (.iload_n 2, 1) := by decide +kernel
theorem dX4_worked_94 : decode cX4_worked 94 = .ok (.iconst 1, 1) := by decide +kernel
theorem dX4_worked_95 : decode cX4_worked 95 = .ok (.isub, 1) := by decide +kernel
theorem dX4_worked_96 : decode cX4_worked 96 = .ok (.iaload, 1) := by decide +kernel
theorem dX4_worked_97 : decode cX4_worked 97 = .ok (.ifCond .ne 7, 3) := by decide +kernel
theorem dX4_worked_100 : decode cX4_worked 100 = .ok (.iconst 1, 1) := by decide +kernel
theorem dX4_worked_101 : decode cX4_worked 101 = .ok (.goto 4, 3) := by decide +kernel
theorem dX4_worked_104 : decode cX4_worked 104 = .ok (.iconst 0, 1) := by decide +kernel
theorem dX4_worked_105 : decode cX4_worked 105 = .ok (.iastore, 1) := by decide +kernel
theorem dX4_worked_106 : decode cX4_worked 106 = .ok (.goto 39, 3) := by decide +kernel
theorem dX4_worked_109 : decode cX4_worked 109 = .ok (.iload_n 2, 1) := by decide +kernel
theorem dX4_worked_110 : decode cX4_worked 110 = .ok (.iconst 1, 1) := by decide +kernel
theorem dX4_worked_111 : decode cX4_worked 111 = .ok (.if_icmp .le 34, 3) := by decide +kernel
theorem dX4_worked_114 : decode cX4_worked 114 = .ok (.iinc 2 (-1), 3) := by decide +kernel
theorem dX4_worked_117 : decode cX4_worked 117 = .ok (.aload_n 0, 1) := by decide +kernel
theorem dX4_worked_118 : decode cX4_worked 118 = .ok (.getfield 24, 3) := by decide +kernel
theorem dX4_worked_121 : decode cX4_worked 121 = .ok (.iload_n 2, 1) := by decide +kernel
theorem dX4_worked_122 : decode cX4_worked 122 = .ok (.iconst 1, 1) := by decide +kernel
theorem dX4_worked_123 : decode cX4_worked 123 = .ok (.isub, 1) := by decide +kernel
theorem dX4_worked_124 : decode cX4_worked 124 = .ok (.iload 4, 2) := by decide +kernel
theorem dX4_worked_126 : decode cX4_worked 126 = .ok (.ineg, 1) := by decide +kernel
theorem dX4_worked_127 : decode cX4_worked 127 = .ok (.aload_n 0, 1) := by decide +kernel
theorem dX4_worked_128 : decode cX4_worked 128 = .ok (.getfield 24, 3) := by decide +kernel
theorem dX4_worked_131 : decode cX4_worked 131 = .ok (.iload_n 2, 1) := by decide +kernel
theorem dX4_worked_132 : decode cX4_worked 132 = .ok (.iconst 1, 1) := by decide +kernel
theorem dX4_worked_133 : decode cX4_worked 133 = .ok (.isub, 1) := by decide +kernel
theorem dX4_worked_134 : decode cX4_worked 134 = .ok (.iaload, 1) := by decide +kernel
theorem dX4_worked_135 : decode cX4_worked 135 = .ok (.aload_n 0, 1) := by decide +kernel
theorem dX4_worked_136 : decode cX4_worked 136 = .ok (.getfield 24, 3) := by decide +kernel
theorem dX4_worked_139 : decode cX4_worked 139 = .ok (.iload_n 2, 1) := by decide +kernel
theorem dX4_worked_140 : decode cX4_worked 140 = .ok (.iaload, 1) := by decide +kernel
theorem dX4_worked_141 : decode cX4_worked 141 = .ok (.invokestatic 41, 3) := by decide +kernel
theorem dX4_worked_144 : decode cX4_worked 144 = .ok (.iastore, 1) := by decide +kernel
theorem dX4_worked_145 : decode cX4_worked 145 = .ok (.iinc 3 1, 3) := by decide +kernel
theorem dX4_worked_148 : decode cX4_worked 148 = .ok (.goto (-144), 3) := by decide +kernel
theorem dX4_worked_151 : decode cX4_worked 151 = .ok (.aload_n 0, 1) := by decide +kernel
theorem dX4_worked_152 : decode cX4_worked 152 = .ok (.getfield 24, 3) := by decide +kernel
theorem dX4_worked_155 : decode cX4_worked 155 = .ok (.iconst 0, 1) := by decide +kernel
theorem dX4_worked_156 : decode cX4_worked 156 = .ok (.iaload, 1) := by decide +kernel
theorem dX4_worked_157 : decode cX4_worked 157 = .ok (.ireturn, 1) := by decide +kernel
theorem dX4_joined_0 : decode cX4_joined 0 = .ok (.iload_n 0, 1) := by decide +kernel
theorem dX4_joined_1 : decode cX4_joined 1 = .ok (.lookupswitch 188 #[(37, 176), (38, 105), (42, 160), (43, 152), (45, 156), (47, 164), (60, 119), (61, 130), (62, 141), (124, 91)], 91) := by decide +kernel
theorem dX4_joined_92 : decode cX4_joined 92 = .ok (.iload_n 1, 1) := by decide +kernel
theorem dX4_joined_93 : decode cX4_joined 93 = .ok (.ifCond .ne 7, 3) := by decide +kernel
theorem dX4_joined_96 : decode cX4_joined 96 = .ok (.iload_n 2, 1) := by decide +kernel
theorem dX4_joined_97 : decode cX4_joined 97 = .ok (.ifCond .eq 7, 3) := by decide +kernel
theorem dX4_joined_100 : decode cX4_joined 100 = .ok (.iconst 1, 1) := by decide +kernel
theorem dX4_joined_101 : decode cX4_joined 101 = .ok (.goto 4, 3) := by decide +kernel
theorem dX4_joined_104 : decode cX4_joined 104 = .ok (.iconst 0, 1) := by decide +kernel
theorem dX4_joined_105 : decode cX4_joined 105 = .ok (.ireturn, 1) := by decide +kernel
theorem dX4_joined_106 : decode cX4_joined 106 = .ok (.iload_n 1, 1) := by decide +kernel
theorem dX4_joined_107 : decode cX4_joined 107 = .ok (.ifCond .eq 11, 3) := by decide +kernel
theorem dX4_joined_110 : decode cX4_joined 110 = .ok (.iload_n 2, 1) := by decide +kernel
theorem dX4_joined_111 : decode cX4_joined 111 = .ok (.ifCond .eq 7, 3) := by decide +kernel
theorem dX4_joined_114 : decode cX4_joined 114 = .ok (.iconst 1, 1) := by decide +kernel
theorem dX4_joined_115 : decode cX4_joined 115 = .ok (.goto 4, 3) := by decide +kernel
theorem dX4_joined_118 : decode cX4_joined 118 = .ok (.iconst 0, 1) := by decide +kernel
theorem dX4_joined_119 : decode cX4_joined 119 = .ok (.ireturn, 1) := by decide +kernel
theorem dX4_joined_120 : decode cX4_joined 120 = .ok (.iload_n 1, 1) := by decide +kernel
theorem dX4_joined_121 : decode cX4_joined 121 = .ok (.iload_n 2, 1) := by decide +kernel
theorem dX4_joined_122 : decode cX4_joined 122 = .ok (.if_icmp .ge 7, 3) := by decide +kernel
theorem dX4_joined_125 : decode cX4_joined 125 = .ok (.iconst 1, 1) := by decide +kernel
theorem dX4_joined_126 : decode cX4_joined 126 = .ok (.goto 4, 3) := by decide +kernel
theorem dX4_joined_129 : decode cX4_joined 129 = .ok (.iconst 0, 1) := by decide +kernel
theorem dX4_joined_130 : decode cX4_joined 130 = .ok (.ireturn, 1) := by decide +kernel
theorem dX4_joined_131 : decode cX4_joined 131 = .ok (.iload_n 1, 1) := by decide +kernel
theorem dX4_joined_132 : decode cX4_joined 132 = .ok (.iload_n 2, 1) := by decide +kernel
theorem dX4_joined_133 : decode cX4_joined 133 = .ok (.if_icmp .ne 7, 3) := by decide +kernel
theorem dX4_joined_136 : decode cX4_joined 136 = .ok (.iconst 1, 1) := by decide +kernel
theorem dX4_joined_137 : decode cX4_joined 137 = .ok (.goto 4, 3) := by decide +kernel
theorem dX4_joined_140 : decode cX4_joined 140 = .ok (.iconst 0, 1) := by decide +kernel
theorem dX4_joined_141 : decode cX4_joined 141 = .ok (.ireturn, 1) := by decide +kernel
theorem dX4_joined_142 : decode cX4_joined 142 = .ok (.iload_n 1, 1) := by decide +kernel
theorem dX4_joined_143 : decode cX4_joined 143 = .ok (.iload_n 2, 1) := by decide +kernel
theorem dX4_joined_144 : decode cX4_joined 144 = .ok (.if_icmp .le 7, 3) := by decide +kernel
theorem dX4_joined_147 : decode cX4_joined 147 = .ok (.iconst 1, 1) := by decide +kernel
theorem dX4_joined_148 : decode cX4_joined 148 = .ok (.goto 4, 3) := by decide +kernel
theorem dX4_joined_151 : decode cX4_joined 151 = .ok (.iconst 0, 1) := by decide +kernel
theorem dX4_joined_152 : decode cX4_joined 152 = .ok (.ireturn, 1) := by decide +kernel
theorem dX4_joined_153 : decode cX4_joined 153 = .ok (.iload_n 1, 1) := by decide +kernel
theorem dX4_joined_154 : decode cX4_joined 154 = .ok (.iload_n 2, 1) := by decide +kernel
theorem dX4_joined_155 : decode cX4_joined 155 = .ok (.iadd, 1) := by decide +kernel
theorem dX4_joined_156 : decode cX4_joined 156 = .ok (.ireturn, 1) := by decide +kernel
theorem dX4_joined_157 : decode cX4_joined 157 = .ok (.iload_n 1, 1) := by decide +kernel
theorem dX4_joined_158 : decode cX4_joined 158 = .ok (.iload_n 2, 1) := by decide +kernel
theorem dX4_joined_159 : decode cX4_joined 159 = .ok (.isub, 1) := by decide +kernel
theorem dX4_joined_160 : decode cX4_joined 160 = .ok (.ireturn, 1) := by decide +kernel
theorem dX4_joined_161 : decode cX4_joined 161 = .ok (.iload_n 1, 1) := by decide +kernel
theorem dX4_joined_162 : decode cX4_joined 162 = .ok (.iload_n 2, 1) := by decide +kernel
theorem dX4_joined_163 : decode cX4_joined 163 = .ok (.imul, 1) := by decide +kernel
theorem dX4_joined_164 : decode cX4_joined 164 = .ok (.ireturn, 1) := by decide +kernel
theorem dX4_joined_165 : decode cX4_joined 165 = .ok (.iload_n 2, 1) := by decide +kernel
theorem dX4_joined_166 : decode cX4_joined 166 = .ok (.ifCond .ne 7, 3) := by decide +kernel
theorem dX4_joined_169 : decode cX4_joined 169 = .ok (.iconst 0, 1) := by decide +kernel
theorem dX4_joined_170 : decode cX4_joined 170 = .ok (.goto 6, 3) := by decide +kernel
theorem dX4_joined_173 : decode cX4_joined 173 = .ok (.iload_n 1, 1) := by decide +kernel
theorem dX4_joined_174 : decode cX4_joined 174 = .ok (.iload_n 2, 1) := by decide +kernel
theorem dX4_joined_175 : decode cX4_joined 175 = .ok (.idiv, 1) := by decide +kernel
theorem dX4_joined_176 : decode cX4_joined 176 = .ok (.ireturn, 1) := by decide +kernel
theorem dX4_joined_177 : decode cX4_joined 177 = .ok (.iload_n 2, 1) := by decide +kernel
theorem dX4_joined_178 : decode cX4_joined 178 = .ok (.ifCond .ne 7, 3) := by decide +kernel
theorem dX4_joined_181 : decode cX4_joined 181 = .ok (.iconst 0, 1) := by decide +kernel
theorem dX4_joined_182 : decode cX4_joined 182 = .ok (.goto 6, 3) := by decide +kernel
theorem dX4_joined_185 : decode cX4_joined 185 = .ok (.iload_n 1, 1) := by decide +kernel
theorem dX4_joined_186 : decode cX4_joined 186 = .ok (.iload_n 2, 1) := by decide +kernel
theorem dX4_joined_187 : decode cX4_joined 187 = .ok (.irem, 1) := by decide +kernel
theorem dX4_joined_188 : decode cX4_joined 188 = .ok (.ireturn, 1) := by decide +kernel
theorem dX4_joined_189 : decode cX4_joined 189 = .ok (.iconst 0, 1) := by decide +kernel
theorem dX4_joined_190 : decode cX4_joined 190 = .ok (.ireturn, 1) := by decide +kernel
theorem dX5_init_0 : decode cX5_init 0 = .ok (.aload_n 0, 1) := by decide +kernel
theorem dX5_init_1 : decode cX5_init 1 = .ok (.invokespecial 3, 3) := by decide +kernel
theorem dX5_init_4 : decode cX5_init 4 = .ok (.aload_n 0, 1) := by decide +kernel
theorem dX5_init_5 : decode cX5_init 5 = .ok (.bipush 30, 2) := by decide +kernel
theorem dX5_init_7 : decode cX5_init 7 = .ok (.newarray .int, 2) := by decide +kernel
theorem dX5_init_9 : decode cX5_init 9 = .ok (.putfield 11, 3) := by decide +kernel
theorem dX5_init_12 : decode cX5_init 12 = .ok (.return_, 1) := by decide +kernel
set_option maxRecDepth 20000 in
theorem ggX5_heard_X5_speaks : GoodIn wsX5_heard wsX5_speaks := goodIn_r _ [10, 4, 11, 5, 12, 13, 14, 15, 9, 16, 17, 18, 19, 3, 1, 2, 6, 7, 8, 20, 21, 22, 23, 24, 35, 36, 37, 38, 39, 40] rfl (by decide +kernel)
set_option maxRecDepth 20000 in
theorem gX5_heard_X5_speaks : GoodIn wsX5_heard (wsV RX5 40 RX5 yX5_speaks wsX5_speaks) := goodIn_app (goodIn_r _ [6, 7, 8, 9] rfl (by decide +kernel)) ggX5_heard_X5_speaks
theorem dX5_heard_0 : decode cX5_heard 0 = .ok (.aload_n 0, 1) := by decide +kernel
theorem dX5_heard_1 : decode cX5_heard 1 = .ok (.aload_n 1, 1) := by decide +kernel
theorem dX5_heard_2 : decode cX5_heard 2 = .ok (.getfield 15, 3) := by decide +kernel
theorem dX5_heard_5 : decode cX5_heard 5 = .ok (.iload_n 2, 1) := by decide +kernel
theorem dX5_heard_6 : decode cX5_heard 6 = .ok (.iaload, 1) := by decide +kernel
theorem dX5_heard_7 : decode cX5_heard 7 = .ok (.putfield 20, 3) := by decide +kernel
theorem dX5_heard_10 : decode cX5_heard 10 = .ok (.aload_n 0, 1) := by decide +kernel
theorem dX5_heard_11 : decode cX5_heard 11 = .ok (.iload_n 2, 1) := by decide +kernel
theorem dX5_heard_12 : decode cX5_heard 12 = .ok (.putfield 24, 3) := by decide +kernel
theorem dX5_heard_15 : decode cX5_heard 15 = .ok (.aload_n 0, 1) := by decide +kernel
theorem dX5_heard_16 : decode cX5_heard 16 = .ok (.aload_n 1, 1) := by decide +kernel
theorem dX5_heard_17 : decode cX5_heard 17 = .ok (.getfield 27, 3) := by decide +kernel
theorem dX5_heard_20 : decode cX5_heard 20 = .ok (.iload_n 2, 1) := by decide +kernel
theorem dX5_heard_21 : decode cX5_heard 21 = .ok (.iaload, 1) := by decide +kernel
theorem dX5_heard_22 : decode cX5_heard 22 = .ok (.putfield 30, 3) := by decide +kernel
theorem dX5_heard_25 : decode cX5_heard 25 = .ok (.aload_n 0, 1) := by decide +kernel
theorem dX5_heard_26 : decode cX5_heard 26 = .ok (.iconst 0, 1) := by decide +kernel
theorem dX5_heard_27 : decode cX5_heard 27 = .ok (.putfield 33, 3) := by decide +kernel
theorem dX5_heard_30 : decode cX5_heard 30 = .ok (.aload_n 0, 1) := by decide +kernel
theorem dX5_heard_31 : decode cX5_heard 31 = .ok (.iconst 0, 1) := by decide +kernel
theorem dX5_heard_32 : decode cX5_heard 32 = .ok (.putfield 37, 3) := by decide +kernel
theorem dX5_heard_35 : decode cX5_heard 35 = .ok (.aload_n 0, 1) := by decide +kernel
theorem dX5_heard_36 : decode cX5_heard 36 = .ok (.aload_n 0, 1) := by decide +kernel
theorem dX5_heard_37 : decode cX5_heard 37 = .ok (.getfield 20, 3) := by decide +kernel
theorem dX5_heard_40 : decode cX5_heard 40 = .ok (.iload_n 3, 1) := by decide +kernel
theorem dX5_heard_41 : decode cX5_heard 41 = .ok (.iload 4, 2) := by decide +kernel
theorem dX5_heard_43 : decode cX5_heard 43 = .ok (.iconst 0, 1) := by decide +kernel
theorem dX5_heard_44 : decode cX5_heard 44 = .ok (.invokevirtual 40, 3) := by decide +kernel
theorem dX5_heard_47 : decode cX5_heard 47 = .ok (.ireturn, 1) := by decide +kernel
set_option maxRecDepth 20000 in
theorem ggX5_speaks_X5_says : GoodIn wsX5_speaks wsX5_says := goodIn_r _ [12, 13, 14, 15, 16, 17, 18, 8, 19, 20, 21, 22, 1, 23, 0, 2, 3, 4, 5, 6, 7, 9, 10, 11, 24, 25, 26, 27, 28, 29] rfl (by decide +kernel)
set_option maxRecDepth 20000 in
theorem gX5_speaks_X5_says : GoodIn wsX5_speaks (wsV RX5 50 RX5 yX5_says wsX5_says) := goodIn_app (goodIn_r _ [5, 6, 7, 8] rfl (by decide +kernel)) ggX5_speaks_X5_says
set_option maxRecDepth 20000 in
theorem ggX5_speaks_X5_saysAbove : GoodIn wsX5_speaks wsX5_saysAbove := goodIn_r _ [23, 13, 14, 15, 16, 17, 18, 8, 12, 19, 20, 21, 22, 1, 0, 2, 3, 4, 5, 6, 7, 9, 10, 11, 24, 25, 26, 27, 28, 29] rfl (by decide +kernel)
set_option maxRecDepth 20000 in
theorem gX5_speaks_X5_saysAbove : GoodIn wsX5_speaks (wsV RX5 54 RX5 yX5_saysAbove wsX5_saysAbove) := goodIn_app (goodIn_r _ [9, 10, 11, 8] rfl (by decide +kernel)) ggX5_speaks_X5_saysAbove
theorem dX5_speaks_0 : decode cX5_speaks 0 = .ok (.aload_n 0, 1) := by decide +kernel
theorem dX5_speaks_1 : decode cX5_speaks 1 = .ok (.getfield 33, 3) := by decide +kernel
theorem dX5_speaks_4 : decode cX5_speaks 4 = .ok (.ifCond .ne 14, 3) := by decide +kernel
theorem dX5_speaks_7 : decode cX5_speaks 7 = .ok (.iload 4, 2) := by decide +kernel
theorem dX5_speaks_9 : decode cX5_speaks 9 = .ok (.bipush 40, 2) := by decide +kernel
theorem dX5_speaks_11 : decode cX5_speaks 11 = .ok (.if_icmp .gt 7, 3) := by decide +kernel
theorem dX5_speaks_14 : decode cX5_speaks 14 = .ok (.iload_n 1, 1) := by decide +kernel
theorem dX5_speaks_15 : decode cX5_speaks 15 = .ok (.ifCond .ge 5, 3) := by decide +kernel
theorem dX5_speaks_18 : decode cX5_speaks 18 = .ok (.iconst 0, 1) := by decide +kernel
theorem dX5_speaks_19 : decode cX5_speaks 19 = .ok (.ireturn, 1) := by decide +kernel
theorem dX5_speaks_20 : decode cX5_speaks 20 = .ok (.iload_n 1, 1) := by decide +kernel
theorem dX5_speaks_21 : decode cX5_speaks 21 = .ok (.istore 5, 2) := by decide +kernel
theorem dX5_speaks_23 : decode cX5_speaks 23 = .ok (.iconst 0, 1) := by decide +kernel
theorem dX5_speaks_24 : decode cX5_speaks 24 = .ok (.istore 6, 2) := by decide +kernel
theorem dX5_speaks_26 : decode cX5_speaks 26 = .ok (.iload 6, 2) := by decide +kernel
theorem dX5_speaks_28 : decode cX5_speaks 28 = .ok (.bipush 8, 2) := by decide +kernel
theorem dX5_speaks_30 : decode cX5_speaks 30 = .ok (.if_icmp .ge 35, 3) := by decide +kernel
theorem dX5_speaks_33 : decode cX5_speaks 33 = .ok (.iload 5, 2) := by decide +kernel
theorem dX5_speaks_35 : decode cX5_speaks 35 = .ok (.ifCond .le 30, 3) := by decide +kernel
theorem dX5_speaks_38 : decode cX5_speaks 38 = .ok (.getstatic 44, 3) := by decide +kernel
theorem dX5_speaks_41 : decode cX5_speaks 41 = .ok (.iload 5, 2) := by decide +kernel
theorem dX5_speaks_43 : decode cX5_speaks 43 = .ok (.iconst 4, 1) := by decide +kernel
theorem dX5_speaks_44 : decode cX5_speaks 44 = .ok (.imul, 1) := by decide +kernel
theorem dX5_speaks_45 : decode cX5_speaks 45 = .ok (.iload_n 2, 1) := by decide +kernel
theorem dX5_speaks_46 : decode cX5_speaks 46 = .ok (.iadd, 1) := by decide +kernel
theorem dX5_speaks_47 : decode cX5_speaks 47 = .ok (.iaload, 1) := by decide +kernel
theorem dX5_speaks_48 : decode cX5_speaks 48 = .ok (.ifCond .ne 17, 3) := by decide +kernel
theorem dX5_speaks_51 : decode cX5_speaks 51 = .ok (.getstatic 47, 3) := by decide +kernel
theorem dX5_speaks_54 : decode cX5_speaks 54 = .ok (.iload 5, 2) := by decide +kernel
theorem dX5_speaks_56 : decode cX5_speaks 56 = .ok (.iaload, 1) := by decide +kernel
theorem dX5_speaks_57 : decode cX5_speaks 57 = .ok (.istore 5, 2) := by decide +kernel
theorem dX5_speaks_59 : decode cX5_speaks 59 = .ok (.iinc 6 1, 3) := by decide +kernel
theorem dX5_speaks_62 : decode cX5_speaks 62 = .ok (.goto (-36), 3) := by decide +kernel
theorem dX5_speaks_65 : decode cX5_speaks 65 = .ok (.getstatic 44, 3) := by decide +kernel
theorem dX5_speaks_68 : decode cX5_speaks 68 = .ok (.iload 5, 2) := by decide +kernel
theorem dX5_speaks_70 : decode cX5_speaks 70 = .ok (.iconst 4, 1) := by decide +kernel
theorem dX5_speaks_71 : decode cX5_speaks 71 = .ok (.imul, 1) := by decide +kernel
theorem dX5_speaks_72 : decode cX5_speaks 72 = .ok (.iload_n 2, 1) := by decide +kernel
theorem dX5_speaks_73 : decode cX5_speaks 73 = .ok (.iadd, 1) := by decide +kernel
theorem dX5_speaks_74 : decode cX5_speaks 74 = .ok (.iaload, 1) := by decide +kernel
theorem dX5_speaks_75 : decode cX5_speaks 75 = .ok (.istore 6, 2) := by decide +kernel
theorem dX5_speaks_77 : decode cX5_speaks 77 = .ok (.aload_n 0, 1) := by decide +kernel
theorem dX5_speaks_78 : decode cX5_speaks 78 = .ok (.getfield 37, 3) := by decide +kernel
theorem dX5_speaks_81 : decode cX5_speaks 81 = .ok (.bipush 30, 2) := by decide +kernel
theorem dX5_speaks_83 : decode cX5_speaks 83 = .ok (.if_icmp .ge 24, 3) := by decide +kernel
theorem dX5_speaks_86 : decode cX5_speaks 86 = .ok (.aload_n 0, 1) := by decide +kernel
theorem dX5_speaks_87 : decode cX5_speaks 87 = .ok (.getfield 11, 3) := by decide +kernel
theorem dX5_speaks_90 : decode cX5_speaks 90 = .ok (.aload_n 0, 1) := by decide +kernel
theorem dX5_speaks_91 : decode cX5_speaks 91 = .ok (.getfield 37, 3) := by decide +kernel
theorem dX5_speaks_94 : decode cX5_speaks 94 = .ok (.iload 6, 2) := by decide +kernel
theorem dX5_speaks_96 : decode cX5_speaks 96 = .ok (.iastore, 1) := by decide +kernel
theorem dX5_speaks_97 : decode cX5_speaks 97 = .ok (.aload_n 0, 1) := by decide +kernel
theorem dX5_speaks_98 : decode cX5_speaks 98 = .ok (.dup, 1) := by decide +kernel
theorem dX5_speaks_99 : decode cX5_speaks 99 = .ok (.getfield 37, 3) := by decide +kernel
theorem dX5_speaks_102 : decode cX5_speaks 102 = .ok (.iconst 1, 1) := by decide +kernel
theorem dX5_speaks_103 : decode cX5_speaks 103 = .ok (.iadd, 1) := by decide +kernel
theorem dX5_speaks_104 : decode cX5_speaks 104 = .ok (.putfield 37, 3) := by decide +kernel
theorem dX5_speaks_107 : decode cX5_speaks 107 = .ok (.iload 5, 2) := by decide +kernel
theorem dX5_speaks_109 : decode cX5_speaks 109 = .ok (.ifCond .ne 17, 3) := by decide +kernel
theorem dX5_speaks_112 : decode cX5_speaks 112 = .ok (.aload_n 0, 1) := by decide +kernel
theorem dX5_speaks_113 : decode cX5_speaks 113 = .ok (.iload 6, 2) := by decide +kernel
theorem dX5_speaks_115 : decode cX5_speaks 115 = .ok (.iload_n 3, 1) := by decide +kernel
theorem dX5_speaks_116 : decode cX5_speaks 116 = .ok (.iload 4, 2) := by decide +kernel
theorem dX5_speaks_118 : decode cX5_speaks 118 = .ok (.iconst 1, 1) := by decide +kernel
theorem dX5_speaks_119 : decode cX5_speaks 119 = .ok (.iadd, 1) := by decide +kernel
theorem dX5_speaks_120 : decode cX5_speaks 120 = .ok (.invokevirtual 50, 3) := by decide +kernel
theorem dX5_speaks_123 : decode cX5_speaks 123 = .ok (.goto 20, 3) := by decide +kernel
theorem dX5_speaks_126 : decode cX5_speaks 126 = .ok (.aload_n 0, 1) := by decide +kernel
theorem dX5_speaks_127 : decode cX5_speaks 127 = .ok (.iload 6, 2) := by decide +kernel
theorem dX5_speaks_129 : decode cX5_speaks 129 = .ok (.getstatic 47, 3) := by decide +kernel
theorem dX5_speaks_132 : decode cX5_speaks 132 = .ok (.iload 5, 2) := by decide +kernel
theorem dX5_speaks_134 : decode cX5_speaks 134 = .ok (.iaload, 1) := by decide +kernel
theorem dX5_speaks_135 : decode cX5_speaks 135 = .ok (.iload_n 3, 1) := by decide +kernel
theorem dX5_speaks_136 : decode cX5_speaks 136 = .ok (.iload 4, 2) := by decide +kernel
theorem dX5_speaks_138 : decode cX5_speaks 138 = .ok (.iconst 1, 1) := by decide +kernel
theorem dX5_speaks_139 : decode cX5_speaks 139 = .ok (.iadd, 1) := by decide +kernel
theorem dX5_speaks_140 : decode cX5_speaks 140 = .ok (.invokevirtual 54, 3) := by decide +kernel
theorem dX5_speaks_143 : decode cX5_speaks 143 = .ok (.ireturn, 1) := by decide +kernel
set_option maxRecDepth 20000 in
theorem ggX5_says_X5_speaks : GoodIn wsX5_says wsX5_speaks := goodIn_r _ [14, 12, 15, 16, 17, 18, 19, 20, 7, 21, 22, 23, 0, 1, 2, 3, 4, 5, 6, 8, 9, 10, 11, 13, 24, 25, 26, 27, 28, 29] rfl (by decide +kernel)
set_option maxRecDepth 20000 in
theorem gX5_says_X5_speaks : GoodIn wsX5_says (wsV RX5 40 RX5 yX5_speaks wsX5_speaks) := goodIn_app (goodIn_r _ [4, 5, 6, 7] rfl (by decide +kernel)) ggX5_says_X5_speaks
set_option maxRecDepth 20000 in
theorem ggX5_says_X5_parts : GoodIn wsX5_says wsX5_parts := goodIn_r _ [11, 3, 12, 24, 25, 26, 27, 28, 29] rfl (by decide +kernel)
set_option maxRecDepth 20000 in
theorem gX5_says_X5_parts : GoodIn wsX5_says (wsV RX5 57 RX5 yX5_parts wsX5_parts) := goodIn_app (goodIn_r _ [8, 9, 10, 7] rfl (by decide +kernel)) ggX5_says_X5_parts
theorem dX5_says_0 : decode cX5_says 0 = .ok (.iload_n 1, 1) := by decide +kernel
theorem dX5_says_1 : decode cX5_says 1 = .ok (.tableswitch 65 10 12 #[27, 34, 48], 27) := by decide +kernel
theorem dX5_says_28 : decode cX5_says 28 = .ok (.iload_n 2, 1) := by decide +kernel
theorem dX5_says_29 : decode cX5_says 29 = .ok (.aload_n 0, 1) := by decide +kernel
theorem dX5_says_30 : decode cX5_says 30 = .ok (.getfield 30, 3) := by decide +kernel
theorem dX5_says_33 : decode cX5_says 33 = .ok (.iadd, 1) := by decide +kernel
theorem dX5_says_34 : decode cX5_says 34 = .ok (.ireturn, 1) := by decide +kernel
theorem dX5_says_35 : decode cX5_says 35 = .ok (.aload_n 0, 1) := by decide +kernel
theorem dX5_says_36 : decode cX5_says 36 = .ok (.aload_n 0, 1) := by decide +kernel
theorem dX5_says_37 : decode cX5_says 37 = .ok (.getfield 20, 3) := by decide +kernel
theorem dX5_says_40 : decode cX5_says 40 = .ok (.iconst 0, 1) := by decide +kernel
theorem dX5_says_41 : decode cX5_says 41 = .ok (.iload_n 2, 1) := by decide +kernel
theorem dX5_says_42 : decode cX5_says 42 = .ok (.iload_n 3, 1) := by decide +kernel
theorem dX5_says_43 : decode cX5_says 43 = .ok (.invokevirtual 40, 3) := by decide +kernel
theorem dX5_says_46 : decode cX5_says 46 = .ok (.iconst 2, 1) := by decide +kernel
theorem dX5_says_47 : decode cX5_says 47 = .ok (.imul, 1) := by decide +kernel
theorem dX5_says_48 : decode cX5_says 48 = .ok (.ireturn, 1) := by decide +kernel
theorem dX5_says_49 : decode cX5_says 49 = .ok (.aload_n 0, 1) := by decide +kernel
theorem dX5_says_50 : decode cX5_says 50 = .ok (.aload_n 0, 1) := by decide +kernel
theorem dX5_says_51 : decode cX5_says 51 = .ok (.getfield 20, 3) := by decide +kernel
theorem dX5_says_54 : decode cX5_says 54 = .ok (.iconst 1, 1) := by decide +kernel
theorem dX5_says_55 : decode cX5_says 55 = .ok (.iload_n 2, 1) := by decide +kernel
theorem dX5_says_56 : decode cX5_says 56 = .ok (.iload_n 3, 1) := by decide +kernel
theorem dX5_says_57 : decode cX5_says 57 = .ok (.invokevirtual 40, 3) := by decide +kernel
theorem dX5_says_60 : decode cX5_says 60 = .ok (.aload_n 0, 1) := by decide +kernel
theorem dX5_says_61 : decode cX5_says 61 = .ok (.getfield 24, 3) := by decide +kernel
theorem dX5_says_64 : decode cX5_says 64 = .ok (.isub, 1) := by decide +kernel
theorem dX5_says_65 : decode cX5_says 65 = .ok (.ireturn, 1) := by decide +kernel
theorem dX5_says_66 : decode cX5_says 66 = .ok (.aload_n 0, 1) := by decide +kernel
theorem dX5_says_67 : decode cX5_says 67 = .ok (.iload_n 2, 1) := by decide +kernel
theorem dX5_says_68 : decode cX5_says 68 = .ok (.invokevirtual 57, 3) := by decide +kernel
theorem dX5_says_71 : decode cX5_says 71 = .ok (.ireturn, 1) := by decide +kernel
theorem dX5_parts_0 : decode cX5_parts 0 = .ok (.aload_n 0, 1) := by decide +kernel
theorem dX5_parts_1 : decode cX5_parts 1 = .ok (.getfield 24, 3) := by decide +kernel
theorem dX5_parts_4 : decode cX5_parts 4 = .ok (.iconst 2, 1) := by decide +kernel
theorem dX5_parts_5 : decode cX5_parts 5 = .ok (.isub, 1) := by decide +kernel
theorem dX5_parts_6 : decode cX5_parts 6 = .ok (.istore_n 2, 1) := by decide +kernel
theorem dX5_parts_7 : decode cX5_parts 7 = .ok (.iload_n 2, 1) := by decide +kernel
theorem dX5_parts_8 : decode cX5_parts 8 = .ok (.ifCond .ne 10, 3) := by decide +kernel
theorem dX5_parts_11 : decode cX5_parts 11 = .ok (.aload_n 0, 1) := by decide +kernel
theorem dX5_parts_12 : decode cX5_parts 12 = .ok (.iconst 1, 1) := by decide +kernel
theorem dX5_parts_13 : decode cX5_parts 13 = .ok (.putfield 33, 3) := by decide +kernel
theorem dX5_parts_16 : decode cX5_parts 16 = .ok (.iconst 0, 1) := by decide +kernel
theorem dX5_parts_17 : decode cX5_parts 17 = .ok (.ireturn, 1) := by decide +kernel
theorem dX5_parts_18 : decode cX5_parts 18 = .ok (.iload_n 1, 1) := by decide +kernel
theorem dX5_parts_19 : decode cX5_parts 19 = .ok (.iload_n 2, 1) := by decide +kernel
theorem dX5_parts_20 : decode cX5_parts 20 = .ok (.idiv, 1) := by decide +kernel
theorem dX5_parts_21 : decode cX5_parts 21 = .ok (.ireturn, 1) := by decide +kernel
set_option maxRecDepth 20000 in
theorem ggX5_saysAbove_X5_speaks : GoodIn wsX5_saysAbove wsX5_speaks := goodIn_r _ [14, 13, 15, 16, 17, 18, 19, 20, 7, 21, 22, 23, 8, 1, 2, 3, 4, 5, 6, 9, 10, 11, 12, 0, 24, 25, 26, 27, 28, 29] rfl (by decide +kernel)
set_option maxRecDepth 20000 in
theorem gX5_saysAbove_X5_speaks : GoodIn wsX5_saysAbove (wsV RX5 40 RX5 yX5_speaks wsX5_speaks) := goodIn_app (goodIn_r _ [4, 5, 6, 7] rfl (by decide +kernel)) ggX5_saysAbove_X5_speaks
theorem dX5_saysAbove_0 : decode cX5_saysAbove 0 = .ok (.iload_n 1, 1) := by decide +kernel
theorem dX5_saysAbove_1 : decode cX5_saysAbove 1 = .ok (.lookupswitch 270 #[(20, 99), (21, 111), (30, 126), (31, 138), (40, 161), (41, 173), (50, 196), (60, 208), (61, 220), (80, 243), (81, 258)], 99) := by decide +kernel
theorem dX5_saysAbove_100 : decode cX5_saysAbove 100 = .ok (.aload_n 0, 1) := by decide +kernel
theorem dX5_saysAbove_101 : decode cX5_saysAbove 101 = .ok (.iload_n 2, 1) := by decide +kernel
theorem dX5_saysAbove_102 : decode cX5_saysAbove 102 = .ok (.iconst 0, 1) := by decide +kernel
theorem dX5_saysAbove_103 : decode cX5_saysAbove 103 = .ok (.iload_n 3, 1) := by decide +kernel
theorem dX5_saysAbove_104 : decode cX5_saysAbove 104 = .ok (.iload 4, 2) := by decide +kernel
theorem dX5_saysAbove_106 : decode cX5_saysAbove 106 = .ok (.invokevirtual 40, 3) := by decide +kernel
theorem dX5_saysAbove_109 : decode cX5_saysAbove 109 = .ok (.iconst 3, 1) := by decide +kernel
theorem dX5_saysAbove_110 : decode cX5_saysAbove 110 = .ok (.iadd, 1) := by decide +kernel
theorem dX5_saysAbove_111 : decode cX5_saysAbove 111 = .ok (.ireturn, 1) := by decide +kernel
theorem dX5_saysAbove_112 : decode cX5_saysAbove 112 = .ok (.aload_n 0, 1) := by decide +kernel
theorem dX5_saysAbove_113 : decode cX5_saysAbove 113 = .ok (.iload_n 2, 1) := by decide +kernel
theorem dX5_saysAbove_114 : decode cX5_saysAbove 114 = .ok (.iconst 2, 1) := by decide +kernel
theorem dX5_saysAbove_115 : decode cX5_saysAbove 115 = .ok (.iload_n 3, 1) := by decide +kernel
theorem dX5_saysAbove_116 : decode cX5_saysAbove 116 = .ok (.iload 4, 2) := by decide +kernel
theorem dX5_saysAbove_118 : decode cX5_saysAbove 118 = .ok (.invokevirtual 40, 3) := by decide +kernel
theorem dX5_saysAbove_121 : decode cX5_saysAbove 121 = .ok (.aload_n 0, 1) := by decide +kernel
theorem dX5_saysAbove_122 : decode cX5_saysAbove 122 = .ok (.getfield 30, 3) := by decide +kernel
theorem dX5_saysAbove_125 : decode cX5_saysAbove 125 = .ok (.ixor, 1) := by decide +kernel
theorem dX5_saysAbove_126 : decode cX5_saysAbove 126 = .ok (.ireturn, 1) := by decide +kernel
theorem dX5_saysAbove_127 : decode cX5_saysAbove 127 = .ok (.iconst 0, 1) := by decide +kernel
theorem dX5_saysAbove_128 : decode cX5_saysAbove 128 = .ok (.aload_n 0, 1) := by decide +kernel
theorem dX5_saysAbove_129 : decode cX5_saysAbove 129 = .ok (.iload_n 2, 1) := by decide +kernel
theorem dX5_saysAbove_130 : decode cX5_saysAbove 130 = .ok (.iconst 1, 1) := by decide +kernel
theorem dX5_saysAbove_131 : decode cX5_saysAbove 131 = .ok (.iload_n 3, 1) := by decide +kernel
theorem dX5_saysAbove_132 : decode cX5_saysAbove 132 = .ok (.iload 4, 2) := by decide +kernel
theorem dX5_saysAbove_134 : decode cX5_saysAbove 134 = .ok (.invokevirtual 40, 3) := by decide +kernel
theorem dX5_saysAbove_137 : decode cX5_saysAbove 137 = .ok (.isub, 1) := by decide +kernel
theorem dX5_saysAbove_138 : decode cX5_saysAbove 138 = .ok (.ireturn, 1) := by decide +kernel
theorem dX5_saysAbove_139 : decode cX5_saysAbove 139 = .ok (.aload_n 0, 1) := by decide +kernel
theorem dX5_saysAbove_140 : decode cX5_saysAbove 140 = .ok (.iload_n 2, 1) := by decide +kernel
theorem dX5_saysAbove_141 : decode cX5_saysAbove 141 = .ok (.iconst 3, 1) := by decide +kernel
theorem dX5_saysAbove_142 : decode cX5_saysAbove 142 = .ok (.iload_n 3, 1) := by decide +kernel
theorem dX5_saysAbove_143 : decode cX5_saysAbove 143 = .ok (.iload 4, 2) := by decide +kernel
theorem dX5_saysAbove_145 : decode cX5_saysAbove 145 = .ok (.invokevirtual 40, 3) := by decide +kernel
theorem dX5_saysAbove_148 : decode cX5_saysAbove 148 = .ok (.aload_n 0, 1) := by decide +kernel
theorem dX5_saysAbove_149 : decode cX5_saysAbove 149 = .ok (.aload_n 0, 1) := by decide +kernel
theorem dX5_saysAbove_150 : decode cX5_saysAbove 150 = .ok (.getfield 20, 3) := by decide +kernel
theorem dX5_saysAbove_153 : decode cX5_saysAbove 153 = .ok (.iconst 0, 1) := by decide +kernel
theorem dX5_saysAbove_154 : decode cX5_saysAbove 154 = .ok (.iconst 1, 1) := by decide +kernel
theorem dX5_saysAbove_155 : decode cX5_saysAbove 155 = .ok (.iload 4, 2) := by decide +kernel
theorem dX5_saysAbove_157 : decode cX5_saysAbove 157 = .ok (.invokevirtual 40, 3) := by decide +kernel
theorem dX5_saysAbove_160 : decode cX5_saysAbove 160 = .ok (.iadd, 1) := by decide +kernel
theorem dX5_saysAbove_161 : decode cX5_saysAbove 161 = .ok (.ireturn, 1) := by decide +kernel
theorem dX5_saysAbove_162 : decode cX5_saysAbove 162 = .ok (.aload_n 0, 1) := by decide +kernel
theorem dX5_saysAbove_163 : decode cX5_saysAbove 163 = .ok (.iload_n 2, 1) := by decide +kernel
theorem dX5_saysAbove_164 : decode cX5_saysAbove 164 = .ok (.iconst 1, 1) := by decide +kernel
theorem dX5_saysAbove_165 : decode cX5_saysAbove 165 = .ok (.iload_n 3, 1) := by decide +kernel
theorem dX5_saysAbove_166 : decode cX5_saysAbove 166 = .ok (.iconst 2, 1) := by decide +kernel
theorem dX5_saysAbove_167 : decode cX5_saysAbove 167 = .ok (.idiv, 1) := by decide +kernel
theorem dX5_saysAbove_168 : decode cX5_saysAbove 168 = .ok (.iload 4, 2) := by decide +kernel
theorem dX5_saysAbove_170 : decode cX5_saysAbove 170 = .ok (.invokevirtual 40, 3) := by decide +kernel
theorem dX5_saysAbove_173 : decode cX5_saysAbove 173 = .ok (.ireturn, 1) := by decide +kernel
theorem dX5_saysAbove_174 : decode cX5_saysAbove 174 = .ok (.aload_n 0, 1) := by decide +kernel
theorem dX5_saysAbove_175 : decode cX5_saysAbove 175 = .ok (.iload_n 2, 1) := by decide +kernel
theorem dX5_saysAbove_176 : decode cX5_saysAbove 176 = .ok (.iconst 2, 1) := by decide +kernel
theorem dX5_saysAbove_177 : decode cX5_saysAbove 177 = .ok (.iload_n 3, 1) := by decide +kernel
theorem dX5_saysAbove_178 : decode cX5_saysAbove 178 = .ok (.iload 4, 2) := by decide +kernel
theorem dX5_saysAbove_180 : decode cX5_saysAbove 180 = .ok (.invokevirtual 40, 3) := by decide +kernel
theorem dX5_saysAbove_183 : decode cX5_saysAbove 183 = .ok (.aload_n 0, 1) := by decide +kernel
theorem dX5_saysAbove_184 : decode cX5_saysAbove 184 = .ok (.aload_n 0, 1) := by decide +kernel
theorem dX5_saysAbove_185 : decode cX5_saysAbove 185 = .ok (.getfield 20, 3) := by decide +kernel
theorem dX5_saysAbove_188 : decode cX5_saysAbove 188 = .ok (.iconst 1, 1) := by decide +kernel
theorem dX5_saysAbove_189 : decode cX5_saysAbove 189 = .ok (.iconst 2, 1) := by decide +kernel
theorem dX5_saysAbove_190 : decode cX5_saysAbove 190 = .ok (.iload 4, 2) := by decide +kernel
theorem dX5_saysAbove_192 : decode cX5_saysAbove 192 = .ok (.invokevirtual 40, 3) := by decide +kernel
theorem dX5_saysAbove_195 : decode cX5_saysAbove 195 = .ok (.isub, 1) := by decide +kernel
theorem dX5_saysAbove_196 : decode cX5_saysAbove 196 = .ok (.ireturn, 1) := by decide +kernel
theorem dX5_saysAbove_197 : decode cX5_saysAbove 197 = .ok (.aload_n 0, 1) := by decide +kernel
theorem dX5_saysAbove_198 : decode cX5_saysAbove 198 = .ok (.iload_n 2, 1) := by decide +kernel
theorem dX5_saysAbove_199 : decode cX5_saysAbove 199 = .ok (.iconst 0, 1) := by decide +kernel
theorem dX5_saysAbove_200 : decode cX5_saysAbove 200 = .ok (.iload_n 3, 1) := by decide +kernel
theorem dX5_saysAbove_201 : decode cX5_saysAbove 201 = .ok (.iload 4, 2) := by decide +kernel
theorem dX5_saysAbove_203 : decode cX5_saysAbove 203 = .ok (.invokevirtual 40, 3) := by decide +kernel
theorem dX5_saysAbove_206 : decode cX5_saysAbove 206 = .ok (.iconst 3, 1) := by decide +kernel
theorem dX5_saysAbove_207 : decode cX5_saysAbove 207 = .ok (.imul, 1) := by decide +kernel
theorem dX5_saysAbove_208 : decode cX5_saysAbove 208 = .ok (.ireturn, 1) := by decide +kernel
theorem dX5_saysAbove_209 : decode cX5_saysAbove 209 = .ok (.aload_n 0, 1) := by decide +kernel
theorem dX5_saysAbove_210 : decode cX5_saysAbove 210 = .ok (.iload_n 2, 1) := by decide +kernel
theorem dX5_saysAbove_211 : decode cX5_saysAbove 211 = .ok (.iconst 2, 1) := by decide +kernel
theorem dX5_saysAbove_212 : decode cX5_saysAbove 212 = .ok (.iload_n 3, 1) := by decide +kernel
theorem dX5_saysAbove_213 : decode cX5_saysAbove 213 = .ok (.iconst 1, 1) := by decide +kernel
theorem dX5_saysAbove_214 : decode cX5_saysAbove 214 = .ok (.iadd, 1) := by decide +kernel
theorem dX5_saysAbove_215 : decode cX5_saysAbove 215 = .ok (.iload 4, 2) := by decide +kernel
theorem dX5_saysAbove_217 : decode cX5_saysAbove 217 = .ok (.invokevirtual 40, 3) := by decide +kernel
theorem dX5_saysAbove_220 : decode cX5_saysAbove 220 = .ok (.ireturn, 1) := by decide +kernel
theorem dX5_saysAbove_221 : decode cX5_saysAbove 221 = .ok (.aload_n 0, 1) := by decide +kernel
theorem dX5_saysAbove_222 : decode cX5_saysAbove 222 = .ok (.aload_n 0, 1) := by decide +kernel
theorem dX5_saysAbove_223 : decode cX5_saysAbove 223 = .ok (.getfield 20, 3) := by decide +kernel
theorem dX5_saysAbove_226 : decode cX5_saysAbove 226 = .ok (.iconst 2, 1) := by decide +kernel
theorem dX5_saysAbove_227 : decode cX5_saysAbove 227 = .ok (.iload_n 3, 1) := by decide +kernel
theorem dX5_saysAbove_228 : decode cX5_saysAbove 228 = .ok (.iload 4, 2) := by decide +kernel
theorem dX5_saysAbove_230 : decode cX5_saysAbove 230 = .ok (.invokevirtual 40, 3) := by decide +kernel
theorem dX5_saysAbove_233 : decode cX5_saysAbove 233 = .ok (.aload_n 0, 1) := by decide +kernel
theorem dX5_saysAbove_234 : decode cX5_saysAbove 234 = .ok (.iload_n 2, 1) := by decide +kernel
theorem dX5_saysAbove_235 : decode cX5_saysAbove 235 = .ok (.iconst 3, 1) := by decide +kernel
theorem dX5_saysAbove_236 : decode cX5_saysAbove 236 = .ok (.iload_n 3, 1) := by decide +kernel
theorem dX5_saysAbove_237 : decode cX5_saysAbove 237 = .ok (.iload 4, 2) := by decide +kernel
theorem dX5_saysAbove_239 : decode cX5_saysAbove 239 = .ok (.invokevirtual 40, 3) := by decide +kernel
theorem dX5_saysAbove_242 : decode cX5_saysAbove 242 = .ok (.isub, 1) := by decide +kernel
theorem dX5_saysAbove_243 : decode cX5_saysAbove 243 = .ok (.ireturn, 1) := by decide +kernel
theorem dX5_saysAbove_244 : decode cX5_saysAbove 244 = .ok (.aload_n 0, 1) := by decide +kernel
theorem dX5_saysAbove_245 : decode cX5_saysAbove 245 = .ok (.iload_n 2, 1) := by decide +kernel
theorem dX5_saysAbove_246 : decode cX5_saysAbove 246 = .ok (.iconst 1, 1) := by decide +kernel
theorem dX5_saysAbove_247 : decode cX5_saysAbove 247 = .ok (.iload_n 3, 1) := by decide +kernel
theorem dX5_saysAbove_248 : decode cX5_saysAbove 248 = .ok (.iload 4, 2) := by decide +kernel
theorem dX5_saysAbove_250 : decode cX5_saysAbove 250 = .ok (.invokevirtual 40, 3) := by decide +kernel
theorem dX5_saysAbove_253 : decode cX5_saysAbove 253 = .ok (.aload_n 0, 1) := by decide +kernel
theorem dX5_saysAbove_254 : decode cX5_saysAbove 254 = .ok (.getfield 24, 3) := by decide +kernel
theorem dX5_saysAbove_257 : decode cX5_saysAbove 257 = .ok (.iadd, 1) := by decide +kernel
theorem dX5_saysAbove_258 : decode cX5_saysAbove 258 = .ok (.ireturn, 1) := by decide +kernel
theorem dX5_saysAbove_259 : decode cX5_saysAbove 259 = .ok (.aload_n 0, 1) := by decide +kernel
theorem dX5_saysAbove_260 : decode cX5_saysAbove 260 = .ok (.iload_n 2, 1) := by decide +kernel
theorem dX5_saysAbove_261 : decode cX5_saysAbove 261 = .ok (.iconst 3, 1) := by decide +kernel
theorem dX5_saysAbove_262 : decode cX5_saysAbove 262 = .ok (.iload_n 3, 1) := by decide +kernel
theorem dX5_saysAbove_263 : decode cX5_saysAbove 263 = .ok (.iload 4, 2) := by decide +kernel
theorem dX5_saysAbove_265 : decode cX5_saysAbove 265 = .ok (.invokevirtual 40, 3) := by decide +kernel
theorem dX5_saysAbove_268 : decode cX5_saysAbove 268 = .ok (.iconst 5, 1) := by decide +kernel
theorem dX5_saysAbove_269 : decode cX5_saysAbove 269 = .ok (.ixor, 1) := by decide +kernel
theorem dX5_saysAbove_270 : decode cX5_saysAbove 270 = .ok (.ireturn, 1) := by decide +kernel
theorem dX5_saysAbove_271 : decode cX5_saysAbove 271 = .ok (.iconst 0, 1) := by decide +kernel
theorem dX5_saysAbove_272 : decode cX5_saysAbove 272 = .ok (.ireturn, 1) := by decide +kernel
set_option maxRecDepth 20000 in
theorem ggX6_init_X1_init : GoodIn wsX6_init wsX1_init := goodIn_r _ [23, 24, 2, 3, 25, 20, 26, 27, 28, 29, 30, 31, 32, 33, 34, 35, 36, 37, 38, 39, 40, 41, 42, 43, 44, 45, 46, 47, 48, 49, 50, 51, 52, 53, 54, 55, 72, 73, 74, 75, 76, 77, 78, 79, 80, 103, 104, 105, 106, 107, 108, 109, 110, 111, 112, 113, 114, 115, 116, 117, 118] rfl (by decide +kernel)
set_option maxRecDepth 20000 in
theorem gX6_init_X1_init_n9 : GoodIn wsX6_init (wsX1_init) := ggX6_init_X1_init
set_option maxRecDepth 20000 in
theorem ggX6_init_X2_init : GoodIn wsX6_init wsX2_init := goodIn_r _ [57, 58, 2, 3, 20, 59, 60, 61, 88, 89, 90, 91, 92, 93] rfl (by decide +kernel)
set_option maxRecDepth 20000 in
theorem gX6_init_X2_init_n18 : GoodIn wsX6_init (wsX2_init) := ggX6_init_X2_init
set_option maxRecDepth 20000 in
theorem ggX6_init_X5_init : GoodIn wsX6_init wsX5_init := goodIn_r _ [63, 64, 2, 3, 20, 65, 94, 95, 96, 97, 98, 99] rfl (by decide +kernel)
set_option maxRecDepth 20000 in
theorem gX6_init_X5_init_n25 : GoodIn wsX6_init (wsX5_init) := ggX6_init_X5_init
set_option maxRecDepth 20000 in
theorem ggX6_init_X3_init : GoodIn wsX6_init wsX3_init := goodIn_r _ [67, 68, 2, 3, 20, 69, 70, 71, 100, 101, 102] rfl (by decide +kernel)
set_option maxRecDepth 20000 in
theorem gX6_init_X3_init_n32 : GoodIn wsX6_init (wsX3_init) := ggX6_init_X3_init
theorem dX6_init_0 : decode cX6_init 0 = .ok (.aload_n 0, 1) := by decide +kernel
theorem dX6_init_1 : decode cX6_init 1 = .ok (.invokespecial 1, 3) := by decide +kernel
theorem dX6_init_4 : decode cX6_init 4 = .ok (.aload_n 0, 1) := by decide +kernel
theorem dX6_init_5 : decode cX6_init 5 = .ok (.new 7, 3) := by decide +kernel
theorem dX6_init_8 : decode cX6_init 8 = .ok (.dup, 1) := by decide +kernel
theorem dX6_init_9 : decode cX6_init 9 = .ok (.invokespecial 9, 3) := by decide +kernel
theorem dX6_init_12 : decode cX6_init 12 = .ok (.putfield 10, 3) := by decide +kernel
theorem dX6_init_15 : decode cX6_init 15 = .ok (.aload_n 0, 1) := by decide +kernel
theorem dX6_init_16 : decode cX6_init 16 = .ok (.new 16, 3) := by decide +kernel
theorem dX6_init_19 : decode cX6_init 19 = .ok (.dup, 1) := by decide +kernel
theorem dX6_init_20 : decode cX6_init 20 = .ok (.invokespecial 18, 3) := by decide +kernel
theorem dX6_init_23 : decode cX6_init 23 = .ok (.putfield 19, 3) := by decide +kernel
theorem dX6_init_26 : decode cX6_init 26 = .ok (.aload_n 0, 1) := by decide +kernel
theorem dX6_init_27 : decode cX6_init 27 = .ok (.new 23, 3) := by decide +kernel
theorem dX6_init_30 : decode cX6_init 30 = .ok (.dup, 1) := by decide +kernel
theorem dX6_init_31 : decode cX6_init 31 = .ok (.invokespecial 25, 3) := by decide +kernel
theorem dX6_init_34 : decode cX6_init 34 = .ok (.putfield 26, 3) := by decide +kernel
theorem dX6_init_37 : decode cX6_init 37 = .ok (.aload_n 0, 1) := by decide +kernel
theorem dX6_init_38 : decode cX6_init 38 = .ok (.new 30, 3) := by decide +kernel
theorem dX6_init_41 : decode cX6_init 41 = .ok (.dup, 1) := by decide +kernel
theorem dX6_init_42 : decode cX6_init 42 = .ok (.invokespecial 32, 3) := by decide +kernel
theorem dX6_init_45 : decode cX6_init 45 = .ok (.putfield 33, 3) := by decide +kernel
theorem dX6_init_48 : decode cX6_init 48 = .ok (.aload_n 0, 1) := by decide +kernel
theorem dX6_init_49 : decode cX6_init 49 = .ok (.bipush 7, 2) := by decide +kernel
theorem dX6_init_51 : decode cX6_init 51 = .ok (.newarray .int, 2) := by decide +kernel
theorem dX6_init_53 : decode cX6_init 53 = .ok (.putfield 37, 3) := by decide +kernel
theorem dX6_init_56 : decode cX6_init 56 = .ok (.return_, 1) := by decide +kernel
set_option maxRecDepth 20000 in
theorem ggX6_go_X6_error : GoodIn wsX6_go wsX6_error := goodIn_r _ [6, 7, 8, 9, 10, 11, 12, 13, 14, 15] rfl (by decide +kernel)
set_option maxRecDepth 20000 in
theorem gX6_go_X6_error : GoodIn wsX6_go (wsV RX6 41 RX6 yX6_error wsX6_error) := goodIn_app (goodIn_r _ [2, 3, 4, 5] rfl (by decide +kernel)) ggX6_go_X6_error
theorem dX6_go_0 : decode cX6_go 0 = .ok (.iload_n 1, 1) := by decide +kernel
theorem dX6_go_1 : decode cX6_go 1 = .ok (.iconst 1, 1) := by decide +kernel
theorem dX6_go_2 : decode cX6_go 2 = .ok (.if_icmp .lt 10, 3) := by decide +kernel
theorem dX6_go_5 : decode cX6_go 5 = .ok (.iload_n 1, 1) := by decide +kernel
theorem dX6_go_6 : decode cX6_go 6 = .ok (.sipush 9999, 3) := by decide +kernel
theorem dX6_go_9 : decode cX6_go 9 = .ok (.if_icmp .le 9, 3) := by decide +kernel
theorem dX6_go_12 : decode cX6_go 12 = .ok (.aload_n 0, 1) := by decide +kernel
theorem dX6_go_13 : decode cX6_go 13 = .ok (.iconst 1, 1) := by decide +kernel
theorem dX6_go_14 : decode cX6_go 14 = .ok (.invokevirtual 41, 3) := by decide +kernel
theorem dX6_go_17 : decode cX6_go 17 = .ok (.ireturn, 1) := by decide +kernel
theorem dX6_go_18 : decode cX6_go 18 = .ok (.aload_n 0, 1) := by decide +kernel
theorem dX6_go_19 : decode cX6_go 19 = .ok (.getfield 10, 3) := by decide +kernel
theorem dX6_go_22 : decode cX6_go 22 = .ok (.getfield 45, 3) := by decide +kernel
theorem dX6_go_25 : decode cX6_go 25 = .ok (.sipush 29999, 3) := by decide +kernel
theorem dX6_go_28 : decode cX6_go 28 = .ok (.iload_n 1, 1) := by decide +kernel
theorem dX6_go_29 : decode cX6_go 29 = .ok (.isub, 1) := by decide +kernel
theorem dX6_go_30 : decode cX6_go 30 = .ok (.if_icmp .le 9, 3) := by decide +kernel
theorem dX6_go_33 : decode cX6_go 33 = .ok (.aload_n 0, 1) := by decide +kernel
theorem dX6_go_34 : decode cX6_go 34 = .ok (.iconst 3, 1) := by decide +kernel
theorem dX6_go_35 : decode cX6_go 35 = .ok (.invokevirtual 41, 3) := by decide +kernel
theorem dX6_go_38 : decode cX6_go 38 = .ok (.ireturn, 1) := by decide +kernel
theorem dX6_go_39 : decode cX6_go 39 = .ok (.aload_n 0, 1) := by decide +kernel
theorem dX6_go_40 : decode cX6_go 40 = .ok (.getfield 10, 3) := by decide +kernel
theorem dX6_go_43 : decode cX6_go 43 = .ok (.dup, 1) := by decide +kernel
theorem dX6_go_44 : decode cX6_go 44 = .ok (.getfield 45, 3) := by decide +kernel
theorem dX6_go_47 : decode cX6_go 47 = .ok (.iload_n 1, 1) := by decide +kernel
theorem dX6_go_48 : decode cX6_go 48 = .ok (.iadd, 1) := by decide +kernel
theorem dX6_go_49 : decode cX6_go 49 = .ok (.putfield 45, 3) := by decide +kernel
theorem dX6_go_52 : decode cX6_go 52 = .ok (.aload_n 0, 1) := by decide +kernel
theorem dX6_go_53 : decode cX6_go 53 = .ok (.getfield 10, 3) := by decide +kernel
theorem dX6_go_56 : decode cX6_go 56 = .ok (.getfield 45, 3) := by decide +kernel
theorem dX6_go_59 : decode cX6_go 59 = .ok (.ireturn, 1) := by decide +kernel
set_option maxRecDepth 20000 in
theorem ggX6_write_X1_refusesPutting : GoodIn wsX6_write wsX1_refusesPutting := goodIn_r _ [6, 7, 8, 9, 10, 11, 12, 13, 14, 15, 16, 17, 18, 19, 20, 21, 22, 5, 23, 24, 25, 26, 27, 28, 29, 30, 31, 32, 33, 34, 35, 36, 37, 38, 39, 40, 41, 42, 43, 44, 45, 46, 47, 48, 49, 50, 51, 52, 53, 54, 55, 56, 57, 58, 59, 60, 61, 62, 63, 64, 65, 66, 67, 68, 69, 143, 144, 145, 146, 147, 148, 149, 150, 151, 152, 153, 154, 155, 156, 157, 158, 159, 160, 161, 162, 163, 164, 165, 166, 167] rfl (by decide +kernel)
set_option maxRecDepth 20000 in
theorem gX6_write_X1_refusesPutting : GoodIn wsX6_write (wsV RX6 49 RX1 yX1_refusesPutting wsX1_refusesPutting) := goodIn_app (goodIn_r _ [2, 3, 4, 5] rfl (by decide +kernel)) ggX6_write_X1_refusesPutting
set_option maxRecDepth 20000 in
theorem ggX6_write_X6_error : GoodIn wsX6_write wsX6_error := goodIn_r _ [73, 74, 75, 136, 137, 138, 139, 140, 141, 142] rfl (by decide +kernel)
set_option maxRecDepth 20000 in
theorem gX6_write_X6_error : GoodIn wsX6_write (wsV RX6 41 RX6 yX6_error wsX6_error) := goodIn_app (goodIn_r _ [70, 71, 72, 16] rfl (by decide +kernel)) ggX6_write_X6_error
set_option maxRecDepth 20000 in
theorem ggX6_write_X1_puts : GoodIn wsX6_write wsX1_puts := goodIn_r _ [79, 7, 28, 80, 81, 82, 11, 83, 14, 84, 85, 86, 87, 88, 13, 89, 90, 91, 92, 93, 94, 95, 96, 97, 98, 99, 100, 101, 102, 103, 104, 105, 106, 107, 44, 42, 43, 108, 109, 110, 111, 112, 113, 114, 115, 116, 117, 118, 143, 144, 145, 146, 147, 148, 149, 150, 151, 152, 153, 154, 155, 156, 157, 158, 159, 160, 161] rfl (by decide +kernel)
set_option maxRecDepth 20000 in
theorem gX6_write_X1_puts : GoodIn wsX6_write (wsV RX6 53 RX1 yX1_puts wsX1_puts) := goodIn_app (goodIn_r _ [76, 77, 78, 5] rfl (by decide +kernel)) ggX6_write_X1_puts
set_option maxRecDepth 20000 in
theorem ggX6_write_X6_answered : GoodIn wsX6_write wsX6_answered := goodIn_r _ [122, 1, 123, 124, 125, 5, 126, 7, 31, 32, 33, 34, 35, 36, 37, 127, 128, 129, 11, 130, 109, 52, 53, 54, 55, 56, 57, 58, 59, 60, 61, 62, 63, 64, 65, 66, 67, 68, 69, 14, 24, 25, 26, 27, 28, 29, 30, 38, 39, 40, 41, 42, 43, 44, 45, 46, 47, 8, 9, 10, 12, 13, 48, 49, 50, 51, 131, 132, 133, 134, 135, 86, 87, 88, 89, 90, 91, 92, 93, 94, 95, 84, 96, 97, 98, 99, 104, 105, 106, 107, 108, 110, 111, 112, 113, 114, 115, 116, 117, 118, 136, 137, 138, 139, 140, 141, 142, 143, 144, 145, 146, 147, 148, 149, 150, 151, 152, 153, 154, 155, 156, 157, 158, 159, 160, 161, 162, 163, 164, 165, 166, 167] rfl (by decide +kernel)
set_option maxRecDepth 20000 in
theorem gX6_write_X6_answered : GoodIn wsX6_write (wsV RX6 56 RX6 yX6_answered wsX6_answered) := goodIn_app (goodIn_r _ [119, 120, 121, 16] rfl (by decide +kernel)) ggX6_write_X6_answered
theorem dX6_write_0 : decode cX6_write 0 = .ok (.aload_n 0, 1) := by decide +kernel
theorem dX6_write_1 : decode cX6_write 1 = .ok (.getfield 10, 3) := by decide +kernel
theorem dX6_write_4 : decode cX6_write 4 = .ok (.iload_n 1, 1) := by decide +kernel
theorem dX6_write_5 : decode cX6_write 5 = .ok (.iload_n 2, 1) := by decide +kernel
theorem dX6_write_6 : decode cX6_write 6 = .ok (.iload_n 3, 1) := by decide +kernel
theorem dX6_write_7 : decode cX6_write 7 = .ok (.invokevirtual 49, 3) := by decide +kernel
theorem dX6_write_10 : decode cX6_write 10 = .ok (.istore 4, 2) := by decide +kernel
theorem dX6_write_12 : decode cX6_write 12 = .ok (.iload 4, 2) := by decide +kernel
theorem dX6_write_14 : decode cX6_write 14 = .ok (.ifCond .eq 10, 3) := by decide +kernel
theorem dX6_write_17 : decode cX6_write 17 = .ok (.aload_n 0, 1) := by decide +kernel
theorem dX6_write_18 : decode cX6_write 18 = .ok (.iload 4, 2) := by decide +kernel
theorem dX6_write_20 : decode cX6_write 20 = .ok (.invokevirtual 41, 3) := by decide +kernel
theorem dX6_write_23 : decode cX6_write 23 = .ok (.ireturn, 1) := by decide +kernel
theorem dX6_write_24 : decode cX6_write 24 = .ok (.aload_n 0, 1) := by decide +kernel
theorem dX6_write_25 : decode cX6_write 25 = .ok (.aload_n 0, 1) := by decide +kernel
theorem dX6_write_26 : decode cX6_write 26 = .ok (.getfield 10, 3) := by decide +kernel
theorem dX6_write_29 : decode cX6_write 29 = .ok (.iload_n 1, 1) := by decide +kernel
theorem dX6_write_30 : decode cX6_write 30 = .ok (.iload_n 2, 1) := by decide +kernel
theorem dX6_write_31 : decode cX6_write 31 = .ok (.iload_n 3, 1) := by decide +kernel
theorem dX6_write_32 : decode cX6_write 32 = .ok (.invokevirtual 53, 3) := by decide +kernel
theorem dX6_write_35 : decode cX6_write 35 = .ok (.invokevirtual 56, 3) := by decide +kernel
theorem dX6_write_38 : decode cX6_write 38 = .ok (.ireturn, 1) := by decide +kernel
set_option maxRecDepth 20000 in
theorem ggX6_cut_X6_isWriter : GoodIn wsX6_cut wsX6_isWriter := goodIn_r _ [5] rfl (by decide +kernel)
set_option maxRecDepth 20000 in
theorem gX6_cut_X6_isWriter : GoodIn wsX6_cut (va_wsS RX6 59 yX6_isWriter wsX6_isWriter) := goodIn_app (goodIn_r _ [2, 3, 4] rfl (by decide +kernel)) ggX6_cut_X6_isWriter
set_option maxRecDepth 20000 in
theorem ggX6_cut_X0_pageSize : GoodIn wsX6_cut wsX0_pageSize := goodIn_r _ [10, 11, 12, 144, 145, 146, 147, 148, 149, 150, 151, 152, 153] rfl (by decide +kernel)
set_option maxRecDepth 20000 in
theorem gX6_cut_X0_pageSize : GoodIn wsX6_cut (wsV RX6 67 RX0 yX0_pageSize wsX0_pageSize) := goodIn_app (goodIn_r _ [6, 7, 8, 9] rfl (by decide +kernel)) ggX6_cut_X0_pageSize
set_option maxRecDepth 20000 in
theorem ggX6_cut_X6_error : GoodIn wsX6_cut wsX6_error := goodIn_r _ [16, 17, 18, 128, 129, 130, 131, 132, 133, 134] rfl (by decide +kernel)
set_option maxRecDepth 20000 in
theorem gX6_cut_X6_error : GoodIn wsX6_cut (wsV RX6 41 RX6 yX6_error wsX6_error) := goodIn_app (goodIn_r _ [13, 14, 15, 4] rfl (by decide +kernel)) ggX6_cut_X6_error
set_option maxRecDepth 20000 in
theorem ggX6_cut_X1_refusesActing : GoodIn wsX6_cut wsX1_refusesActing := goodIn_r _ [23, 24, 25, 26, 27, 22, 28, 29, 30, 31, 32, 33, 34, 35, 36, 37, 38, 39, 40, 41, 9, 42, 12, 43, 44, 45, 46, 47, 48, 49, 7, 8, 10, 11, 50, 51, 52, 53, 54, 55, 56, 57, 58, 59, 60, 61, 62, 63, 64, 65, 66, 67, 68, 69, 70, 71, 135, 136, 137, 138, 139, 140, 141, 142, 143, 154, 155, 156, 157, 158, 159, 144, 145, 146, 147, 148, 149, 150, 151, 152, 153] rfl (by decide +kernel)
set_option maxRecDepth 20000 in
theorem gX6_cut_X1_refusesActing : GoodIn wsX6_cut (wsV RX6 73 RX1 yX1_refusesActing wsX1_refusesActing) := goodIn_app (goodIn_r _ [19, 20, 21, 22] rfl (by decide +kernel)) ggX6_cut_X1_refusesActing
set_option maxRecDepth 20000 in
theorem ggX6_cut_X1_takesOut : GoodIn wsX6_cut wsX1_takesOut := goodIn_r _ [75, 24, 29, 76, 77, 78, 9, 79, 80, 81, 82, 83, 84, 12, 11, 85, 86, 87, 88, 89, 90, 91, 92, 45, 43, 44, 93, 94, 95, 96, 97, 98, 99, 100, 135, 136, 137, 138, 139, 140, 141, 142, 143, 144, 145, 146, 147, 148, 149, 150, 151, 152, 153] rfl (by decide +kernel)
set_option maxRecDepth 20000 in
theorem gX6_cut_X1_takesOut : GoodIn wsX6_cut (wsV RX6 76 RX1 yX1_takesOut wsX1_takesOut) := goodIn_app (goodIn_r _ [72, 73, 74, 22] rfl (by decide +kernel)) ggX6_cut_X1_takesOut
set_option maxRecDepth 20000 in
theorem ggX6_cut_X6_answered : GoodIn wsX6_cut wsX6_answered := goodIn_r _ [104, 1, 105, 106, 107, 22, 108, 24, 32, 33, 34, 35, 36, 37, 38, 109, 110, 111, 9, 112, 94, 54, 55, 56, 57, 58, 59, 60, 61, 62, 63, 64, 65, 66, 67, 68, 69, 70, 71, 12, 25, 26, 27, 28, 29, 30, 31, 39, 40, 41, 42, 43, 44, 45, 46, 47, 48, 49, 7, 8, 10, 11, 50, 51, 52, 53, 113, 114, 115, 116, 117, 118, 119, 120, 121, 122, 123, 124, 125, 126, 127, 80, 85, 86, 87, 88, 89, 90, 91, 92, 93, 95, 96, 97, 98, 99, 100, 77, 78, 79, 128, 129, 130, 131, 132, 133, 134, 135, 136, 137, 138, 139, 140, 141, 142, 143, 144, 145, 146, 147, 148, 149, 150, 151, 152, 153, 154, 155, 156, 157, 158, 159] rfl (by decide +kernel)
set_option maxRecDepth 20000 in
theorem gX6_cut_X6_answered : GoodIn wsX6_cut (wsV RX6 56 RX6 yX6_answered wsX6_answered) := goodIn_app (goodIn_r _ [101, 102, 103, 4] rfl (by decide +kernel)) ggX6_cut_X6_answered
theorem dX6_cut_0 : decode cX6_cut 0 = .ok (.iload_n 1, 1) := by decide +kernel
theorem dX6_cut_1 : decode cX6_cut 1 = .ok (.bipush 100, 2) := by decide +kernel
theorem dX6_cut_3 : decode cX6_cut 3 = .ok (.irem, 1) := by decide +kernel
theorem dX6_cut_4 : decode cX6_cut 4 = .ok (.istore_n 2, 1) := by decide +kernel
theorem dX6_cut_5 : decode cX6_cut 5 = .ok (.iload_n 1, 1) := by decide +kernel
theorem dX6_cut_6 : decode cX6_cut 6 = .ok (.bipush 100, 2) := by decide +kernel
theorem dX6_cut_8 : decode cX6_cut 8 = .ok (.idiv, 1) := by decide +kernel
theorem dX6_cut_9 : decode cX6_cut 9 = .ok (.invokestatic 59, 3) := by decide +kernel
theorem dX6_cut_12 : decode cX6_cut 12 = .ok (.ifCond .eq 21, 3) := by decide +kernel
theorem dX6_cut_15 : decode cX6_cut 15 = .ok (.iload_n 2, 1) := by decide +kernel
theorem dX6_cut_16 : decode cX6_cut 16 = .ok (.ifCond .lt 17, 3) := by decide +kernel
theorem dX6_cut_19 : decode cX6_cut 19 = .ok (.iload_n 2, 1) := by decide +kernel
theorem dX6_cut_20 : decode cX6_cut 20 = .ok (.aload_n 0, 1) := by decide +kernel
theorem dX6_cut_21 : decode cX6_cut 21 = .ok (.getfield 10, 3) := by decide +kernel
theorem dX6_cut_24 : decode cX6_cut 24 = .ok (.getfield 63, 3) := by decide +kernel
theorem dX6_cut_27 : decode cX6_cut 27 = .ok (.invokevirtual 67, 3) := by decide +kernel
theorem dX6_cut_30 : decode cX6_cut 30 = .ok (.if_icmp .lt 9, 3) := by decide +kernel
theorem dX6_cut_33 : decode cX6_cut 33 = .ok (.aload_n 0, 1) := by decide +kernel
theorem dX6_cut_34 : decode cX6_cut 34 = .ok (.iconst 1, 1) := by decide +kernel
theorem dX6_cut_35 : decode cX6_cut 35 = .ok (.invokevirtual 41, 3) := by decide +kernel
theorem dX6_cut_38 : decode cX6_cut 38 = .ok (.ireturn, 1) := by decide +kernel
theorem dX6_cut_39 : decode cX6_cut 39 = .ok (.aload_n 0, 1) := by decide +kernel
theorem dX6_cut_40 : decode cX6_cut 40 = .ok (.getfield 10, 3) := by decide +kernel
theorem dX6_cut_43 : decode cX6_cut 43 = .ok (.iload_n 1, 1) := by decide +kernel
theorem dX6_cut_44 : decode cX6_cut 44 = .ok (.bipush 100, 2) := by decide +kernel
theorem dX6_cut_46 : decode cX6_cut 46 = .ok (.idiv, 1) := by decide +kernel
theorem dX6_cut_47 : decode cX6_cut 47 = .ok (.invokevirtual 73, 3) := by decide +kernel
theorem dX6_cut_50 : decode cX6_cut 50 = .ok (.istore_n 3, 1) := by decide +kernel
theorem dX6_cut_51 : decode cX6_cut 51 = .ok (.iload_n 3, 1) := by decide +kernel
theorem dX6_cut_52 : decode cX6_cut 52 = .ok (.ifCond .eq 9, 3) := by decide +kernel
theorem dX6_cut_55 : decode cX6_cut 55 = .ok (.aload_n 0, 1) := by decide +kernel
theorem dX6_cut_56 : decode cX6_cut 56 = .ok (.iload_n 3, 1) := by decide +kernel
theorem dX6_cut_57 : decode cX6_cut 57 = .ok (.invokevirtual 41, 3) := by decide +kernel
theorem dX6_cut_60 : decode cX6_cut 60 = .ok (.ireturn, 1) := by decide +kernel
theorem dX6_cut_61 : decode cX6_cut 61 = .ok (.aload_n 0, 1) := by decide +kernel
theorem dX6_cut_62 : decode cX6_cut 62 = .ok (.aload_n 0, 1) := by decide +kernel
theorem dX6_cut_63 : decode cX6_cut 63 = .ok (.getfield 10, 3) := by decide +kernel
theorem dX6_cut_66 : decode cX6_cut 66 = .ok (.iload_n 1, 1) := by decide +kernel
theorem dX6_cut_67 : decode cX6_cut 67 = .ok (.bipush 100, 2) := by decide +kernel
theorem dX6_cut_69 : decode cX6_cut 69 = .ok (.idiv, 1) := by decide +kernel
theorem dX6_cut_70 : decode cX6_cut 70 = .ok (.iload_n 2, 1) := by decide +kernel
theorem dX6_cut_71 : decode cX6_cut 71 = .ok (.invokevirtual 76, 3) := by decide +kernel
theorem dX6_cut_74 : decode cX6_cut 74 = .ok (.invokevirtual 56, 3) := by decide +kernel
theorem dX6_cut_77 : decode cX6_cut 77 = .ok (.ireturn, 1) := by decide +kernel
set_option maxRecDepth 20000 in
theorem ggX6_back_X6_isWriter : GoodIn wsX6_back wsX6_isWriter := goodIn_r _ [5] rfl (by decide +kernel)
set_option maxRecDepth 20000 in
theorem gX6_back_X6_isWriter : GoodIn wsX6_back (va_wsS RX6 59 yX6_isWriter wsX6_isWriter) := goodIn_app (goodIn_r _ [2, 3, 4] rfl (by decide +kernel)) ggX6_back_X6_isWriter
set_option maxRecDepth 20000 in
theorem ggX6_back_X6_isVersion : GoodIn wsX6_back wsX6_isVersion := goodIn_r _ [9, 1, 123, 124, 125, 126, 127, 128, 129, 130, 131, 132, 133, 134, 135, 136, 137, 138, 139, 140, 141, 142, 143, 144, 145, 146, 147, 148] rfl (by decide +kernel)
set_option maxRecDepth 20000 in
theorem gX6_back_X6_isVersion : GoodIn wsX6_back (wsV RX6 80 RX6 yX6_isVersion wsX6_isVersion) := goodIn_app (goodIn_r _ [6, 7, 8, 4] rfl (by decide +kernel)) ggX6_back_X6_isVersion
set_option maxRecDepth 20000 in
theorem ggX6_back_X6_error : GoodIn wsX6_back wsX6_error := goodIn_r _ [13, 14, 15, 123, 124, 125, 126, 127, 128, 129] rfl (by decide +kernel)
set_option maxRecDepth 20000 in
theorem gX6_back_X6_error : GoodIn wsX6_back (wsV RX6 41 RX6 yX6_error wsX6_error) := goodIn_app (goodIn_r _ [10, 11, 12, 4] rfl (by decide +kernel)) ggX6_back_X6_error
set_option maxRecDepth 20000 in
theorem ggX6_back_X1_refusesActing : GoodIn wsX6_back wsX1_refusesActing := goodIn_r _ [20, 21, 22, 23, 24, 19, 25, 26, 27, 28, 29, 30, 31, 32, 33, 34, 35, 36, 37, 38, 39, 40, 41, 42, 43, 44, 45, 46, 47, 48, 49, 50, 51, 52, 53, 54, 55, 56, 57, 58, 59, 60, 61, 62, 63, 64, 65, 66, 67, 68, 69, 70, 71, 72, 73, 74, 130, 131, 132, 133, 134, 135, 136, 137, 138, 149, 150, 151, 152, 153, 154, 139, 140, 141, 142, 143, 144, 145, 146, 147, 148] rfl (by decide +kernel)
set_option maxRecDepth 20000 in
theorem gX6_back_X1_refusesActing : GoodIn wsX6_back (wsV RX6 73 RX1 yX1_refusesActing wsX1_refusesActing) := goodIn_app (goodIn_r _ [16, 17, 18, 19] rfl (by decide +kernel)) ggX6_back_X1_refusesActing
set_option maxRecDepth 20000 in
theorem ggX6_back_X1_putsBack : GoodIn wsX6_back wsX1_putsBack := goodIn_r _ [78, 21, 26, 79, 80, 81, 39, 82, 41, 52, 83, 84, 85, 86, 87, 88, 89, 90, 91, 92, 93, 94, 95, 96, 97, 98, 44, 42, 43, 99, 100, 101, 102, 103, 104, 105, 106, 107, 108, 109, 130, 131, 132, 133, 134, 135, 136, 137, 138, 139, 140, 141, 142, 143, 144, 145, 146, 147, 148] rfl (by decide +kernel)
set_option maxRecDepth 20000 in
theorem gX6_back_X1_putsBack : GoodIn wsX6_back (wsV RX6 83 RX1 yX1_putsBack wsX1_putsBack) := goodIn_app (goodIn_r _ [75, 76, 77, 19] rfl (by decide +kernel)) ggX6_back_X1_putsBack
set_option maxRecDepth 20000 in
theorem ggX6_back_X6_answered : GoodIn wsX6_back wsX6_answered := goodIn_r _ [113, 1, 114, 115, 116, 19, 117, 21, 29, 30, 31, 32, 33, 34, 35, 118, 119, 120, 39, 121, 100, 57, 58, 59, 60, 61, 62, 63, 64, 65, 66, 67, 68, 69, 70, 71, 72, 73, 74, 41, 22, 23, 24, 25, 26, 27, 28, 36, 37, 38, 40, 42, 43, 44, 45, 46, 47, 48, 49, 50, 51, 52, 53, 54, 55, 56, 122, 76, 77, 78, 79, 80, 81, 82, 83, 84, 85, 86, 87, 88, 89, 90, 91, 92, 93, 94, 95, 96, 97, 98, 99, 101, 102, 103, 104, 105, 106, 107, 108, 109, 123, 124, 125, 126, 127, 128, 129, 130, 131, 132, 133, 134, 135, 136, 137, 138, 139, 140, 141, 142, 143, 144, 145, 146, 147, 148, 149, 150, 151, 152, 153, 154] rfl (by decide +kernel)
set_option maxRecDepth 20000 in
theorem gX6_back_X6_answered : GoodIn wsX6_back (wsV RX6 56 RX6 yX6_answered wsX6_answered) := goodIn_app (goodIn_r _ [110, 111, 112, 4] rfl (by decide +kernel)) ggX6_back_X6_answered
theorem dX6_back_0 : decode cX6_back 0 = .ok (.iload_n 1, 1) := by decide +kernel
theorem dX6_back_1 : decode cX6_back 1 = .ok (.invokestatic 59, 3) := by decide +kernel
theorem dX6_back_4 : decode cX6_back 4 = .ok (.ifCond .eq 11, 3) := by decide +kernel
theorem dX6_back_7 : decode cX6_back 7 = .ok (.aload_n 0, 1) := by decide +kernel
theorem dX6_back_8 : decode cX6_back 8 = .ok (.iload_n 2, 1) := by decide +kernel
theorem dX6_back_9 : decode cX6_back 9 = .ok (.invokevirtual 80, 3) := by decide +kernel
theorem dX6_back_12 : decode cX6_back 12 = .ok (.ifCond .ne 9, 3) := by decide +kernel
theorem dX6_back_15 : decode cX6_back 15 = .ok (.aload_n 0, 1) := by decide +kernel
theorem dX6_back_16 : decode cX6_back 16 = .ok (.iconst 1, 1) := by decide +kernel
theorem dX6_back_17 : decode cX6_back 17 = .ok (.invokevirtual 41, 3) := by decide +kernel
theorem dX6_back_20 : decode cX6_back 20 = .ok (.ireturn, 1) := by decide +kernel
theorem dX6_back_21 : decode cX6_back 21 = .ok (.aload_n 0, 1) := by decide +kernel
theorem dX6_back_22 : decode cX6_back 22 = .ok (.getfield 10, 3) := by decide +kernel
theorem dX6_back_25 : decode cX6_back 25 = .ok (.iload_n 1, 1) := by decide +kernel
theorem dX6_back_26 : decode cX6_back 26 = .ok (.invokevirtual 73, 3) := by decide +kernel
theorem dX6_back_29 : decode cX6_back 29 = .ok (.istore_n 3, 1) := by decide +kernel
theorem dX6_back_30 : decode cX6_back 30 = .ok (.iload_n 3, 1) := by decide +kernel
theorem dX6_back_31 : decode cX6_back 31 = .ok (.ifCond .eq 9, 3) := by decide +kernel
theorem dX6_back_34 : decode cX6_back 34 = .ok (.aload_n 0, 1) := by decide +kernel
theorem dX6_back_35 : decode cX6_back 35 = .ok (.iload_n 3, 1) := by decide +kernel
theorem dX6_back_36 : decode cX6_back 36 = .ok (.invokevirtual 41, 3) := by decide +kernel
theorem dX6_back_39 : decode cX6_back 39 = .ok (.ireturn, 1) := by decide +kernel
theorem dX6_back_40 : decode cX6_back 40 = .ok (.aload_n 0, 1) := by decide +kernel
theorem dX6_back_41 : decode cX6_back 41 = .ok (.aload_n 0, 1) := by decide +kernel
theorem dX6_back_42 : decode cX6_back 42 = .ok (.getfield 10, 3) := by decide +kernel
theorem dX6_back_45 : decode cX6_back 45 = .ok (.iconst 2, 1) := by decide +kernel
theorem dX6_back_46 : decode cX6_back 46 = .ok (.iload_n 1, 1) := by decide +kernel
theorem dX6_back_47 : decode cX6_back 47 = .ok (.iload_n 2, 1) := by decide +kernel
theorem dX6_back_48 : decode cX6_back 48 = .ok (.bipush 20, 2) := by decide +kernel
theorem dX6_back_50 : decode cX6_back 50 = .ok (.invokevirtual 83, 3) := by decide +kernel
theorem dX6_back_53 : decode cX6_back 53 = .ok (.invokevirtual 56, 3) := by decide +kernel
theorem dX6_back_56 : decode cX6_back 56 = .ok (.ireturn, 1) := by decide +kernel
set_option maxRecDepth 20000 in
theorem ggX6_half_X6_isWriter : GoodIn wsX6_half wsX6_isWriter := goodIn_r _ [5] rfl (by decide +kernel)
set_option maxRecDepth 20000 in
theorem gX6_half_X6_isWriter : GoodIn wsX6_half (va_wsS RX6 59 yX6_isWriter wsX6_isWriter) := goodIn_app (goodIn_r _ [2, 3, 4] rfl (by decide +kernel)) ggX6_half_X6_isWriter
set_option maxRecDepth 20000 in
theorem ggX6_half_X6_isVersion : GoodIn wsX6_half wsX6_isVersion := goodIn_r _ [9, 1, 127, 128, 129, 130, 131, 132, 133, 134, 135, 136, 137, 138, 139, 140, 141, 142, 143, 144, 145, 146, 147, 148, 149, 150, 151, 152] rfl (by decide +kernel)
set_option maxRecDepth 20000 in
theorem gX6_half_X6_isVersion : GoodIn wsX6_half (wsV RX6 80 RX6 yX6_isVersion wsX6_isVersion) := goodIn_app (goodIn_r _ [6, 7, 8, 4] rfl (by decide +kernel)) ggX6_half_X6_isVersion
set_option maxRecDepth 20000 in
theorem ggX6_half_X6_error : GoodIn wsX6_half wsX6_error := goodIn_r _ [13, 14, 15, 127, 128, 129, 130, 131, 132, 133] rfl (by decide +kernel)
set_option maxRecDepth 20000 in
theorem gX6_half_X6_error : GoodIn wsX6_half (wsV RX6 41 RX6 yX6_error wsX6_error) := goodIn_app (goodIn_r _ [10, 11, 12, 4] rfl (by decide +kernel)) ggX6_half_X6_error
set_option maxRecDepth 20000 in
theorem ggX6_half_X1_refusesActing : GoodIn wsX6_half wsX1_refusesActing := goodIn_r _ [20, 21, 22, 23, 24, 19, 25, 26, 27, 28, 29, 30, 31, 32, 33, 34, 35, 36, 37, 38, 39, 40, 41, 42, 43, 44, 45, 46, 47, 48, 49, 50, 51, 52, 53, 54, 55, 56, 57, 58, 59, 60, 61, 62, 63, 64, 65, 66, 67, 68, 69, 70, 71, 72, 73, 74, 134, 135, 136, 137, 138, 139, 140, 141, 142, 153, 154, 155, 156, 157, 158, 143, 144, 145, 146, 147, 148, 149, 150, 151, 152] rfl (by decide +kernel)
set_option maxRecDepth 20000 in
theorem gX6_half_X1_refusesActing : GoodIn wsX6_half (wsV RX6 73 RX1 yX1_refusesActing wsX1_refusesActing) := goodIn_app (goodIn_r _ [16, 17, 18, 19] rfl (by decide +kernel)) ggX6_half_X1_refusesActing
set_option maxRecDepth 20000 in
theorem ggX6_half_X0_halfSize : GoodIn wsX6_half wsX0_halfSize := goodIn_r _ [78, 52, 79, 80, 81, 82, 41, 83, 84, 85, 143, 144, 145, 146, 147, 148, 149, 150, 151, 152] rfl (by decide +kernel)
set_option maxRecDepth 20000 in
theorem gX6_half_X0_halfSize : GoodIn wsX6_half (wsV RX6 87 RX0 yX0_halfSize wsX0_halfSize) := goodIn_app (goodIn_r _ [75, 76, 77, 39] rfl (by decide +kernel)) ggX6_half_X0_halfSize
set_option maxRecDepth 20000 in
theorem ggX6_half_X1_putsBack : GoodIn wsX6_half wsX1_putsBack := goodIn_r _ [89, 21, 26, 90, 91, 92, 39, 93, 41, 52, 79, 80, 81, 82, 83, 84, 85, 94, 95, 96, 97, 98, 99, 100, 101, 102, 44, 42, 43, 103, 104, 105, 106, 107, 108, 109, 110, 111, 112, 113, 134, 135, 136, 137, 138, 139, 140, 141, 142, 143, 144, 145, 146, 147, 148, 149, 150, 151, 152] rfl (by decide +kernel)
set_option maxRecDepth 20000 in
theorem gX6_half_X1_putsBack : GoodIn wsX6_half (wsV RX6 83 RX1 yX1_putsBack wsX1_putsBack) := goodIn_app (goodIn_r _ [86, 87, 88, 19] rfl (by decide +kernel)) ggX6_half_X1_putsBack
set_option maxRecDepth 20000 in
theorem ggX6_half_X6_answered : GoodIn wsX6_half wsX6_answered := goodIn_r _ [117, 1, 118, 119, 120, 19, 121, 21, 29, 30, 31, 32, 33, 34, 35, 122, 123, 124, 39, 125, 104, 57, 58, 59, 60, 61, 62, 63, 64, 65, 66, 67, 68, 69, 70, 71, 72, 73, 74, 41, 22, 23, 24, 25, 26, 27, 28, 36, 37, 38, 40, 42, 43, 44, 45, 46, 47, 48, 49, 50, 51, 52, 53, 54, 55, 56, 126, 87, 88, 89, 90, 91, 92, 93, 79, 80, 81, 82, 83, 84, 85, 94, 95, 96, 97, 98, 99, 100, 101, 102, 103, 105, 106, 107, 108, 109, 110, 111, 112, 113, 127, 128, 129, 130, 131, 132, 133, 134, 135, 136, 137, 138, 139, 140, 141, 142, 143, 144, 145, 146, 147, 148, 149, 150, 151, 152, 153, 154, 155, 156, 157, 158] rfl (by decide +kernel)
set_option maxRecDepth 20000 in
theorem gX6_half_X6_answered : GoodIn wsX6_half (wsV RX6 56 RX6 yX6_answered wsX6_answered) := goodIn_app (goodIn_r _ [114, 115, 116, 4] rfl (by decide +kernel)) ggX6_half_X6_answered
theorem dX6_half_0 : decode cX6_half 0 = .ok (.iload_n 1, 1) := by decide +kernel
theorem dX6_half_1 : decode cX6_half 1 = .ok (.invokestatic 59, 3) := by decide +kernel
theorem dX6_half_4 : decode cX6_half 4 = .ok (.ifCond .eq 21, 3) := by decide +kernel
theorem dX6_half_7 : decode cX6_half 7 = .ok (.aload_n 0, 1) := by decide +kernel
theorem dX6_half_8 : decode cX6_half 8 = .ok (.iload_n 2, 1) := by decide +kernel
theorem dX6_half_9 : decode cX6_half 9 = .ok (.invokevirtual 80, 3) := by decide +kernel
theorem dX6_half_12 : decode cX6_half 12 = .ok (.ifCond .eq 13, 3) := by decide +kernel
theorem dX6_half_15 : decode cX6_half 15 = .ok (.iload_n 3, 1) := by decide +kernel
theorem dX6_half_16 : decode cX6_half 16 = .ok (.ifCond .lt 9, 3) := by decide +kernel
theorem dX6_half_19 : decode cX6_half 19 = .ok (.iload_n 3, 1) := by decide +kernel
theorem dX6_half_20 : decode cX6_half 20 = .ok (.bipush 20, 2) := by decide +kernel
theorem dX6_half_22 : decode cX6_half 22 = .ok (.if_icmp .le 9, 3) := by decide +kernel
theorem dX6_half_25 : decode cX6_half 25 = .ok (.aload_n 0, 1) := by decide +kernel
theorem dX6_half_26 : decode cX6_half 26 = .ok (.iconst 1, 1) := by decide +kernel
theorem dX6_half_27 : decode cX6_half 27 = .ok (.invokevirtual 41, 3) := by decide +kernel
theorem dX6_half_30 : decode cX6_half 30 = .ok (.ireturn, 1) := by decide +kernel
theorem dX6_half_31 : decode cX6_half 31 = .ok (.aload_n 0, 1) := by decide +kernel
theorem dX6_half_32 : decode cX6_half 32 = .ok (.getfield 10, 3) := by decide +kernel
theorem dX6_half_35 : decode cX6_half 35 = .ok (.iload_n 1, 1) := by decide +kernel
theorem dX6_half_36 : decode cX6_half 36 = .ok (.invokevirtual 73, 3) := by decide +kernel
theorem dX6_half_39 : decode cX6_half 39 = .ok (.istore 4, 2) := by decide +kernel
theorem dX6_half_41 : decode cX6_half 41 = .ok (.iload 4, 2) := by decide +kernel
theorem dX6_half_43 : decode cX6_half 43 = .ok (.ifCond .eq 10, 3) := by decide +kernel
theorem dX6_half_46 : decode cX6_half 46 = .ok (.aload_n 0, 1) := by decide +kernel
theorem dX6_half_47 : decode cX6_half 47 = .ok (.iload 4, 2) := by decide +kernel
theorem dX6_half_49 : decode cX6_half 49 = .ok (.invokevirtual 41, 3) := by decide +kernel
theorem dX6_half_52 : decode cX6_half 52 = .ok (.ireturn, 1) := by decide +kernel
theorem dX6_half_53 : decode cX6_half 53 = .ok (.aload_n 0, 1) := by decide +kernel
theorem dX6_half_54 : decode cX6_half 54 = .ok (.getfield 10, 3) := by decide +kernel
theorem dX6_half_57 : decode cX6_half 57 = .ok (.getfield 63, 3) := by decide +kernel
theorem dX6_half_60 : decode cX6_half 60 = .ok (.iload_n 2, 1) := by decide +kernel
theorem dX6_half_61 : decode cX6_half 61 = .ok (.iload_n 3, 1) := by decide +kernel
theorem dX6_half_62 : decode cX6_half 62 = .ok (.invokevirtual 87, 3) := by decide +kernel
theorem dX6_half_65 : decode cX6_half 65 = .ok (.bipush 20, 2) := by decide +kernel
theorem dX6_half_67 : decode cX6_half 67 = .ok (.if_icmp .le 9, 3) := by decide +kernel
theorem dX6_half_70 : decode cX6_half 70 = .ok (.aload_n 0, 1) := by decide +kernel
theorem dX6_half_71 : decode cX6_half 71 = .ok (.iconst 4, 1) := by decide +kernel
theorem dX6_half_72 : decode cX6_half 72 = .ok (.invokevirtual 41, 3) := by decide +kernel
theorem dX6_half_75 : decode cX6_half 75 = .ok (.ireturn, 1) := by decide +kernel
theorem dX6_half_76 : decode cX6_half 76 = .ok (.aload_n 0, 1) := by decide +kernel
theorem dX6_half_77 : decode cX6_half 77 = .ok (.aload_n 0, 1) := by decide +kernel
theorem dX6_half_78 : decode cX6_half 78 = .ok (.getfield 10, 3) := by decide +kernel
theorem dX6_half_81 : decode cX6_half 81 = .ok (.iconst 3, 1) := by decide +kernel
theorem dX6_half_82 : decode cX6_half 82 = .ok (.iload_n 1, 1) := by decide +kernel
theorem dX6_half_83 : decode cX6_half 83 = .ok (.iload_n 2, 1) := by decide +kernel
theorem dX6_half_84 : decode cX6_half 84 = .ok (.iload_n 3, 1) := by decide +kernel
theorem dX6_half_85 : decode cX6_half 85 = .ok (.invokevirtual 83, 3) := by decide +kernel
theorem dX6_half_88 : decode cX6_half 88 = .ok (.invokevirtual 56, 3) := by decide +kernel
theorem dX6_half_91 : decode cX6_half 91 = .ok (.ireturn, 1) := by decide +kernel
set_option maxRecDepth 20000 in
theorem ggX6_shut_X6_isWriter : GoodIn wsX6_shut wsX6_isWriter := goodIn_r _ [5] rfl (by decide +kernel)
set_option maxRecDepth 20000 in
theorem gX6_shut_X6_isWriter : GoodIn wsX6_shut (va_wsS RX6 59 yX6_isWriter wsX6_isWriter) := goodIn_app (goodIn_r _ [2, 3, 4] rfl (by decide +kernel)) ggX6_shut_X6_isWriter
set_option maxRecDepth 20000 in
theorem ggX6_shut_X6_error : GoodIn wsX6_shut wsX6_error := goodIn_r _ [9, 10, 11, 127, 128, 129, 130, 131, 132, 133] rfl (by decide +kernel)
set_option maxRecDepth 20000 in
theorem gX6_shut_X6_error : GoodIn wsX6_shut (wsV RX6 41 RX6 yX6_error wsX6_error) := goodIn_app (goodIn_r _ [6, 7, 8, 4] rfl (by decide +kernel)) ggX6_shut_X6_error
set_option maxRecDepth 20000 in
theorem ggX6_shut_X1_refusesActing : GoodIn wsX6_shut wsX1_refusesActing := goodIn_r _ [16, 17, 18, 19, 20, 15, 21, 22, 23, 24, 25, 26, 27, 28, 29, 30, 31, 32, 33, 34, 35, 36, 37, 38, 39, 40, 41, 42, 43, 44, 45, 46, 47, 48, 49, 50, 51, 52, 53, 54, 55, 56, 57, 58, 59, 60, 61, 62, 63, 64, 65, 66, 67, 68, 69, 70, 134, 135, 136, 137, 138, 139, 140, 141, 142, 143, 144, 145, 146, 147, 148, 149, 150, 151, 152, 153, 154, 155, 156, 157, 158] rfl (by decide +kernel)
set_option maxRecDepth 20000 in
theorem gX6_shut_X1_refusesActing : GoodIn wsX6_shut (wsV RX6 73 RX1 yX1_refusesActing wsX1_refusesActing) := goodIn_app (goodIn_r _ [12, 13, 14, 15] rfl (by decide +kernel)) ggX6_shut_X1_refusesActing
set_option maxRecDepth 20000 in
theorem ggX6_shut_X1_shutsFor : GoodIn wsX6_shut wsX1_shutsFor := goodIn_r _ [74, 22, 23, 24, 17, 75, 76, 77, 35, 78, 37, 79, 80, 81, 82, 48, 83, 84, 85, 86, 87, 88, 89, 90, 91, 92, 93, 94, 95, 96, 97, 98, 40, 38, 39, 99, 100, 101, 102, 103, 104, 105, 106, 107, 108, 109, 134, 135, 136, 137, 138, 139, 140, 141, 142, 149, 150, 151, 152, 153, 154, 155, 156, 157, 158] rfl (by decide +kernel)
set_option maxRecDepth 20000 in
theorem gX6_shut_X1_shutsFor : GoodIn wsX6_shut (wsV RX6 90 RX1 yX1_shutsFor wsX1_shutsFor) := goodIn_app (goodIn_r _ [71, 72, 73, 15] rfl (by decide +kernel)) ggX6_shut_X1_shutsFor
set_option maxRecDepth 20000 in
theorem ggX6_shut_X6_answered : GoodIn wsX6_shut wsX6_answered := goodIn_r _ [113, 1, 114, 115, 116, 15, 117, 17, 25, 26, 27, 28, 29, 30, 31, 118, 119, 120, 35, 121, 100, 53, 54, 55, 56, 57, 58, 59, 60, 61, 62, 63, 64, 65, 66, 67, 68, 69, 70, 37, 18, 19, 20, 21, 22, 23, 24, 32, 33, 34, 36, 38, 39, 40, 41, 42, 43, 44, 45, 46, 47, 48, 49, 50, 51, 52, 122, 123, 124, 125, 126, 80, 81, 82, 83, 84, 85, 86, 87, 88, 89, 90, 91, 92, 93, 94, 95, 96, 97, 98, 99, 101, 102, 103, 104, 105, 106, 107, 108, 109, 127, 128, 129, 130, 131, 132, 133, 134, 135, 136, 137, 138, 139, 140, 141, 142, 149, 150, 151, 152, 153, 154, 155, 156, 157, 158, 143, 144, 145, 146, 147, 148] rfl (by decide +kernel)
set_option maxRecDepth 20000 in
theorem gX6_shut_X6_answered : GoodIn wsX6_shut (wsV RX6 56 RX6 yX6_answered wsX6_answered) := goodIn_app (goodIn_r _ [110, 111, 112, 4] rfl (by decide +kernel)) ggX6_shut_X6_answered
theorem dX6_shut_0 : decode cX6_shut 0 = .ok (.iload_n 1, 1) := by decide +kernel
theorem dX6_shut_1 : decode cX6_shut 1 = .ok (.invokestatic 59, 3) := by decide +kernel
theorem dX6_shut_4 : decode cX6_shut 4 = .ok (.ifCond .eq 15, 3) := by decide +kernel
theorem dX6_shut_7 : decode cX6_shut 7 = .ok (.iload_n 2, 1) := by decide +kernel
theorem dX6_shut_8 : decode cX6_shut 8 = .ok (.iconst 1, 1) := by decide +kernel
theorem dX6_shut_9 : decode cX6_shut 9 = .ok (.if_icmp .lt 10, 3) := by decide +kernel
theorem dX6_shut_12 : decode cX6_shut 12 = .ok (.iload_n 2, 1) := by decide +kernel
theorem dX6_shut_13 : decode cX6_shut 13 = .ok (.sipush 9999, 3) := by decide +kernel
theorem dX6_shut_16 : decode cX6_shut 16 = .ok (.if_icmp .le 9, 3) := by decide +kernel
theorem dX6_shut_19 : decode cX6_shut 19 = .ok (.aload_n 0, 1) := by decide +kernel
theorem dX6_shut_20 : decode cX6_shut 20 = .ok (.iconst 1, 1) := by decide +kernel
theorem dX6_shut_21 : decode cX6_shut 21 = .ok (.invokevirtual 41, 3) := by decide +kernel
theorem dX6_shut_24 : decode cX6_shut 24 = .ok (.ireturn, 1) := by decide +kernel
theorem dX6_shut_25 : decode cX6_shut 25 = .ok (.aload_n 0, 1) := by decide +kernel
theorem dX6_shut_26 : decode cX6_shut 26 = .ok (.getfield 10, 3) := by decide +kernel
theorem dX6_shut_29 : decode cX6_shut 29 = .ok (.iload_n 1, 1) := by decide +kernel
theorem dX6_shut_30 : decode cX6_shut 30 = .ok (.invokevirtual 73, 3) := by decide +kernel
theorem dX6_shut_33 : decode cX6_shut 33 = .ok (.istore_n 3, 1) := by decide +kernel
theorem dX6_shut_34 : decode cX6_shut 34 = .ok (.iload_n 3, 1) := by decide +kernel
theorem dX6_shut_35 : decode cX6_shut 35 = .ok (.ifCond .eq 9, 3) := by decide +kernel
theorem dX6_shut_38 : decode cX6_shut 38 = .ok (.aload_n 0, 1) := by decide +kernel
theorem dX6_shut_39 : decode cX6_shut 39 = .ok (.iload_n 3, 1) := by decide +kernel
theorem dX6_shut_40 : decode cX6_shut 40 = .ok (.invokevirtual 41, 3) := by decide +kernel
theorem dX6_shut_43 : decode cX6_shut 43 = .ok (.ireturn, 1) := by decide +kernel
theorem dX6_shut_44 : decode cX6_shut 44 = .ok (.aload_n 0, 1) := by decide +kernel
theorem dX6_shut_45 : decode cX6_shut 45 = .ok (.aload_n 0, 1) := by decide +kernel
theorem dX6_shut_46 : decode cX6_shut 46 = .ok (.getfield 10, 3) := by decide +kernel
theorem dX6_shut_49 : decode cX6_shut 49 = .ok (.iload_n 1, 1) := by decide +kernel
theorem dX6_shut_50 : decode cX6_shut 50 = .ok (.iload_n 2, 1) := by decide +kernel
theorem dX6_shut_51 : decode cX6_shut 51 = .ok (.invokevirtual 90, 3) := by decide +kernel
theorem dX6_shut_54 : decode cX6_shut 54 = .ok (.invokevirtual 56, 3) := by decide +kernel
theorem dX6_shut_57 : decode cX6_shut 57 = .ok (.ireturn, 1) := by decide +kernel
set_option maxRecDepth 20000 in
theorem ggX6_talk_X6_isWriter : GoodIn wsX6_talk wsX6_isWriter := goodIn_r _ [5] rfl (by decide +kernel)
set_option maxRecDepth 20000 in
theorem gX6_talk_X6_isWriter : GoodIn wsX6_talk (va_wsS RX6 59 yX6_isWriter wsX6_isWriter) := goodIn_app (goodIn_r _ [2, 3, 4] rfl (by decide +kernel)) ggX6_talk_X6_isWriter
set_option maxRecDepth 20000 in
theorem ggX6_talk_X6_error : GoodIn wsX6_talk wsX6_error := goodIn_r _ [9, 10, 11, 127, 128, 129, 130, 131, 132, 133] rfl (by decide +kernel)
set_option maxRecDepth 20000 in
theorem gX6_talk_X6_error : GoodIn wsX6_talk (wsV RX6 41 RX6 yX6_error wsX6_error) := goodIn_app (goodIn_r _ [6, 7, 8, 4] rfl (by decide +kernel)) ggX6_talk_X6_error
set_option maxRecDepth 20000 in
theorem ggX6_talk_X1_refusesActing : GoodIn wsX6_talk wsX1_refusesActing := goodIn_r _ [16, 17, 18, 19, 20, 15, 21, 22, 23, 24, 25, 26, 27, 28, 29, 30, 31, 32, 33, 34, 35, 36, 37, 38, 39, 40, 41, 42, 43, 44, 45, 46, 47, 48, 49, 50, 51, 52, 53, 54, 55, 56, 57, 58, 59, 60, 61, 62, 63, 64, 65, 66, 67, 68, 69, 70, 134, 135, 136, 137, 138, 139, 140, 141, 142, 143, 144, 145, 146, 147, 148, 149, 150, 151, 152, 153, 154, 155, 156, 157, 158] rfl (by decide +kernel)
set_option maxRecDepth 20000 in
theorem gX6_talk_X1_refusesActing : GoodIn wsX6_talk (wsV RX6 73 RX1 yX1_refusesActing wsX1_refusesActing) := goodIn_app (goodIn_r _ [12, 13, 14, 15] rfl (by decide +kernel)) ggX6_talk_X1_refusesActing
set_option maxRecDepth 20000 in
theorem ggX6_talk_X1_talksOf : GoodIn wsX6_talk wsX1_talksOf := goodIn_r _ [74, 17, 22, 75, 76, 77, 35, 78, 37, 79, 80, 81, 82, 48, 83, 84, 85, 86, 87, 88, 89, 90, 91, 92, 93, 94, 95, 96, 97, 98, 40, 38, 39, 99, 100, 101, 102, 103, 104, 105, 106, 107, 108, 109, 134, 135, 136, 137, 138, 139, 140, 141, 142, 149, 150, 151, 152, 153, 154, 155, 156, 157, 158] rfl (by decide +kernel)
set_option maxRecDepth 20000 in
theorem gX6_talk_X1_talksOf : GoodIn wsX6_talk (wsV RX6 93 RX1 yX1_talksOf wsX1_talksOf) := goodIn_app (goodIn_r _ [71, 72, 73, 15] rfl (by decide +kernel)) ggX6_talk_X1_talksOf
set_option maxRecDepth 20000 in
theorem ggX6_talk_X6_answered : GoodIn wsX6_talk wsX6_answered := goodIn_r _ [113, 1, 114, 115, 116, 15, 117, 17, 25, 26, 27, 28, 29, 30, 31, 118, 119, 120, 35, 121, 100, 53, 54, 55, 56, 57, 58, 59, 60, 61, 62, 63, 64, 65, 66, 67, 68, 69, 70, 37, 18, 19, 20, 21, 22, 23, 24, 32, 33, 34, 36, 38, 39, 40, 41, 42, 43, 44, 45, 46, 47, 48, 49, 50, 51, 52, 122, 123, 124, 125, 126, 80, 81, 82, 83, 84, 85, 86, 87, 88, 89, 90, 91, 92, 93, 94, 95, 96, 97, 98, 99, 101, 102, 103, 104, 105, 106, 107, 108, 109, 127, 128, 129, 130, 131, 132, 133, 134, 135, 136, 137, 138, 139, 140, 141, 142, 149, 150, 151, 152, 153, 154, 155, 156, 157, 158, 143, 144, 145, 146, 147, 148] rfl (by decide +kernel)
set_option maxRecDepth 20000 in
theorem gX6_talk_X6_answered : GoodIn wsX6_talk (wsV RX6 56 RX6 yX6_answered wsX6_answered) := goodIn_app (goodIn_r _ [110, 111, 112, 4] rfl (by decide +kernel)) ggX6_talk_X6_answered
theorem dX6_talk_0 : decode cX6_talk 0 = .ok (.iload_n 1, 1) := by decide +kernel
theorem dX6_talk_1 : decode cX6_talk 1 = .ok (.invokestatic 59, 3) := by decide +kernel
theorem dX6_talk_4 : decode cX6_talk 4 = .ok (.ifCond .eq 15, 3) := by decide +kernel
theorem dX6_talk_7 : decode cX6_talk 7 = .ok (.iload_n 2, 1) := by decide +kernel
theorem dX6_talk_8 : decode cX6_talk 8 = .ok (.iconst 1, 1) := by decide +kernel
theorem dX6_talk_9 : decode cX6_talk 9 = .ok (.if_icmp .lt 10, 3) := by decide +kernel
theorem dX6_talk_12 : decode cX6_talk 12 = .ok (.iload_n 2, 1) := by decide +kernel
theorem dX6_talk_13 : decode cX6_talk 13 = .ok (.sipush 999, 3) := by decide +kernel
theorem dX6_talk_16 : decode cX6_talk 16 = .ok (.if_icmp .le 9, 3) := by decide +kernel
theorem dX6_talk_19 : decode cX6_talk 19 = .ok (.aload_n 0, 1) := by decide +kernel
theorem dX6_talk_20 : decode cX6_talk 20 = .ok (.iconst 1, 1) := by decide +kernel
theorem dX6_talk_21 : decode cX6_talk 21 = .ok (.invokevirtual 41, 3) := by decide +kernel
theorem dX6_talk_24 : decode cX6_talk 24 = .ok (.ireturn, 1) := by decide +kernel
theorem dX6_talk_25 : decode cX6_talk 25 = .ok (.aload_n 0, 1) := by decide +kernel
theorem dX6_talk_26 : decode cX6_talk 26 = .ok (.getfield 10, 3) := by decide +kernel
theorem dX6_talk_29 : decode cX6_talk 29 = .ok (.iload_n 1, 1) := by decide +kernel
theorem dX6_talk_30 : decode cX6_talk 30 = .ok (.invokevirtual 73, 3) := by decide +kernel
theorem dX6_talk_33 : decode cX6_talk 33 = .ok (.istore_n 3, 1) := by decide +kernel
theorem dX6_talk_34 : decode cX6_talk 34 = .ok (.iload_n 3, 1) := by decide +kernel
theorem dX6_talk_35 : decode cX6_talk 35 = .ok (.ifCond .eq 9, 3) := by decide +kernel
theorem dX6_talk_38 : decode cX6_talk 38 = .ok (.aload_n 0, 1) := by decide +kernel
theorem dX6_talk_39 : decode cX6_talk 39 = .ok (.iload_n 3, 1) := by decide +kernel
theorem dX6_talk_40 : decode cX6_talk 40 = .ok (.invokevirtual 41, 3) := by decide +kernel
theorem dX6_talk_43 : decode cX6_talk 43 = .ok (.ireturn, 1) := by decide +kernel
theorem dX6_talk_44 : decode cX6_talk 44 = .ok (.aload_n 0, 1) := by decide +kernel
theorem dX6_talk_45 : decode cX6_talk 45 = .ok (.aload_n 0, 1) := by decide +kernel
theorem dX6_talk_46 : decode cX6_talk 46 = .ok (.getfield 10, 3) := by decide +kernel
theorem dX6_talk_49 : decode cX6_talk 49 = .ok (.iload_n 1, 1) := by decide +kernel
theorem dX6_talk_50 : decode cX6_talk 50 = .ok (.iload_n 2, 1) := by decide +kernel
theorem dX6_talk_51 : decode cX6_talk 51 = .ok (.invokevirtual 93, 3) := by decide +kernel
theorem dX6_talk_54 : decode cX6_talk 54 = .ok (.invokevirtual 56, 3) := by decide +kernel
theorem dX6_talk_57 : decode cX6_talk 57 = .ok (.ireturn, 1) := by decide +kernel
set_option maxRecDepth 20000 in
theorem ggX6_actIs_X6_isAct : GoodIn wsX6_actIs wsX6_isAct := goodIn_r _ [6, 1, 13, 14, 15, 16, 17, 18, 19, 20, 21, 22, 23, 24, 25, 26, 27, 28, 29, 30, 31, 32, 33, 34, 35, 36, 37, 38] rfl (by decide +kernel)
set_option maxRecDepth 20000 in
theorem gX6_actIs_X6_isAct : GoodIn wsX6_actIs (wsV RX6 96 RX6 yX6_isAct wsX6_isAct) := goodIn_app (goodIn_r _ [2, 3, 4, 5] rfl (by decide +kernel)) ggX6_actIs_X6_isAct
set_option maxRecDepth 20000 in
theorem ggX6_actIs_X6_error : GoodIn wsX6_actIs wsX6_error := goodIn_r _ [10, 11, 12, 13, 14, 15, 16, 17, 18, 19] rfl (by decide +kernel)
set_option maxRecDepth 20000 in
theorem gX6_actIs_X6_error : GoodIn wsX6_actIs (wsV RX6 41 RX6 yX6_error wsX6_error) := goodIn_app (goodIn_r _ [7, 8, 9, 5] rfl (by decide +kernel)) ggX6_actIs_X6_error
theorem dX6_actIs_0 : decode cX6_actIs 0 = .ok (.aload_n 0, 1) := by decide +kernel
theorem dX6_actIs_1 : decode cX6_actIs 1 = .ok (.iload_n 1, 1) := by decide +kernel
theorem dX6_actIs_2 : decode cX6_actIs 2 = .ok (.invokevirtual 96, 3) := by decide +kernel
theorem dX6_actIs_5 : decode cX6_actIs 5 = .ok (.ifCond .ne 9, 3) := by decide +kernel
theorem dX6_actIs_8 : decode cX6_actIs 8 = .ok (.aload_n 0, 1) := by decide +kernel
theorem dX6_actIs_9 : decode cX6_actIs 9 = .ok (.iconst 1, 1) := by decide +kernel
theorem dX6_actIs_10 : decode cX6_actIs 10 = .ok (.invokevirtual 41, 3) := by decide +kernel
theorem dX6_actIs_13 : decode cX6_actIs 13 = .ok (.ireturn, 1) := by decide +kernel
theorem dX6_actIs_14 : decode cX6_actIs 14 = .ok (.iload_n 2, 1) := by decide +kernel
theorem dX6_actIs_15 : decode cX6_actIs 15 = .ok (.tableswitch 115 0 5 #[37, 50, 63, 76, 89, 102], 37) := by decide +kernel
theorem dX6_actIs_52 : decode cX6_actIs 52 = .ok (.aload_n 0, 1) := by decide +kernel
theorem dX6_actIs_53 : decode cX6_actIs 53 = .ok (.getfield 10, 3) := by decide +kernel
theorem dX6_actIs_56 : decode cX6_actIs 56 = .ok (.getfield 63, 3) := by decide +kernel
theorem dX6_actIs_59 : decode cX6_actIs 59 = .ok (.getfield 99, 3) := by decide +kernel
theorem dX6_actIs_62 : decode cX6_actIs 62 = .ok (.iload_n 1, 1) := by decide +kernel
theorem dX6_actIs_63 : decode cX6_actIs 63 = .ok (.iaload, 1) := by decide +kernel
theorem dX6_actIs_64 : decode cX6_actIs 64 = .ok (.ireturn, 1) := by decide +kernel
theorem dX6_actIs_65 : decode cX6_actIs 65 = .ok (.aload_n 0, 1) := by decide +kernel
theorem dX6_actIs_66 : decode cX6_actIs 66 = .ok (.getfield 10, 3) := by decide +kernel
theorem dX6_actIs_69 : decode cX6_actIs 69 = .ok (.getfield 63, 3) := by decide +kernel
theorem dX6_actIs_72 : decode cX6_actIs 72 = .ok (.getfield 102, 3) := by decide +kernel
theorem dX6_actIs_75 : decode cX6_actIs 75 = .ok (.iload_n 1, 1) := by decide +kernel
theorem dX6_actIs_76 : decode cX6_actIs 76 = .ok (.iaload, 1) := by decide +kernel
theorem dX6_actIs_77 : decode cX6_actIs 77 = .ok (.ireturn, 1) := by decide +kernel
theorem dX6_actIs_78 : decode cX6_actIs 78 = .ok (.aload_n 0, 1) := by decide +kernel
theorem dX6_actIs_79 : decode cX6_actIs 79 = .ok (.getfield 10, 3) := by decide +kernel
theorem dX6_actIs_82 : decode cX6_actIs 82 = .ok (.getfield 63, 3) := by decide +kernel
theorem dX6_actIs_85 : decode cX6_actIs 85 = .ok (.getfield 105, 3) := by decide +kernel
theorem dX6_actIs_88 : decode cX6_actIs 88 = .ok (.iload_n 1, 1) := by decide +kernel
theorem dX6_actIs_89 : decode cX6_actIs 89 = .ok (.iaload, 1) := by decide +kernel
theorem dX6_actIs_90 : decode cX6_actIs 90 = .ok (.ireturn, 1) := by decide +kernel
theorem dX6_actIs_91 : decode cX6_actIs 91 = .ok (.aload_n 0, 1) := by decide +kernel
theorem dX6_actIs_92 : decode cX6_actIs 92 = .ok (.getfield 10, 3) := by decide +kernel
theorem dX6_actIs_95 : decode cX6_actIs 95 = .ok (.getfield 63, 3) := by decide +kernel
theorem dX6_actIs_98 : decode cX6_actIs 98 = .ok (.getfield 108, 3) := by decide +kernel
theorem dX6_actIs_101 : decode cX6_actIs 101 = .ok (.iload_n 1, 1) := by decide +kernel
theorem dX6_actIs_102 : decode cX6_actIs 102 = .ok (.iaload, 1) := by decide +kernel
theorem dX6_actIs_103 : decode cX6_actIs 103 = .ok (.ireturn, 1) := by decide +kernel
theorem dX6_actIs_104 : decode cX6_actIs 104 = .ok (.aload_n 0, 1) := by decide +kernel
theorem dX6_actIs_105 : decode cX6_actIs 105 = .ok (.getfield 10, 3) := by decide +kernel
theorem dX6_actIs_108 : decode cX6_actIs 108 = .ok (.getfield 63, 3) := by decide +kernel
theorem dX6_actIs_111 : decode cX6_actIs 111 = .ok (.getfield 111, 3) := by decide +kernel
theorem dX6_actIs_114 : decode cX6_actIs 114 = .ok (.iload_n 1, 1) := by decide +kernel
theorem dX6_actIs_115 : decode cX6_actIs 115 = .ok (.iaload, 1) := by decide +kernel
theorem dX6_actIs_116 : decode cX6_actIs 116 = .ok (.ireturn, 1) := by decide +kernel
theorem dX6_actIs_117 : decode cX6_actIs 117 = .ok (.aload_n 0, 1) := by decide +kernel
theorem dX6_actIs_118 : decode cX6_actIs 118 = .ok (.getfield 10, 3) := by decide +kernel
theorem dX6_actIs_121 : decode cX6_actIs 121 = .ok (.getfield 63, 3) := by decide +kernel
theorem dX6_actIs_124 : decode cX6_actIs 124 = .ok (.getfield 114, 3) := by decide +kernel
theorem dX6_actIs_127 : decode cX6_actIs 127 = .ok (.iload_n 1, 1) := by decide +kernel
theorem dX6_actIs_128 : decode cX6_actIs 128 = .ok (.iaload, 1) := by decide +kernel
theorem dX6_actIs_129 : decode cX6_actIs 129 = .ok (.ireturn, 1) := by decide +kernel
theorem dX6_actIs_130 : decode cX6_actIs 130 = .ok (.aload_n 0, 1) := by decide +kernel
theorem dX6_actIs_131 : decode cX6_actIs 131 = .ok (.iconst 1, 1) := by decide +kernel
theorem dX6_actIs_132 : decode cX6_actIs 132 = .ok (.invokevirtual 41, 3) := by decide +kernel
theorem dX6_actIs_135 : decode cX6_actIs 135 = .ok (.ireturn, 1) := by decide +kernel
set_option maxRecDepth 20000 in
theorem ggX6_as_X6_isAct : GoodIn wsX6_as wsX6_isAct := goodIn_r _ [6, 1, 17, 18, 19, 20, 21, 22, 23, 24, 25, 26, 27, 28, 29, 30, 31, 32, 33, 34, 35, 36, 37, 38, 39, 40, 41, 42] rfl (by decide +kernel)
set_option maxRecDepth 20000 in
theorem gX6_as_X6_isAct : GoodIn wsX6_as (wsV RX6 96 RX6 yX6_isAct wsX6_isAct) := goodIn_app (goodIn_r _ [2, 3, 4, 5] rfl (by decide +kernel)) ggX6_as_X6_isAct
set_option maxRecDepth 20000 in
theorem ggX6_as_X6_error : GoodIn wsX6_as wsX6_error := goodIn_r _ [10, 11, 12, 17, 18, 19, 20, 21, 22, 23] rfl (by decide +kernel)
set_option maxRecDepth 20000 in
theorem gX6_as_X6_error : GoodIn wsX6_as (wsV RX6 41 RX6 yX6_error wsX6_error) := goodIn_app (goodIn_r _ [7, 8, 9, 5] rfl (by decide +kernel)) ggX6_as_X6_error
set_option maxRecDepth 20000 in
theorem ggX6_as_X0_isUnder : GoodIn wsX6_as wsX0_isUnder := goodIn_r _ [16] rfl (by decide +kernel)
set_option maxRecDepth 20000 in
theorem gX6_as_X0_isUnder : GoodIn wsX6_as (va_wsS RX6 117 yX0_isUnder wsX0_isUnder) := goodIn_app (goodIn_r _ [13, 14, 15] rfl (by decide +kernel)) ggX6_as_X0_isUnder
theorem dX6_as_0 : decode cX6_as 0 = .ok (.aload_n 0, 1) := by decide +kernel
theorem dX6_as_1 : decode cX6_as 1 = .ok (.iload_n 1, 1) := by decide +kernel
theorem dX6_as_2 : decode cX6_as 2 = .ok (.invokevirtual 96, 3) := by decide +kernel
theorem dX6_as_5 : decode cX6_as 5 = .ok (.ifCond .eq 13, 3) := by decide +kernel
theorem dX6_as_8 : decode cX6_as 8 = .ok (.iload_n 2, 1) := by decide +kernel
theorem dX6_as_9 : decode cX6_as 9 = .ok (.ifCond .lt 9, 3) := by decide +kernel
theorem dX6_as_12 : decode cX6_as 12 = .ok (.iload_n 2, 1) := by decide +kernel
theorem dX6_as_13 : decode cX6_as 13 = .ok (.bipush 8, 2) := by decide +kernel
theorem dX6_as_15 : decode cX6_as 15 = .ok (.if_icmp .lt 9, 3) := by decide +kernel
theorem dX6_as_18 : decode cX6_as 18 = .ok (.aload_n 0, 1) := by decide +kernel
theorem dX6_as_19 : decode cX6_as 19 = .ok (.iconst 1, 1) := by decide +kernel
theorem dX6_as_20 : decode cX6_as 20 = .ok (.invokevirtual 41, 3) := by decide +kernel
theorem dX6_as_23 : decode cX6_as 23 = .ok (.ireturn, 1) := by decide +kernel
theorem dX6_as_24 : decode cX6_as 24 = .ok (.aload_n 0, 1) := by decide +kernel
theorem dX6_as_25 : decode cX6_as 25 = .ok (.getfield 10, 3) := by decide +kernel
theorem dX6_as_28 : decode cX6_as 28 = .ok (.getfield 63, 3) := by decide +kernel
theorem dX6_as_31 : decode cX6_as 31 = .ok (.getfield 99, 3) := by decide +kernel
theorem dX6_as_34 : decode cX6_as 34 = .ok (.iload_n 1, 1) := by decide +kernel
theorem dX6_as_35 : decode cX6_as 35 = .ok (.iaload, 1) := by decide +kernel
theorem dX6_as_36 : decode cX6_as 36 = .ok (.iload_n 2, 1) := by decide +kernel
theorem dX6_as_37 : decode cX6_as 37 = .ok (.invokestatic 117, 3) := by decide +kernel
theorem dX6_as_40 : decode cX6_as 40 = .ok (.ifCond .ne 9, 3) := by decide +kernel
theorem dX6_as_43 : decode cX6_as 43 = .ok (.aload_n 0, 1) := by decide +kernel
theorem dX6_as_44 : decode cX6_as 44 = .ok (.iconst 5, 1) := by decide +kernel
theorem dX6_as_45 : decode cX6_as 45 = .ok (.invokevirtual 41, 3) := by decide +kernel
theorem dX6_as_48 : decode cX6_as 48 = .ok (.ireturn, 1) := by decide +kernel
theorem dX6_as_49 : decode cX6_as 49 = .ok (.aload_n 0, 1) := by decide +kernel
theorem dX6_as_50 : decode cX6_as 50 = .ok (.getfield 10, 3) := by decide +kernel
theorem dX6_as_53 : decode cX6_as 53 = .ok (.getfield 63, 3) := by decide +kernel
theorem dX6_as_56 : decode cX6_as 56 = .ok (.getfield 102, 3) := by decide +kernel
theorem dX6_as_59 : decode cX6_as 59 = .ok (.iload_n 1, 1) := by decide +kernel
theorem dX6_as_60 : decode cX6_as 60 = .ok (.iaload, 1) := by decide +kernel
theorem dX6_as_61 : decode cX6_as 61 = .ok (.ireturn, 1) := by decide +kernel
set_option maxRecDepth 20000 in
theorem ggX6_word_X6_isVersion : GoodIn wsX6_word wsX6_isVersion := goodIn_r _ [6, 1, 19, 20, 21, 22, 23, 24, 25, 26, 27, 28, 29, 30, 31, 32, 33, 34, 35, 36, 37, 38, 39, 40, 41, 42, 43, 44] rfl (by decide +kernel)
set_option maxRecDepth 20000 in
theorem gX6_word_X6_isVersion : GoodIn wsX6_word (wsV RX6 80 RX6 yX6_isVersion wsX6_isVersion) := goodIn_app (goodIn_r _ [2, 3, 4, 5] rfl (by decide +kernel)) ggX6_word_X6_isVersion
set_option maxRecDepth 20000 in
theorem ggX6_word_X6_error : GoodIn wsX6_word wsX6_error := goodIn_r _ [10, 11, 12, 19, 20, 21, 22, 23, 24, 25] rfl (by decide +kernel)
set_option maxRecDepth 20000 in
theorem gX6_word_X6_error : GoodIn wsX6_word (wsV RX6 41 RX6 yX6_error wsX6_error) := goodIn_app (goodIn_r _ [7, 8, 9, 5] rfl (by decide +kernel)) ggX6_word_X6_error
set_option maxRecDepth 20000 in
theorem ggX6_word_X0_wordAt : GoodIn wsX6_word wsX0_wordAt := goodIn_r _ [17, 18, 35, 36, 37, 38, 39, 40, 41, 42, 43, 44] rfl (by decide +kernel)
set_option maxRecDepth 20000 in
theorem gX6_word_X0_wordAt : GoodIn wsX6_word (wsV RX6 124 RX0 yX0_wordAt wsX0_wordAt) := goodIn_app (goodIn_r _ [13, 14, 15, 16] rfl (by decide +kernel)) ggX6_word_X0_wordAt
theorem dX6_word_0 : decode cX6_word 0 = .ok (.aload_n 0, 1) := by decide +kernel
theorem dX6_word_1 : decode cX6_word 1 = .ok (.iload_n 1, 1) := by decide +kernel
theorem dX6_word_2 : decode cX6_word 2 = .ok (.invokevirtual 80, 3) := by decide +kernel
theorem dX6_word_5 : decode cX6_word 5 = .ok (.ifCond .eq 24, 3) := by decide +kernel
theorem dX6_word_8 : decode cX6_word 8 = .ok (.iload_n 2, 1) := by decide +kernel
theorem dX6_word_9 : decode cX6_word 9 = .ok (.iconst (-1), 1) := by decide +kernel
theorem dX6_word_10 : decode cX6_word 10 = .ok (.if_icmp .lt 19, 3) := by decide +kernel
theorem dX6_word_13 : decode cX6_word 13 = .ok (.iload_n 2, 1) := by decide +kernel
theorem dX6_word_14 : decode cX6_word 14 = .ok (.aload_n 0, 1) := by decide +kernel
theorem dX6_word_15 : decode cX6_word 15 = .ok (.getfield 10, 3) := by decide +kernel
theorem dX6_word_18 : decode cX6_word 18 = .ok (.getfield 63, 3) := by decide +kernel
theorem dX6_word_21 : decode cX6_word 21 = .ok (.getfield 121, 3) := by decide +kernel
theorem dX6_word_24 : decode cX6_word 24 = .ok (.iload_n 1, 1) := by decide +kernel
theorem dX6_word_25 : decode cX6_word 25 = .ok (.iaload, 1) := by decide +kernel
theorem dX6_word_26 : decode cX6_word 26 = .ok (.if_icmp .lt 9, 3) := by decide +kernel
theorem dX6_word_29 : decode cX6_word 29 = .ok (.aload_n 0, 1) := by decide +kernel
theorem dX6_word_30 : decode cX6_word 30 = .ok (.iconst 1, 1) := by decide +kernel
theorem dX6_word_31 : decode cX6_word 31 = .ok (.invokevirtual 41, 3) := by decide +kernel
theorem dX6_word_34 : decode cX6_word 34 = .ok (.ireturn, 1) := by decide +kernel
theorem dX6_word_35 : decode cX6_word 35 = .ok (.iload_n 2, 1) := by decide +kernel
theorem dX6_word_36 : decode cX6_word 36 = .ok (.ifCond .ge 18, 3) := by decide +kernel
theorem dX6_word_39 : decode cX6_word 39 = .ok (.aload_n 0, 1) := by decide +kernel
theorem dX6_word_40 : decode cX6_word 40 = .ok (.getfield 10, 3) := by decide +kernel
theorem dX6_word_43 : decode cX6_word 43 = .ok (.getfield 63, 3) := by decide +kernel
theorem dX6_word_46 : decode cX6_word 46 = .ok (.getfield 121, 3) := by decide +kernel
theorem dX6_word_49 : decode cX6_word 49 = .ok (.iload_n 1, 1) := by decide +kernel
theorem dX6_word_50 : decode cX6_word 50 = .ok (.iaload, 1) := by decide +kernel
theorem dX6_word_51 : decode cX6_word 51 = .ok (.goto 15, 3) := by decide +kernel
theorem dX6_word_54 : decode cX6_word 54 = .ok (.aload_n 0, 1) := by decide +kernel
theorem dX6_word_55 : decode cX6_word 55 = .ok (.getfield 10, 3) := by decide +kernel
theorem dX6_word_58 : decode cX6_word 58 = .ok (.getfield 63, 3) := by decide +kernel
theorem dX6_word_61 : decode cX6_word 61 = .ok (.iload_n 1, 1) := by decide +kernel
theorem dX6_word_62 : decode cX6_word 62 = .ok (.iload_n 2, 1) := by decide +kernel
theorem dX6_word_63 : decode cX6_word 63 = .ok (.invokevirtual 124, 3) := by decide +kernel
theorem dX6_word_66 : decode cX6_word 66 = .ok (.ireturn, 1) := by decide +kernel
set_option maxRecDepth 20000 in
theorem ggX6_origin_X6_isVersion : GoodIn wsX6_origin wsX6_isVersion := goodIn_r _ [6, 1, 19, 20, 21, 22, 23, 24, 25, 26, 27, 28, 29, 30, 31, 32, 33, 34, 35, 36, 37, 38, 39, 40, 41, 42, 43, 44] rfl (by decide +kernel)
set_option maxRecDepth 20000 in
theorem gX6_origin_X6_isVersion : GoodIn wsX6_origin (wsV RX6 80 RX6 yX6_isVersion wsX6_isVersion) := goodIn_app (goodIn_r _ [2, 3, 4, 5] rfl (by decide +kernel)) ggX6_origin_X6_isVersion
set_option maxRecDepth 20000 in
theorem ggX6_origin_X6_error : GoodIn wsX6_origin wsX6_error := goodIn_r _ [10, 11, 12, 19, 20, 21, 22, 23, 24, 25] rfl (by decide +kernel)
set_option maxRecDepth 20000 in
theorem gX6_origin_X6_error : GoodIn wsX6_origin (wsV RX6 41 RX6 yX6_error wsX6_error) := goodIn_app (goodIn_r _ [7, 8, 9, 5] rfl (by decide +kernel)) ggX6_origin_X6_error
set_option maxRecDepth 20000 in
theorem ggX6_origin_X0_originAt : GoodIn wsX6_origin wsX0_originAt := goodIn_r _ [17, 18, 35, 36, 37, 38, 39, 40, 41, 42, 43, 44] rfl (by decide +kernel)
set_option maxRecDepth 20000 in
theorem gX6_origin_X0_originAt : GoodIn wsX6_origin (wsV RX6 127 RX0 yX0_originAt wsX0_originAt) := goodIn_app (goodIn_r _ [13, 14, 15, 16] rfl (by decide +kernel)) ggX6_origin_X0_originAt
theorem dX6_origin_0 : decode cX6_origin 0 = .ok (.aload_n 0, 1) := by decide +kernel
theorem dX6_origin_1 : decode cX6_origin 1 = .ok (.iload_n 1, 1) := by decide +kernel
theorem dX6_origin_2 : decode cX6_origin 2 = .ok (.invokevirtual 80, 3) := by decide +kernel
theorem dX6_origin_5 : decode cX6_origin 5 = .ok (.ifCond .eq 23, 3) := by decide +kernel
theorem dX6_origin_8 : decode cX6_origin 8 = .ok (.iload_n 2, 1) := by decide +kernel
theorem dX6_origin_9 : decode cX6_origin 9 = .ok (.ifCond .lt 19, 3) := by decide +kernel
theorem dX6_origin_12 : decode cX6_origin 12 = .ok (.iload_n 2, 1) := by decide +kernel
theorem dX6_origin_13 : decode cX6_origin 13 = .ok (.aload_n 0, 1) := by decide +kernel
theorem dX6_origin_14 : decode cX6_origin 14 = .ok (.getfield 10, 3) := by decide +kernel
theorem dX6_origin_17 : decode cX6_origin 17 = .ok (.getfield 63, 3) := by decide +kernel
theorem dX6_origin_20 : decode cX6_origin 20 = .ok (.getfield 121, 3) := by decide +kernel
theorem dX6_origin_23 : decode cX6_origin 23 = .ok (.iload_n 1, 1) := by decide +kernel
theorem dX6_origin_24 : decode cX6_origin 24 = .ok (.iaload, 1) := by decide +kernel
theorem dX6_origin_25 : decode cX6_origin 25 = .ok (.if_icmp .lt 9, 3) := by decide +kernel
theorem dX6_origin_28 : decode cX6_origin 28 = .ok (.aload_n 0, 1) := by decide +kernel
theorem dX6_origin_29 : decode cX6_origin 29 = .ok (.iconst 1, 1) := by decide +kernel
theorem dX6_origin_30 : decode cX6_origin 30 = .ok (.invokevirtual 41, 3) := by decide +kernel
theorem dX6_origin_33 : decode cX6_origin 33 = .ok (.ireturn, 1) := by decide +kernel
theorem dX6_origin_34 : decode cX6_origin 34 = .ok (.aload_n 0, 1) := by decide +kernel
theorem dX6_origin_35 : decode cX6_origin 35 = .ok (.getfield 10, 3) := by decide +kernel
theorem dX6_origin_38 : decode cX6_origin 38 = .ok (.getfield 63, 3) := by decide +kernel
theorem dX6_origin_41 : decode cX6_origin 41 = .ok (.iload_n 1, 1) := by decide +kernel
theorem dX6_origin_42 : decode cX6_origin 42 = .ok (.iload_n 2, 1) := by decide +kernel
theorem dX6_origin_43 : decode cX6_origin 43 = .ok (.invokevirtual 127, 3) := by decide +kernel
theorem dX6_origin_46 : decode cX6_origin 46 = .ok (.ireturn, 1) := by decide +kernel
set_option maxRecDepth 20000 in
theorem ggX6_may_X6_isWriter : GoodIn wsX6_may wsX6_isWriter := goodIn_r _ [5] rfl (by decide +kernel)
set_option maxRecDepth 20000 in
theorem gX6_may_X6_isWriter : GoodIn wsX6_may (va_wsS RX6 59 yX6_isWriter wsX6_isWriter) := goodIn_app (goodIn_r _ [2, 3, 4] rfl (by decide +kernel)) ggX6_may_X6_isWriter
set_option maxRecDepth 20000 in
theorem ggX6_may_X6_error : GoodIn wsX6_may wsX6_error := goodIn_r _ [9, 10, 11, 63, 64, 65, 66, 67, 68, 69] rfl (by decide +kernel)
set_option maxRecDepth 20000 in
theorem gX6_may_X6_error : GoodIn wsX6_may (wsV RX6 41 RX6 yX6_error wsX6_error) := goodIn_app (goodIn_r _ [6, 7, 8, 4] rfl (by decide +kernel)) ggX6_may_X6_error
set_option maxRecDepth 20000 in
theorem ggX6_may_X1_lets : GoodIn wsX6_may wsX1_lets := goodIn_r _ [16, 17, 18, 19, 20, 21, 22, 23, 24, 25, 26, 27, 28, 29, 30, 31, 32, 33, 34, 35, 36, 37, 38, 39, 40, 41, 42, 43, 44, 45, 46, 47, 48, 49, 50, 51, 52, 53, 54, 55, 56, 57, 58, 59, 60, 61, 62, 70, 71, 72, 73, 74, 75, 76, 77, 78, 79, 80, 81, 82, 83, 84, 85, 86, 87, 88, 89, 90, 91, 92, 93, 94] rfl (by decide +kernel)
set_option maxRecDepth 20000 in
theorem gX6_may_X1_lets : GoodIn wsX6_may (wsV RX6 130 RX1 yX1_lets wsX1_lets) := goodIn_app (goodIn_r _ [12, 13, 14, 15] rfl (by decide +kernel)) ggX6_may_X1_lets
theorem dX6_may_0 : decode cX6_may 0 = .ok (.iload_n 1, 1) := by decide +kernel
theorem dX6_may_1 : decode cX6_may 1 = .ok (.invokestatic 59, 3) := by decide +kernel
theorem dX6_may_4 : decode cX6_may 4 = .ok (.ifCond .ne 9, 3) := by decide +kernel
theorem dX6_may_7 : decode cX6_may 7 = .ok (.aload_n 0, 1) := by decide +kernel
theorem dX6_may_8 : decode cX6_may 8 = .ok (.iconst 1, 1) := by decide +kernel
theorem dX6_may_9 : decode cX6_may 9 = .ok (.invokevirtual 41, 3) := by decide +kernel
theorem dX6_may_12 : decode cX6_may 12 = .ok (.ireturn, 1) := by decide +kernel
theorem dX6_may_13 : decode cX6_may 13 = .ok (.aload_n 0, 1) := by decide +kernel
theorem dX6_may_14 : decode cX6_may 14 = .ok (.getfield 10, 3) := by decide +kernel
theorem dX6_may_17 : decode cX6_may 17 = .ok (.iload_n 1, 1) := by decide +kernel
theorem dX6_may_18 : decode cX6_may 18 = .ok (.invokevirtual 130, 3) := by decide +kernel
theorem dX6_may_21 : decode cX6_may 21 = .ok (.ifCond .eq 7, 3) := by decide +kernel
theorem dX6_may_24 : decode cX6_may 24 = .ok (.iconst 1, 1) := by decide +kernel
theorem dX6_may_25 : decode cX6_may 25 = .ok (.goto 4, 3) := by decide +kernel
theorem dX6_may_28 : decode cX6_may 28 = .ok (.iconst 0, 1) := by decide +kernel
theorem dX6_may_29 : decode cX6_may 29 = .ok (.ireturn, 1) := by decide +kernel
set_option maxRecDepth 20000 in
theorem ggX6_feed_X6_error : GoodIn wsX6_feed wsX6_error := goodIn_r _ [6, 7, 8, 16, 17, 18, 19, 20, 21, 22] rfl (by decide +kernel)
set_option maxRecDepth 20000 in
theorem gX6_feed_X6_error : GoodIn wsX6_feed (wsV RX6 41 RX6 yX6_error wsX6_error) := goodIn_app (goodIn_r _ [2, 3, 4, 5] rfl (by decide +kernel)) ggX6_feed_X6_error
set_option maxRecDepth 20000 in
theorem ggX6_feed_X4_takes : GoodIn wsX6_feed wsX4_takes := goodIn_r _ [13, 14, 15, 32, 33, 34, 35, 36, 37] rfl (by decide +kernel)
set_option maxRecDepth 20000 in
theorem gX6_feed_X4_takes : GoodIn wsX6_feed (wsV RX6 142 RX4 yX4_takes wsX4_takes) := goodIn_app (goodIn_r _ [9, 10, 11, 12] rfl (by decide +kernel)) ggX6_feed_X4_takes
theorem dX6_feed_0 : decode cX6_feed 0 = .ok (.iload_n 3, 1) := by decide +kernel
theorem dX6_feed_1 : decode cX6_feed 1 = .ok (.iconst 1, 1) := by decide +kernel
theorem dX6_feed_2 : decode cX6_feed 2 = .ok (.if_icmp .lt 9, 3) := by decide +kernel
theorem dX6_feed_5 : decode cX6_feed 5 = .ok (.iload_n 3, 1) := by decide +kernel
theorem dX6_feed_6 : decode cX6_feed 6 = .ok (.bipush 8, 2) := by decide +kernel
theorem dX6_feed_8 : decode cX6_feed 8 = .ok (.if_icmp .le 9, 3) := by decide +kernel
theorem dX6_feed_11 : decode cX6_feed 11 = .ok (.aload_n 0, 1) := by decide +kernel
theorem dX6_feed_12 : decode cX6_feed 12 = .ok (.iconst 1, 1) := by decide +kernel
theorem dX6_feed_13 : decode cX6_feed 13 = .ok (.invokevirtual 41, 3) := by decide +kernel
theorem dX6_feed_16 : decode cX6_feed 16 = .ok (.ireturn, 1) := by decide +kernel
theorem dX6_feed_17 : decode cX6_feed 17 = .ok (.aload_n 0, 1) := by decide +kernel
theorem dX6_feed_18 : decode cX6_feed 18 = .ok (.getfield 10, 3) := by decide +kernel
theorem dX6_feed_21 : decode cX6_feed 21 = .ok (.getfield 133, 3) := by decide +kernel
theorem dX6_feed_24 : decode cX6_feed 24 = .ok (.getfield 137, 3) := by decide +kernel
theorem dX6_feed_27 : decode cX6_feed 27 = .ok (.bipush 60, 2) := by decide +kernel
theorem dX6_feed_29 : decode cX6_feed 29 = .ok (.iload_n 3, 1) := by decide +kernel
theorem dX6_feed_30 : decode cX6_feed 30 = .ok (.isub, 1) := by decide +kernel
theorem dX6_feed_31 : decode cX6_feed 31 = .ok (.if_icmp .le 9, 3) := by decide +kernel
theorem dX6_feed_34 : decode cX6_feed 34 = .ok (.aload_n 0, 1) := by decide +kernel
theorem dX6_feed_35 : decode cX6_feed 35 = .ok (.iconst 4, 1) := by decide +kernel
theorem dX6_feed_36 : decode cX6_feed 36 = .ok (.invokevirtual 41, 3) := by decide +kernel
theorem dX6_feed_39 : decode cX6_feed 39 = .ok (.ireturn, 1) := by decide +kernel
theorem dX6_feed_40 : decode cX6_feed 40 = .ok (.aload_n 0, 1) := by decide +kernel
theorem dX6_feed_41 : decode cX6_feed 41 = .ok (.getfield 10, 3) := by decide +kernel
theorem dX6_feed_44 : decode cX6_feed 44 = .ok (.getfield 133, 3) := by decide +kernel
theorem dX6_feed_47 : decode cX6_feed 47 = .ok (.lload_n 1, 1) := by decide +kernel
theorem dX6_feed_48 : decode cX6_feed 48 = .ok (.iload_n 3, 1) := by decide +kernel
theorem dX6_feed_49 : decode cX6_feed 49 = .ok (.invokevirtual 142, 3) := by decide +kernel
theorem dX6_feed_52 : decode cX6_feed 52 = .ok (.ireturn, 1) := by decide +kernel
set_option maxRecDepth 20000 in
theorem ggX6_text_X6_isUse : GoodIn wsX6_text wsX6_isUse := goodIn_r _ [6] rfl (by decide +kernel)
set_option maxRecDepth 20000 in
theorem gX6_text_X6_isUse : GoodIn wsX6_text (va_wsS RX6 146 yX6_isUse wsX6_isUse) := goodIn_app (goodIn_r _ [3, 4, 5] rfl (by decide +kernel)) ggX6_text_X6_isUse
set_option maxRecDepth 20000 in
theorem ggX6_text_X6_error : GoodIn wsX6_text wsX6_error := goodIn_r _ [10, 11, 12, 159, 160, 161, 162, 163, 164, 165] rfl (by decide +kernel)
set_option maxRecDepth 20000 in
theorem gX6_text_X6_error : GoodIn wsX6_text (wsV RX6 41 RX6 yX6_error wsX6_error) := goodIn_app (goodIn_r _ [7, 8, 9, 5] rfl (by decide +kernel)) ggX6_text_X6_error
set_option maxRecDepth 20000 in
theorem ggX6_text_X2_reads : GoodIn wsX6_text wsX2_reads := goodIn_r _ [17, 18, 19, 20, 21, 22, 23, 24, 25, 26, 16, 27, 28, 29, 30, 31, 32, 33, 34, 35, 36, 37, 38, 39, 40, 41, 42, 43, 44, 45, 46, 47, 48, 49, 50, 51, 52, 53, 54, 55, 56, 57, 58, 59, 60, 61, 62, 63, 64, 65, 66, 67, 68, 69, 70, 71, 72, 73, 74, 75, 76, 77, 78, 79, 80, 81, 82, 83, 84, 85, 86, 87, 88, 89, 90, 91, 92, 93, 94, 95, 96, 97, 98, 99, 100, 101, 102, 103, 104, 105, 106, 107, 108, 109, 110, 111, 112, 113, 114, 115, 116, 117, 118, 119, 120, 121, 122, 123, 124, 125, 126, 127, 128, 129, 130, 131, 132, 133, 134, 135, 136, 137, 138, 139, 140, 141, 142, 143, 144, 145, 146, 147, 148, 149, 150, 151, 152, 153, 154, 155, 156, 157, 158, 175, 176, 177, 178, 179, 180, 181, 182, 183, 184, 185, 186] rfl (by decide +kernel)
set_option maxRecDepth 20000 in
theorem gX6_text_X2_reads : GoodIn wsX6_text (wsV RX6 149 RX2 yX2_reads wsX2_reads) := goodIn_app (goodIn_r _ [13, 14, 15, 16] rfl (by decide +kernel)) ggX6_text_X2_reads
theorem dX6_text_0 : decode cX6_text 0 = .ok (.iload_n 1, 1) := by decide +kernel
theorem dX6_text_1 : decode cX6_text 1 = .ok (.invokestatic 146, 3) := by decide +kernel
theorem dX6_text_4 : decode cX6_text 4 = .ok (.ifCond .ne 9, 3) := by decide +kernel
theorem dX6_text_7 : decode cX6_text 7 = .ok (.aload_n 0, 1) := by decide +kernel
theorem dX6_text_8 : decode cX6_text 8 = .ok (.iconst 1, 1) := by decide +kernel
theorem dX6_text_9 : decode cX6_text 9 = .ok (.invokevirtual 41, 3) := by decide +kernel
theorem dX6_text_12 : decode cX6_text 12 = .ok (.ireturn, 1) := by decide +kernel
theorem dX6_text_13 : decode cX6_text 13 = .ok (.aload_n 0, 1) := by decide +kernel
theorem dX6_text_14 : decode cX6_text 14 = .ok (.getfield 19, 3) := by decide +kernel
theorem dX6_text_17 : decode cX6_text 17 = .ok (.aload_n 0, 1) := by decide +kernel
theorem dX6_text_18 : decode cX6_text 18 = .ok (.getfield 10, 3) := by decide +kernel
theorem dX6_text_21 : decode cX6_text 21 = .ok (.getfield 133, 3) := by decide +kernel
theorem dX6_text_24 : decode cX6_text 24 = .ok (.iload_n 1, 1) := by decide +kernel
theorem dX6_text_25 : decode cX6_text 25 = .ok (.invokevirtual 149, 3) := by decide +kernel
theorem dX6_text_28 : decode cX6_text 28 = .ok (.istore_n 2, 1) := by decide +kernel
theorem dX6_text_29 : decode cX6_text 29 = .ok (.iload_n 2, 1) := by decide +kernel
theorem dX6_text_30 : decode cX6_text 30 = .ok (.ifCond .ge 7, 3) := by decide +kernel
theorem dX6_text_33 : decode cX6_text 33 = .ok (.iconst 1, 1) := by decide +kernel
theorem dX6_text_34 : decode cX6_text 34 = .ok (.goto 7, 3) := by decide +kernel
theorem dX6_text_37 : decode cX6_text 37 = .ok (.bipush (-10), 2) := by decide +kernel
theorem dX6_text_39 : decode cX6_text 39 = .ok (.iload_n 2, 1) := by decide +kernel
theorem dX6_text_40 : decode cX6_text 40 = .ok (.isub, 1) := by decide +kernel
theorem dX6_text_41 : decode cX6_text 41 = .ok (.ireturn, 1) := by decide +kernel
set_option maxRecDepth 20000 in
theorem ggX6_untell_X6_isUse : GoodIn wsX6_untell wsX6_isUse := goodIn_r _ [5] rfl (by decide +kernel)
set_option maxRecDepth 20000 in
theorem gX6_untell_X6_isUse : GoodIn wsX6_untell (va_wsS RX6 146 yX6_isUse wsX6_isUse) := goodIn_app (goodIn_r _ [2, 3, 4] rfl (by decide +kernel)) ggX6_untell_X6_isUse
set_option maxRecDepth 20000 in
theorem ggX6_untell_X6_error : GoodIn wsX6_untell wsX6_error := goodIn_r _ [9, 10, 11, 22, 23, 24, 25, 26, 27, 28] rfl (by decide +kernel)
set_option maxRecDepth 20000 in
theorem gX6_untell_X6_error : GoodIn wsX6_untell (wsV RX6 41 RX6 yX6_error wsX6_error) := goodIn_app (goodIn_r _ [6, 7, 8, 4] rfl (by decide +kernel)) ggX6_untell_X6_error
set_option maxRecDepth 20000 in
theorem ggX6_untell_X4_drops : GoodIn wsX6_untell wsX4_drops := goodIn_r _ [16, 17, 18, 19, 20, 15, 21, 38, 39, 40, 41, 42, 43] rfl (by decide +kernel)
set_option maxRecDepth 20000 in
theorem gX6_untell_X4_drops : GoodIn wsX6_untell (wsV RX6 153 RX4 yX4_drops wsX4_drops) := goodIn_app (goodIn_r _ [12, 13, 14, 15] rfl (by decide +kernel)) ggX6_untell_X4_drops
theorem dX6_untell_0 : decode cX6_untell 0 = .ok (.iload_n 1, 1) := by decide +kernel
theorem dX6_untell_1 : decode cX6_untell 1 = .ok (.invokestatic 146, 3) := by decide +kernel
theorem dX6_untell_4 : decode cX6_untell 4 = .ok (.ifCond .ne 9, 3) := by decide +kernel
theorem dX6_untell_7 : decode cX6_untell 7 = .ok (.aload_n 0, 1) := by decide +kernel
theorem dX6_untell_8 : decode cX6_untell 8 = .ok (.iconst 1, 1) := by decide +kernel
theorem dX6_untell_9 : decode cX6_untell 9 = .ok (.invokevirtual 41, 3) := by decide +kernel
theorem dX6_untell_12 : decode cX6_untell 12 = .ok (.ireturn, 1) := by decide +kernel
theorem dX6_untell_13 : decode cX6_untell 13 = .ok (.aload_n 0, 1) := by decide +kernel
theorem dX6_untell_14 : decode cX6_untell 14 = .ok (.getfield 10, 3) := by decide +kernel
theorem dX6_untell_17 : decode cX6_untell 17 = .ok (.getfield 133, 3) := by decide +kernel
theorem dX6_untell_20 : decode cX6_untell 20 = .ok (.iload_n 1, 1) := by decide +kernel
theorem dX6_untell_21 : decode cX6_untell 21 = .ok (.invokevirtual 153, 3) := by decide +kernel
theorem dX6_untell_24 : decode cX6_untell 24 = .ok (.ifCond .eq 7, 3) := by decide +kernel
theorem dX6_untell_27 : decode cX6_untell 27 = .ok (.iconst 1, 1) := by decide +kernel
theorem dX6_untell_28 : decode cX6_untell 28 = .ok (.goto 4, 3) := by decide +kernel
theorem dX6_untell_31 : decode cX6_untell 31 = .ok (.iconst 0, 1) := by decide +kernel
theorem dX6_untell_32 : decode cX6_untell 32 = .ok (.ireturn, 1) := by decide +kernel
set_option maxRecDepth 20000 in
theorem ggX6_live_X6_error : GoodIn wsX6_live wsX6_error := goodIn_r _ [6, 7, 8, 155, 156, 157, 158, 159, 160, 161] rfl (by decide +kernel)
set_option maxRecDepth 20000 in
theorem gX6_live_X6_error : GoodIn wsX6_live (wsV RX6 41 RX6 yX6_error wsX6_error) := goodIn_app (goodIn_r _ [2, 3, 4, 5] rfl (by decide +kernel)) ggX6_live_X6_error
set_option maxRecDepth 20000 in
theorem ggX6_live_X1_livesAs : GoodIn wsX6_live wsX1_livesAs := goodIn_r _ [13, 14, 15, 16, 17, 18, 19, 20, 21, 22, 23, 24, 25, 12, 26, 27, 28, 29, 30, 31, 32, 33, 34, 35, 36, 37, 38, 39, 40, 41, 42, 43, 44, 45, 46, 47, 48, 49, 50, 51, 52, 53, 54, 55, 56, 57, 58, 59, 60, 61, 62, 63, 64, 65, 66, 67, 68, 69, 70, 71, 72, 73, 74, 75, 76, 77, 78, 79, 80, 81, 82, 83, 84, 85, 86, 87, 88, 89, 90, 91, 92, 93, 94, 95, 96, 97, 98, 99, 100, 101, 102, 103, 104, 105, 106, 107, 108, 109, 110, 111, 112, 113, 114, 115, 116, 117, 118, 119, 120, 121, 122, 123, 124, 125, 126, 127, 128, 129, 130, 131, 132, 133, 134, 135, 136, 137, 138, 139, 140, 141, 142, 143, 144, 145, 146, 147, 148, 149, 150, 151, 152, 153, 154, 162, 163, 164, 165, 166, 167, 168, 169, 170, 171, 172, 173, 174, 175, 176, 177, 178, 179, 180, 181, 182, 183, 184, 185, 186] rfl (by decide +kernel)
set_option maxRecDepth 20000 in
theorem gX6_live_X1_livesAs : GoodIn wsX6_live (wsV RX6 156 RX1 yX1_livesAs wsX1_livesAs) := goodIn_app (goodIn_r _ [9, 10, 11, 12] rfl (by decide +kernel)) ggX6_live_X1_livesAs
theorem dX6_live_0 : decode cX6_live 0 = .ok (.iload_n 1, 1) := by decide +kernel
theorem dX6_live_1 : decode cX6_live 1 = .ok (.iconst 1, 1) := by decide +kernel
theorem dX6_live_2 : decode cX6_live 2 = .ok (.if_icmp .lt 9, 3) := by decide +kernel
theorem dX6_live_5 : decode cX6_live 5 = .ok (.iload_n 1, 1) := by decide +kernel
theorem dX6_live_6 : decode cX6_live 6 = .ok (.bipush 60, 2) := by decide +kernel
theorem dX6_live_8 : decode cX6_live 8 = .ok (.if_icmp .le 9, 3) := by decide +kernel
theorem dX6_live_11 : decode cX6_live 11 = .ok (.aload_n 0, 1) := by decide +kernel
theorem dX6_live_12 : decode cX6_live 12 = .ok (.iconst 1, 1) := by decide +kernel
theorem dX6_live_13 : decode cX6_live 13 = .ok (.invokevirtual 41, 3) := by decide +kernel
theorem dX6_live_16 : decode cX6_live 16 = .ok (.ireturn, 1) := by decide +kernel
theorem dX6_live_17 : decode cX6_live 17 = .ok (.aload_n 0, 1) := by decide +kernel
theorem dX6_live_18 : decode cX6_live 18 = .ok (.getfield 10, 3) := by decide +kernel
theorem dX6_live_21 : decode cX6_live 21 = .ok (.getfield 45, 3) := by decide +kernel
theorem dX6_live_24 : decode cX6_live 24 = .ok (.sipush 29999, 3) := by decide +kernel
theorem dX6_live_27 : decode cX6_live 27 = .ok (.iload_n 1, 1) := by decide +kernel
theorem dX6_live_28 : decode cX6_live 28 = .ok (.isub, 1) := by decide +kernel
theorem dX6_live_29 : decode cX6_live 29 = .ok (.if_icmp .le 9, 3) := by decide +kernel
theorem dX6_live_32 : decode cX6_live 32 = .ok (.aload_n 0, 1) := by decide +kernel
theorem dX6_live_33 : decode cX6_live 33 = .ok (.iconst 3, 1) := by decide +kernel
theorem dX6_live_34 : decode cX6_live 34 = .ok (.invokevirtual 41, 3) := by decide +kernel
theorem dX6_live_37 : decode cX6_live 37 = .ok (.ireturn, 1) := by decide +kernel
theorem dX6_live_38 : decode cX6_live 38 = .ok (.iconst 0, 1) := by decide +kernel
theorem dX6_live_39 : decode cX6_live 39 = .ok (.istore_n 2, 1) := by decide +kernel
theorem dX6_live_40 : decode cX6_live 40 = .ok (.iload_n 2, 1) := by decide +kernel
theorem dX6_live_41 : decode cX6_live 41 = .ok (.iload_n 1, 1) := by decide +kernel
theorem dX6_live_42 : decode cX6_live 42 = .ok (.if_icmp .ge 44, 3) := by decide +kernel
theorem dX6_live_45 : decode cX6_live 45 = .ok (.iconst 0, 1) := by decide +kernel
theorem dX6_live_46 : decode cX6_live 46 = .ok (.istore_n 3, 1) := by decide +kernel
theorem dX6_live_47 : decode cX6_live 47 = .ok (.iload_n 3, 1) := by decide +kernel
theorem dX6_live_48 : decode cX6_live 48 = .ok (.bipush 6, 2) := by decide +kernel
theorem dX6_live_50 : decode cX6_live 50 = .ok (.if_icmp .ge 17, 3) := by decide +kernel
theorem dX6_live_53 : decode cX6_live 53 = .ok (.aload_n 0, 1) := by decide +kernel
theorem dX6_live_54 : decode cX6_live 54 = .ok (.getfield 10, 3) := by decide +kernel
theorem dX6_live_57 : decode cX6_live 57 = .ok (.iload_n 3, 1) := by decide +kernel
theorem dX6_live_58 : decode cX6_live 58 = .ok (.invokevirtual 156, 3) := by decide +kernel
theorem dX6_live_61 : decode cX6_live 61 = .ok (.iinc 3 1, 3) := by decide +kernel
theorem dX6_live_64 : decode cX6_live 64 = .ok (.goto (-17), 3) := by decide +kernel
theorem dX6_live_67 : decode cX6_live 67 = .ok (.aload_n 0, 1) := by decide +kernel
theorem dX6_live_68 : decode cX6_live 68 = .ok (.getfield 10, 3) := by decide +kernel
theorem dX6_live_71 : decode cX6_live 71 = .ok (.dup, 1) := by decide +kernel
theorem dX6_live_72 : decode cX6_live 72 = .ok (.getfield 45, 3) := by decide +kernel
theorem dX6_live_75 : decode cX6_live 75 = .ok (.iconst 1, 1) := by decide +kernel
theorem dX6_live_76 : decode cX6_live 76 = .ok (.iadd, 1) := by decide +kernel
theorem dX6_live_77 : decode cX6_live 77 = .ok (.putfield 45, 3) := by decide +kernel
theorem dX6_live_80 : decode cX6_live 80 = .ok (.iinc 2 1, 3) := by decide +kernel
theorem dX6_live_83 : decode cX6_live 83 = .ok (.goto (-43), 3) := by decide +kernel
theorem dX6_live_86 : decode cX6_live 86 = .ok (.aload_n 0, 1) := by decide +kernel
theorem dX6_live_87 : decode cX6_live 87 = .ok (.getfield 10, 3) := by decide +kernel
theorem dX6_live_90 : decode cX6_live 90 = .ok (.getfield 45, 3) := by decide +kernel
theorem dX6_live_93 : decode cX6_live 93 = .ok (.ireturn, 1) := by decide +kernel
theorem dX6_seed_0 : decode cX6_seed 0 = .ok (.aload_n 0, 1) := by decide +kernel
theorem dX6_seed_1 : decode cX6_seed 1 = .ok (.getfield 10, 3) := by decide +kernel
theorem dX6_seed_4 : decode cX6_seed 4 = .ok (.getfield 160, 3) := by decide +kernel
theorem dX6_seed_7 : decode cX6_seed 7 = .ok (.istore_n 2, 1) := by decide +kernel
theorem dX6_seed_8 : decode cX6_seed 8 = .ok (.aload_n 0, 1) := by decide +kernel
theorem dX6_seed_9 : decode cX6_seed 9 = .ok (.getfield 10, 3) := by decide +kernel
theorem dX6_seed_12 : decode cX6_seed 12 = .ok (.iload_n 1, 1) := by decide +kernel
theorem dX6_seed_13 : decode cX6_seed 13 = .ok (.putfield 160, 3) := by decide +kernel
theorem dX6_seed_16 : decode cX6_seed 16 = .ok (.iload_n 2, 1) := by decide +kernel
theorem dX6_seed_17 : decode cX6_seed 17 = .ok (.ireturn, 1) := by decide +kernel
set_option maxRecDepth 20000 in
theorem ggX6_alike_X6_isVersion : GoodIn wsX6_alike wsX6_isVersion := goodIn_r _ [6, 1, 24, 25, 26, 27, 28, 29, 30, 31, 32, 33, 34, 35, 36, 37, 38, 39, 40, 41, 42, 43, 44, 45, 46, 47, 48, 49] rfl (by decide +kernel)
set_option maxRecDepth 20000 in
theorem gX6_alike_X6_isVersion : GoodIn wsX6_alike (wsV RX6 80 RX6 yX6_isVersion wsX6_isVersion) := goodIn_app (goodIn_r _ [2, 3, 4, 5] rfl (by decide +kernel)) ggX6_alike_X6_isVersion
set_option maxRecDepth 20000 in
theorem ggX6_alike_X6_error : GoodIn wsX6_alike wsX6_error := goodIn_r _ [10, 11, 12, 24, 25, 26, 27, 28, 29, 30] rfl (by decide +kernel)
set_option maxRecDepth 20000 in
theorem gX6_alike_X6_error : GoodIn wsX6_alike (wsV RX6 41 RX6 yX6_error wsX6_error) := goodIn_app (goodIn_r _ [7, 8, 9, 5] rfl (by decide +kernel)) ggX6_alike_X6_error
set_option maxRecDepth 20000 in
theorem ggX6_alike_X0_areAlike : GoodIn wsX6_alike wsX0_areAlike := goodIn_r _ [17, 18, 19, 20, 21, 16, 22, 23, 40, 41, 42, 43, 44, 45, 46, 47, 48, 49] rfl (by decide +kernel)
set_option maxRecDepth 20000 in
theorem gX6_alike_X0_areAlike : GoodIn wsX6_alike (wsV RX6 163 RX0 yX0_areAlike wsX0_areAlike) := goodIn_app (goodIn_r _ [13, 14, 15, 16] rfl (by decide +kernel)) ggX6_alike_X0_areAlike
theorem dX6_alike_0 : decode cX6_alike 0 = .ok (.aload_n 0, 1) := by decide +kernel
theorem dX6_alike_1 : decode cX6_alike 1 = .ok (.iload_n 1, 1) := by decide +kernel
theorem dX6_alike_2 : decode cX6_alike 2 = .ok (.invokevirtual 80, 3) := by decide +kernel
theorem dX6_alike_5 : decode cX6_alike 5 = .ok (.ifCond .eq 11, 3) := by decide +kernel
theorem dX6_alike_8 : decode cX6_alike 8 = .ok (.aload_n 0, 1) := by decide +kernel
theorem dX6_alike_9 : decode cX6_alike 9 = .ok (.iload_n 2, 1) := by decide +kernel
theorem dX6_alike_10 : decode cX6_alike 10 = .ok (.invokevirtual 80, 3) := by decide +kernel
theorem dX6_alike_13 : decode cX6_alike 13 = .ok (.ifCond .ne 9, 3) := by decide +kernel
theorem dX6_alike_16 : decode cX6_alike 16 = .ok (.aload_n 0, 1) := by decide +kernel
theorem dX6_alike_17 : decode cX6_alike 17 = .ok (.iconst 1, 1) := by decide +kernel
theorem dX6_alike_18 : decode cX6_alike 18 = .ok (.invokevirtual 41, 3) := by decide +kernel
theorem dX6_alike_21 : decode cX6_alike 21 = .ok (.ireturn, 1) := by decide +kernel
theorem dX6_alike_22 : decode cX6_alike 22 = .ok (.aload_n 0, 1) := by decide +kernel
theorem dX6_alike_23 : decode cX6_alike 23 = .ok (.getfield 10, 3) := by decide +kernel
theorem dX6_alike_26 : decode cX6_alike 26 = .ok (.getfield 63, 3) := by decide +kernel
theorem dX6_alike_29 : decode cX6_alike 29 = .ok (.iload_n 1, 1) := by decide +kernel
theorem dX6_alike_30 : decode cX6_alike 30 = .ok (.iload_n 2, 1) := by decide +kernel
theorem dX6_alike_31 : decode cX6_alike 31 = .ok (.invokevirtual 163, 3) := by decide +kernel
theorem dX6_alike_34 : decode cX6_alike 34 = .ok (.ifCond .eq 7, 3) := by decide +kernel
theorem dX6_alike_37 : decode cX6_alike 37 = .ok (.iconst 1, 1) := by decide +kernel
theorem dX6_alike_38 : decode cX6_alike 38 = .ok (.goto 4, 3) := by decide +kernel
theorem dX6_alike_41 : decode cX6_alike 41 = .ok (.iconst 0, 1) := by decide +kernel
theorem dX6_alike_42 : decode cX6_alike 42 = .ok (.ireturn, 1) := by decide +kernel
set_option maxRecDepth 20000 in
theorem ggX6_likeness_X6_isVersion : GoodIn wsX6_likeness wsX6_isVersion := goodIn_r _ [6, 1, 29, 30, 31, 32, 33, 34, 35, 36, 37, 38, 39, 40, 41, 42, 43, 44, 45, 46, 47, 48, 49, 50, 51, 52, 53, 54] rfl (by decide +kernel)
set_option maxRecDepth 20000 in
theorem gX6_likeness_X6_isVersion : GoodIn wsX6_likeness (wsV RX6 80 RX6 yX6_isVersion wsX6_isVersion) := goodIn_app (goodIn_r _ [2, 3, 4, 5] rfl (by decide +kernel)) ggX6_likeness_X6_isVersion
set_option maxRecDepth 20000 in
theorem ggX6_likeness_X6_error : GoodIn wsX6_likeness wsX6_error := goodIn_r _ [10, 11, 12, 29, 30, 31, 32, 33, 34, 35] rfl (by decide +kernel)
set_option maxRecDepth 20000 in
theorem gX6_likeness_X6_error : GoodIn wsX6_likeness (wsV RX6 41 RX6 yX6_error wsX6_error) := goodIn_app (goodIn_r _ [7, 8, 9, 5] rfl (by decide +kernel)) ggX6_likeness_X6_error
set_option maxRecDepth 20000 in
theorem ggX6_likeness_X0_likenessOf : GoodIn wsX6_likeness wsX0_likenessOf := goodIn_r _ [17, 18, 19, 20, 21, 22, 23, 24, 25, 26, 16, 27, 28, 45, 46, 47, 48, 49, 50, 51, 52, 53, 54] rfl (by decide +kernel)
set_option maxRecDepth 20000 in
theorem gX6_likeness_X0_likenessOf : GoodIn wsX6_likeness (wsV RX6 166 RX0 yX0_likenessOf wsX0_likenessOf) := goodIn_app (goodIn_r _ [13, 14, 15, 16] rfl (by decide +kernel)) ggX6_likeness_X0_likenessOf
theorem dX6_likeness_0 : decode cX6_likeness 0 = .ok (.aload_n 0, 1) := by decide +kernel
theorem dX6_likeness_1 : decode cX6_likeness 1 = .ok (.iload_n 1, 1) := by decide +kernel
theorem dX6_likeness_2 : decode cX6_likeness 2 = .ok (.invokevirtual 80, 3) := by decide +kernel
theorem dX6_likeness_5 : decode cX6_likeness 5 = .ok (.ifCond .eq 11, 3) := by decide +kernel
theorem dX6_likeness_8 : decode cX6_likeness 8 = .ok (.aload_n 0, 1) := by decide +kernel
theorem dX6_likeness_9 : decode cX6_likeness 9 = .ok (.iload_n 2, 1) := by decide +kernel
theorem dX6_likeness_10 : decode cX6_likeness 10 = .ok (.invokevirtual 80, 3) := by decide +kernel
theorem dX6_likeness_13 : decode cX6_likeness 13 = .ok (.ifCond .ne 9, 3) := by decide +kernel
theorem dX6_likeness_16 : decode cX6_likeness 16 = .ok (.aload_n 0, 1) := by decide +kernel
theorem dX6_likeness_17 : decode cX6_likeness 17 = .ok (.iconst 1, 1) := by decide +kernel
theorem dX6_likeness_18 : decode cX6_likeness 18 = .ok (.invokevirtual 41, 3) := by decide +kernel
theorem dX6_likeness_21 : decode cX6_likeness 21 = .ok (.ireturn, 1) := by decide +kernel
theorem dX6_likeness_22 : decode cX6_likeness 22 = .ok (.aload_n 0, 1) := by decide +kernel
theorem dX6_likeness_23 : decode cX6_likeness 23 = .ok (.getfield 10, 3) := by decide +kernel
theorem dX6_likeness_26 : decode cX6_likeness 26 = .ok (.getfield 63, 3) := by decide +kernel
theorem dX6_likeness_29 : decode cX6_likeness 29 = .ok (.iload_n 1, 1) := by decide +kernel
theorem dX6_likeness_30 : decode cX6_likeness 30 = .ok (.iload_n 2, 1) := by decide +kernel
theorem dX6_likeness_31 : decode cX6_likeness 31 = .ok (.invokevirtual 166, 3) := by decide +kernel
theorem dX6_likeness_34 : decode cX6_likeness 34 = .ok (.ireturn, 1) := by decide +kernel
set_option maxRecDepth 20000 in
theorem ggX6_from_X6_isVersion : GoodIn wsX6_from wsX6_isVersion := goodIn_r _ [6, 1, 33, 34, 35, 36, 37, 38, 39, 40, 41, 42, 43, 44, 45, 46, 47, 48, 49, 50, 51, 52, 53, 54, 55, 56, 57, 58] rfl (by decide +kernel)
set_option maxRecDepth 20000 in
theorem gX6_from_X6_isVersion : GoodIn wsX6_from (wsV RX6 80 RX6 yX6_isVersion wsX6_isVersion) := goodIn_app (goodIn_r _ [2, 3, 4, 5] rfl (by decide +kernel)) ggX6_from_X6_isVersion
set_option maxRecDepth 20000 in
theorem ggX6_from_X6_error : GoodIn wsX6_from wsX6_error := goodIn_r _ [10, 11, 12, 33, 34, 35, 36, 37, 38, 39] rfl (by decide +kernel)
set_option maxRecDepth 20000 in
theorem gX6_from_X6_error : GoodIn wsX6_from (wsV RX6 41 RX6 yX6_error wsX6_error) := goodIn_app (goodIn_r _ [7, 8, 9, 5] rfl (by decide +kernel)) ggX6_from_X6_error
set_option maxRecDepth 20000 in
theorem ggX6_from_X0_likestBefore : GoodIn wsX6_from wsX0_likestBefore := goodIn_r _ [17, 18, 19, 20, 16, 21, 22, 23, 24, 25, 26, 27, 28, 29, 30, 31, 32, 49, 50, 51, 52, 53, 54, 55, 56, 57, 58] rfl (by decide +kernel)
set_option maxRecDepth 20000 in
theorem gX6_from_X0_likestBefore : GoodIn wsX6_from (wsV RX6 169 RX0 yX0_likestBefore wsX0_likestBefore) := goodIn_app (goodIn_r _ [13, 14, 15, 16] rfl (by decide +kernel)) ggX6_from_X0_likestBefore
theorem dX6_from_0 : decode cX6_from 0 = .ok (.aload_n 0, 1) := by decide +kernel
theorem dX6_from_1 : decode cX6_from 1 = .ok (.iload_n 1, 1) := by decide +kernel
theorem dX6_from_2 : decode cX6_from 2 = .ok (.invokevirtual 80, 3) := by decide +kernel
theorem dX6_from_5 : decode cX6_from 5 = .ok (.ifCond .ne 9, 3) := by decide +kernel
theorem dX6_from_8 : decode cX6_from 8 = .ok (.aload_n 0, 1) := by decide +kernel
theorem dX6_from_9 : decode cX6_from 9 = .ok (.iconst 1, 1) := by decide +kernel
theorem dX6_from_10 : decode cX6_from 10 = .ok (.invokevirtual 41, 3) := by decide +kernel
theorem dX6_from_13 : decode cX6_from 13 = .ok (.ireturn, 1) := by decide +kernel
theorem dX6_from_14 : decode cX6_from 14 = .ok (.iload_n 1, 1) := by decide +kernel
theorem dX6_from_15 : decode cX6_from 15 = .ok (.iconst 2, 1) := by decide +kernel
theorem dX6_from_16 : decode cX6_from 16 = .ok (.if_icmp .ge 9, 3) := by decide +kernel
theorem dX6_from_19 : decode cX6_from 19 = .ok (.aload_n 0, 1) := by decide +kernel
theorem dX6_from_20 : decode cX6_from 20 = .ok (.iconst 2, 1) := by decide +kernel
theorem dX6_from_21 : decode cX6_from 21 = .ok (.invokevirtual 41, 3) := by decide +kernel
theorem dX6_from_24 : decode cX6_from 24 = .ok (.ireturn, 1) := by decide +kernel
theorem dX6_from_25 : decode cX6_from 25 = .ok (.aload_n 0, 1) := by decide +kernel
theorem dX6_from_26 : decode cX6_from 26 = .ok (.getfield 10, 3) := by decide +kernel
theorem dX6_from_29 : decode cX6_from 29 = .ok (.getfield 63, 3) := by decide +kernel
theorem dX6_from_32 : decode cX6_from 32 = .ok (.iload_n 1, 1) := by decide +kernel
theorem dX6_from_33 : decode cX6_from 33 = .ok (.invokevirtual 169, 3) := by decide +kernel
theorem dX6_from_36 : decode cX6_from 36 = .ok (.ireturn, 1) := by decide +kernel
set_option maxRecDepth 20000 in
theorem ggX6_war_X6_isAct : GoodIn wsX6_war wsX6_isAct := goodIn_r _ [6, 1, 28, 29, 30, 31, 32, 33, 34, 35, 36, 37, 38, 39, 40, 41, 42, 43, 44, 45, 46, 47, 48, 49, 50, 51, 52, 53] rfl (by decide +kernel)
set_option maxRecDepth 20000 in
theorem gX6_war_X6_isAct : GoodIn wsX6_war (wsV RX6 96 RX6 yX6_isAct wsX6_isAct) := goodIn_app (goodIn_r _ [2, 3, 4, 5] rfl (by decide +kernel)) ggX6_war_X6_isAct
set_option maxRecDepth 20000 in
theorem ggX6_war_X6_error : GoodIn wsX6_war wsX6_error := goodIn_r _ [10, 11, 12, 28, 29, 30, 31, 32, 33, 34] rfl (by decide +kernel)
set_option maxRecDepth 20000 in
theorem gX6_war_X6_error : GoodIn wsX6_war (wsV RX6 41 RX6 yX6_error wsX6_error) := goodIn_app (goodIn_r _ [7, 8, 9, 5] rfl (by decide +kernel)) ggX6_war_X6_error
set_option maxRecDepth 20000 in
theorem ggX6_war_X0_warLength : GoodIn wsX6_war wsX0_warLength := goodIn_r _ [17, 18, 44, 45, 46, 47, 48, 49, 50, 51, 52, 53] rfl (by decide +kernel)
set_option maxRecDepth 20000 in
theorem gX6_war_X0_warLength : GoodIn wsX6_war (wsV RX6 172 RX0 yX0_warLength wsX0_warLength) := goodIn_app (goodIn_r _ [13, 14, 15, 16] rfl (by decide +kernel)) ggX6_war_X0_warLength
set_option maxRecDepth 20000 in
theorem ggX6_war_X0_warEnd : GoodIn wsX6_war wsX0_warEnd := goodIn_r _ [22, 18, 44, 45, 46, 47, 48, 49, 50, 51, 52, 53] rfl (by decide +kernel)
set_option maxRecDepth 20000 in
theorem gX6_war_X0_warEnd : GoodIn wsX6_war (wsV RX6 175 RX0 yX0_warEnd wsX0_warEnd) := goodIn_app (goodIn_r _ [19, 20, 21, 16] rfl (by decide +kernel)) ggX6_war_X0_warEnd
set_option maxRecDepth 20000 in
theorem ggX6_war_X0_warSide : GoodIn wsX6_war wsX0_warSide := goodIn_r _ [26, 27, 18, 44, 45, 46, 47, 48, 49, 50, 51, 52, 53] rfl (by decide +kernel)
set_option maxRecDepth 20000 in
theorem gX6_war_X0_warSide : GoodIn wsX6_war (wsV RX6 178 RX0 yX0_warSide wsX0_warSide) := goodIn_app (goodIn_r _ [23, 24, 25, 16] rfl (by decide +kernel)) ggX6_war_X0_warSide
theorem dX6_war_0 : decode cX6_war 0 = .ok (.aload_n 0, 1) := by decide +kernel
theorem dX6_war_1 : decode cX6_war 1 = .ok (.iload_n 1, 1) := by decide +kernel
theorem dX6_war_2 : decode cX6_war 2 = .ok (.invokevirtual 96, 3) := by decide +kernel
theorem dX6_war_5 : decode cX6_war 5 = .ok (.ifCond .ne 9, 3) := by decide +kernel
theorem dX6_war_8 : decode cX6_war 8 = .ok (.aload_n 0, 1) := by decide +kernel
theorem dX6_war_9 : decode cX6_war 9 = .ok (.iconst 1, 1) := by decide +kernel
theorem dX6_war_10 : decode cX6_war 10 = .ok (.invokevirtual 41, 3) := by decide +kernel
theorem dX6_war_13 : decode cX6_war 13 = .ok (.ireturn, 1) := by decide +kernel
theorem dX6_war_14 : decode cX6_war 14 = .ok (.iload_n 2, 1) := by decide +kernel
theorem dX6_war_15 : decode cX6_war 15 = .ok (.tableswitch 79 0 3 #[29, 41, 53, 66], 29) := by decide +kernel
theorem dX6_war_44 : decode cX6_war 44 = .ok (.aload_n 0, 1) := by decide +kernel
theorem dX6_war_45 : decode cX6_war 45 = .ok (.getfield 10, 3) := by decide +kernel
theorem dX6_war_48 : decode cX6_war 48 = .ok (.getfield 63, 3) := by decide +kernel
theorem dX6_war_51 : decode cX6_war 51 = .ok (.iload_n 1, 1) := by decide +kernel
theorem dX6_war_52 : decode cX6_war 52 = .ok (.invokevirtual 172, 3) := by decide +kernel
theorem dX6_war_55 : decode cX6_war 55 = .ok (.ireturn, 1) := by decide +kernel
theorem dX6_war_56 : decode cX6_war 56 = .ok (.aload_n 0, 1) := by decide +kernel
theorem dX6_war_57 : decode cX6_war 57 = .ok (.getfield 10, 3) := by decide +kernel
theorem dX6_war_60 : decode cX6_war 60 = .ok (.getfield 63, 3) := by decide +kernel
theorem dX6_war_63 : decode cX6_war 63 = .ok (.iload_n 1, 1) := by decide +kernel
theorem dX6_war_64 : decode cX6_war 64 = .ok (.invokevirtual 175, 3) := by decide +kernel
theorem dX6_war_67 : decode cX6_war 67 = .ok (.ireturn, 1) := by decide +kernel
theorem dX6_war_68 : decode cX6_war 68 = .ok (.aload_n 0, 1) := by decide +kernel
theorem dX6_war_69 : decode cX6_war 69 = .ok (.getfield 10, 3) := by decide +kernel
theorem dX6_war_72 : decode cX6_war 72 = .ok (.getfield 63, 3) := by decide +kernel
theorem dX6_war_75 : decode cX6_war 75 = .ok (.iload_n 1, 1) := by decide +kernel
theorem dX6_war_76 : decode cX6_war 76 = .ok (.iconst 0, 1) := by decide +kernel
theorem dX6_war_77 : decode cX6_war 77 = .ok (.invokevirtual 178, 3) := by decide +kernel
theorem dX6_war_80 : decode cX6_war 80 = .ok (.ireturn, 1) := by decide +kernel
theorem dX6_war_81 : decode cX6_war 81 = .ok (.aload_n 0, 1) := by decide +kernel
theorem dX6_war_82 : decode cX6_war 82 = .ok (.getfield 10, 3) := by decide +kernel
theorem dX6_war_85 : decode cX6_war 85 = .ok (.getfield 63, 3) := by decide +kernel
theorem dX6_war_88 : decode cX6_war 88 = .ok (.iload_n 1, 1) := by decide +kernel
theorem dX6_war_89 : decode cX6_war 89 = .ok (.iconst 1, 1) := by decide +kernel
theorem dX6_war_90 : decode cX6_war 90 = .ok (.invokevirtual 178, 3) := by decide +kernel
theorem dX6_war_93 : decode cX6_war 93 = .ok (.ireturn, 1) := by decide +kernel
theorem dX6_war_94 : decode cX6_war 94 = .ok (.aload_n 0, 1) := by decide +kernel
theorem dX6_war_95 : decode cX6_war 95 = .ok (.iconst 1, 1) := by decide +kernel
theorem dX6_war_96 : decode cX6_war 96 = .ok (.invokevirtual 41, 3) := by decide +kernel
theorem dX6_war_99 : decode cX6_war 99 = .ok (.ireturn, 1) := by decide +kernel
set_option maxRecDepth 20000 in
theorem ggX6_longest_X6_error : GoodIn wsX6_longest wsX6_error := goodIn_r _ [6, 7, 8, 20, 21, 22, 23, 24, 25, 26] rfl (by decide +kernel)
set_option maxRecDepth 20000 in
theorem gX6_longest_X6_error : GoodIn wsX6_longest (wsV RX6 41 RX6 yX6_error wsX6_error) := goodIn_app (goodIn_r _ [2, 3, 4, 5] rfl (by decide +kernel)) ggX6_longest_X6_error
set_option maxRecDepth 20000 in
theorem ggX6_longest_X0_longestWar : GoodIn wsX6_longest wsX0_longestWar := goodIn_r _ [13, 14, 15, 16, 17, 12, 18, 19, 36, 37, 38, 39, 40, 41, 42, 43, 44, 45] rfl (by decide +kernel)
set_option maxRecDepth 20000 in
theorem gX6_longest_X0_longestWar : GoodIn wsX6_longest (wsV RX6 184 RX0 yX0_longestWar wsX0_longestWar) := goodIn_app (goodIn_r _ [9, 10, 11, 12] rfl (by decide +kernel)) ggX6_longest_X0_longestWar
theorem dX6_longest_0 : decode cX6_longest 0 = .ok (.aload_n 0, 1) := by decide +kernel
theorem dX6_longest_1 : decode cX6_longest 1 = .ok (.getfield 10, 3) := by decide +kernel
theorem dX6_longest_4 : decode cX6_longest 4 = .ok (.getfield 63, 3) := by decide +kernel
theorem dX6_longest_7 : decode cX6_longest 7 = .ok (.getfield 181, 3) := by decide +kernel
theorem dX6_longest_10 : decode cX6_longest 10 = .ok (.ifCond .ne 9, 3) := by decide +kernel
theorem dX6_longest_13 : decode cX6_longest 13 = .ok (.aload_n 0, 1) := by decide +kernel
theorem dX6_longest_14 : decode cX6_longest 14 = .ok (.iconst 2, 1) := by decide +kernel
theorem dX6_longest_15 : decode cX6_longest 15 = .ok (.invokevirtual 41, 3) := by decide +kernel
theorem dX6_longest_18 : decode cX6_longest 18 = .ok (.ireturn, 1) := by decide +kernel
theorem dX6_longest_19 : decode cX6_longest 19 = .ok (.aload_n 0, 1) := by decide +kernel
theorem dX6_longest_20 : decode cX6_longest 20 = .ok (.getfield 10, 3) := by decide +kernel
theorem dX6_longest_23 : decode cX6_longest 23 = .ok (.getfield 63, 3) := by decide +kernel
theorem dX6_longest_26 : decode cX6_longest 26 = .ok (.invokevirtual 184, 3) := by decide +kernel
theorem dX6_longest_29 : decode cX6_longest 29 = .ok (.ireturn, 1) := by decide +kernel
set_option maxRecDepth 20000 in
theorem ggX6_stays_X6_isAct : GoodIn wsX6_stays wsX6_isAct := goodIn_r _ [6, 1, 41, 42, 43, 44, 45, 46, 47, 48, 49, 50, 51, 52, 53, 54, 55, 56, 57, 58, 59, 60, 61, 62, 63, 64, 65, 66] rfl (by decide +kernel)
set_option maxRecDepth 20000 in
theorem gX6_stays_X6_isAct : GoodIn wsX6_stays (wsV RX6 96 RX6 yX6_isAct wsX6_isAct) := goodIn_app (goodIn_r _ [2, 3, 4, 5] rfl (by decide +kernel)) ggX6_stays_X6_isAct
set_option maxRecDepth 20000 in
theorem ggX6_stays_X6_error : GoodIn wsX6_stays wsX6_error := goodIn_r _ [10, 11, 12, 41, 42, 43, 44, 45, 46, 47] rfl (by decide +kernel)
set_option maxRecDepth 20000 in
theorem gX6_stays_X6_error : GoodIn wsX6_stays (wsV RX6 41 RX6 yX6_error wsX6_error) := goodIn_app (goodIn_r _ [7, 8, 9, 5] rfl (by decide +kernel)) ggX6_stays_X6_error
set_option maxRecDepth 20000 in
theorem ggX6_stays_X0_staysOf : GoodIn wsX6_stays wsX0_staysOf := goodIn_r _ [17, 18, 19, 20, 21, 16, 22, 23, 24, 25, 26, 27, 28, 29, 30, 31, 32, 33, 34, 35, 36, 37, 38, 39, 40, 57, 58, 59, 60, 61, 62, 63, 64, 65, 66] rfl (by decide +kernel)
set_option maxRecDepth 20000 in
theorem gX6_stays_X0_staysOf : GoodIn wsX6_stays (wsV RX6 187 RX0 yX0_staysOf wsX0_staysOf) := goodIn_app (goodIn_r _ [13, 14, 15, 16] rfl (by decide +kernel)) ggX6_stays_X0_staysOf
theorem dX6_stays_0 : decode cX6_stays 0 = .ok (.aload_n 0, 1) := by decide +kernel
theorem dX6_stays_1 : decode cX6_stays 1 = .ok (.iload_n 1, 1) := by decide +kernel
theorem dX6_stays_2 : decode cX6_stays 2 = .ok (.invokevirtual 96, 3) := by decide +kernel
theorem dX6_stays_5 : decode cX6_stays 5 = .ok (.ifCond .ne 9, 3) := by decide +kernel
theorem dX6_stays_8 : decode cX6_stays 8 = .ok (.aload_n 0, 1) := by decide +kernel
theorem dX6_stays_9 : decode cX6_stays 9 = .ok (.iconst 1, 1) := by decide +kernel
theorem dX6_stays_10 : decode cX6_stays 10 = .ok (.invokevirtual 41, 3) := by decide +kernel
theorem dX6_stays_13 : decode cX6_stays 13 = .ok (.ireturn, 1) := by decide +kernel
theorem dX6_stays_14 : decode cX6_stays 14 = .ok (.aload_n 0, 1) := by decide +kernel
theorem dX6_stays_15 : decode cX6_stays 15 = .ok (.getfield 10, 3) := by decide +kernel
theorem dX6_stays_18 : decode cX6_stays 18 = .ok (.getfield 63, 3) := by decide +kernel
theorem dX6_stays_21 : decode cX6_stays 21 = .ok (.iload_n 1, 1) := by decide +kernel
theorem dX6_stays_22 : decode cX6_stays 22 = .ok (.aload_n 0, 1) := by decide +kernel
theorem dX6_stays_23 : decode cX6_stays 23 = .ok (.getfield 10, 3) := by decide +kernel
theorem dX6_stays_26 : decode cX6_stays 26 = .ok (.getfield 45, 3) := by decide +kernel
theorem dX6_stays_29 : decode cX6_stays 29 = .ok (.invokevirtual 187, 3) := by decide +kernel
theorem dX6_stays_32 : decode cX6_stays 32 = .ok (.ireturn, 1) := by decide +kernel
set_option maxRecDepth 20000 in
theorem ggX6_writerIs_X6_isWriter : GoodIn wsX6_writerIs wsX6_isWriter := goodIn_r _ [5] rfl (by decide +kernel)
set_option maxRecDepth 20000 in
theorem gX6_writerIs_X6_isWriter : GoodIn wsX6_writerIs (va_wsS RX6 59 yX6_isWriter wsX6_isWriter) := goodIn_app (goodIn_r _ [2, 3, 4] rfl (by decide +kernel)) ggX6_writerIs_X6_isWriter
set_option maxRecDepth 20000 in
theorem ggX6_writerIs_X6_error : GoodIn wsX6_writerIs wsX6_error := goodIn_r _ [9, 10, 11, 59, 60, 61, 62, 63, 64, 65] rfl (by decide +kernel)
set_option maxRecDepth 20000 in
theorem gX6_writerIs_X6_error : GoodIn wsX6_writerIs (wsV RX6 41 RX6 yX6_error wsX6_error) := goodIn_app (goodIn_r _ [6, 7, 8, 4] rfl (by decide +kernel)) ggX6_writerIs_X6_error
set_option maxRecDepth 20000 in
theorem ggX6_writerIs_X0_wordsBy : GoodIn wsX6_writerIs wsX0_wordsBy := goodIn_r _ [16, 17, 18, 19, 20, 21, 15, 22, 23, 75, 76, 77, 78, 79, 80, 81, 82, 83, 84] rfl (by decide +kernel)
set_option maxRecDepth 20000 in
theorem gX6_writerIs_X0_wordsBy : GoodIn wsX6_writerIs (wsV RX6 190 RX0 yX0_wordsBy wsX0_wordsBy) := goodIn_app (goodIn_r _ [12, 13, 14, 15] rfl (by decide +kernel)) ggX6_writerIs_X0_wordsBy
set_option maxRecDepth 20000 in
theorem ggX6_writerIs_X0_staysBy : GoodIn wsX6_writerIs wsX0_staysBy := goodIn_r _ [27, 28, 29, 13, 14, 15, 16, 17, 18, 19, 20, 21, 22, 23, 30, 31, 32, 33, 34, 35, 36, 37, 38, 39, 40, 41, 75, 76, 77, 78, 79, 80, 81, 82, 83, 84] rfl (by decide +kernel)
set_option maxRecDepth 20000 in
theorem gX6_writerIs_X0_staysBy : GoodIn wsX6_writerIs (wsV RX6 193 RX0 yX0_staysBy wsX0_staysBy) := goodIn_app (goodIn_r _ [24, 25, 26, 15] rfl (by decide +kernel)) ggX6_writerIs_X0_staysBy
set_option maxRecDepth 20000 in
theorem ggX6_writerIs_X0_undoneOf : GoodIn wsX6_writerIs wsX0_undoneOf := goodIn_r _ [45, 28, 18, 46, 75, 76, 77, 78, 79, 80, 81, 82, 83, 84] rfl (by decide +kernel)
set_option maxRecDepth 20000 in
theorem gX6_writerIs_X0_undoneOf : GoodIn wsX6_writerIs (wsV RX6 196 RX0 yX0_undoneOf wsX0_undoneOf) := goodIn_app (goodIn_r _ [42, 43, 44, 15] rfl (by decide +kernel)) ggX6_writerIs_X0_undoneOf
set_option maxRecDepth 20000 in
theorem ggX6_writerIs_X0_backsBy : GoodIn wsX6_writerIs wsX0_backsBy := goodIn_r _ [50, 28, 18, 34, 51, 52, 53, 15, 54, 75, 76, 77, 78, 79, 80, 81, 82, 83, 84] rfl (by decide +kernel)
set_option maxRecDepth 20000 in
theorem gX6_writerIs_X0_backsBy : GoodIn wsX6_writerIs (wsV RX6 199 RX0 yX0_backsBy wsX0_backsBy) := goodIn_app (goodIn_r _ [47, 48, 49, 15] rfl (by decide +kernel)) ggX6_writerIs_X0_backsBy
set_option maxRecDepth 20000 in
theorem ggX6_writerIs_X0_offFrom : GoodIn wsX6_writerIs wsX0_offFrom := goodIn_r _ [58, 28, 18, 46, 34, 75, 76, 77, 78, 79, 80, 81, 82, 83, 84] rfl (by decide +kernel)
set_option maxRecDepth 20000 in
theorem gX6_writerIs_X0_offFrom : GoodIn wsX6_writerIs (wsV RX6 202 RX0 yX0_offFrom wsX0_offFrom) := goodIn_app (goodIn_r _ [55, 56, 57, 15] rfl (by decide +kernel)) ggX6_writerIs_X0_offFrom
theorem dX6_writerIs_0 : decode cX6_writerIs 0 = .ok (.iload_n 1, 1) := by decide +kernel
theorem dX6_writerIs_1 : decode cX6_writerIs 1 = .ok (.invokestatic 59, 3) := by decide +kernel
theorem dX6_writerIs_4 : decode cX6_writerIs 4 = .ok (.ifCond .ne 9, 3) := by decide +kernel
theorem dX6_writerIs_7 : decode cX6_writerIs 7 = .ok (.aload_n 0, 1) := by decide +kernel
theorem dX6_writerIs_8 : decode cX6_writerIs 8 = .ok (.iconst 1, 1) := by decide +kernel
theorem dX6_writerIs_9 : decode cX6_writerIs 9 = .ok (.invokevirtual 41, 3) := by decide +kernel
theorem dX6_writerIs_12 : decode cX6_writerIs 12 = .ok (.ireturn, 1) := by decide +kernel
theorem dX6_writerIs_13 : decode cX6_writerIs 13 = .ok (.iload_n 2, 1) := by decide +kernel
theorem dX6_writerIs_14 : decode cX6_writerIs 14 = .ok (.tableswitch 132 0 4 #[34, 56, 75, 87, 106], 34) := by decide +kernel
theorem dX6_writerIs_48 : decode cX6_writerIs 48 = .ok (.aload_n 0, 1) := by decide +kernel
theorem dX6_writerIs_49 : decode cX6_writerIs 49 = .ok (.getfield 10, 3) := by decide +kernel
theorem dX6_writerIs_52 : decode cX6_writerIs 52 = .ok (.getfield 63, 3) := by decide +kernel
theorem dX6_writerIs_55 : decode cX6_writerIs 55 = .ok (.iload_n 1, 1) := by decide +kernel
theorem dX6_writerIs_56 : decode cX6_writerIs 56 = .ok (.aload_n 0, 1) := by decide +kernel
theorem dX6_writerIs_57 : decode cX6_writerIs 57 = .ok (.getfield 10, 3) := by decide +kernel
theorem dX6_writerIs_60 : decode cX6_writerIs 60 = .ok (.getfield 63, 3) := by decide +kernel
theorem dX6_writerIs_63 : decode cX6_writerIs 63 = .ok (.getfield 181, 3) := by decide +kernel
theorem dX6_writerIs_66 : decode cX6_writerIs 66 = .ok (.invokevirtual 190, 3) := by decide +kernel
theorem dX6_writerIs_69 : decode cX6_writerIs 69 = .ok (.ireturn, 1) := by decide +kernel
theorem dX6_writerIs_70 : decode cX6_writerIs 70 = .ok (.aload_n 0, 1) := by decide +kernel
theorem dX6_writerIs_71 : decode cX6_writerIs 71 = .ok (.getfield 10, 3) := by decide +kernel
theorem dX6_writerIs_74 : decode cX6_writerIs 74 = .ok (.getfield 63, 3) := by decide +kernel
theorem dX6_writerIs_77 : decode cX6_writerIs 77 = .ok (.iload_n 1, 1) := by decide +kernel
theorem dX6_writerIs_78 : decode cX6_writerIs 78 = .ok (.aload_n 0, 1) := by decide +kernel
theorem dX6_writerIs_79 : decode cX6_writerIs 79 = .ok (.getfield 10, 3) := by decide +kernel
theorem dX6_writerIs_82 : decode cX6_writerIs 82 = .ok (.getfield 45, 3) := by decide +kernel
theorem dX6_writerIs_85 : decode cX6_writerIs 85 = .ok (.invokevirtual 193, 3) := by decide +kernel
theorem dX6_writerIs_88 : decode cX6_writerIs 88 = .ok (.ireturn, 1) := by decide +kernel
theorem dX6_writerIs_89 : decode cX6_writerIs 89 = .ok (.aload_n 0, 1) := by decide +kernel
theorem dX6_writerIs_90 : decode cX6_writerIs 90 = .ok (.getfield 10, 3) := by decide +kernel
theorem dX6_writerIs_93 : decode cX6_writerIs 93 = .ok (.getfield 63, 3) := by decide +kernel
theorem dX6_writerIs_96 : decode cX6_writerIs 96 = .ok (.iload_n 1, 1) := by decide +kernel
theorem dX6_writerIs_97 : decode cX6_writerIs 97 = .ok (.invokevirtual 196, 3) := by decide +kernel
theorem dX6_writerIs_100 : decode cX6_writerIs 100 = .ok (.ireturn, 1) := by decide +kernel
theorem dX6_writerIs_101 : decode cX6_writerIs 101 = .ok (.aload_n 0, 1) := by decide +kernel
theorem dX6_writerIs_102 : decode cX6_writerIs 102 = .ok (.getfield 10, 3) := by decide +kernel
theorem dX6_writerIs_105 : decode cX6_writerIs 105 = .ok (.getfield 63, 3) := by decide +kernel
theorem dX6_writerIs_108 : decode cX6_writerIs 108 = .ok (.iload_n 1, 1) := by decide +kernel
theorem dX6_writerIs_109 : decode cX6_writerIs 109 = .ok (.aload_n 0, 1) := by decide +kernel
theorem dX6_writerIs_110 : decode cX6_writerIs 110 = .ok (.getfield 10, 3) := by decide +kernel
theorem dX6_writerIs_113 : decode cX6_writerIs 113 = .ok (.getfield 45, 3) := by decide +kernel
theorem dX6_writerIs_116 : decode cX6_writerIs 116 = .ok (.invokevirtual 199, 3) := by decide +kernel
theorem dX6_writerIs_119 : decode cX6_writerIs 119 = .ok (.ireturn, 1) := by decide +kernel
theorem dX6_writerIs_120 : decode cX6_writerIs 120 = .ok (.aload_n 0, 1) := by decide +kernel
theorem dX6_writerIs_121 : decode cX6_writerIs 121 = .ok (.getfield 10, 3) := by decide +kernel
theorem dX6_writerIs_124 : decode cX6_writerIs 124 = .ok (.getfield 63, 3) := by decide +kernel
theorem dX6_writerIs_127 : decode cX6_writerIs 127 = .ok (.iload_n 1, 1) := by decide +kernel
theorem dX6_writerIs_128 : decode cX6_writerIs 128 = .ok (.invokevirtual 202, 3) := by decide +kernel
theorem dX6_writerIs_131 : decode cX6_writerIs 131 = .ok (.istore_n 3, 1) := by decide +kernel
theorem dX6_writerIs_132 : decode cX6_writerIs 132 = .ok (.iload_n 3, 1) := by decide +kernel
theorem dX6_writerIs_133 : decode cX6_writerIs 133 = .ok (.ifCond .ge 11, 3) := by decide +kernel
theorem dX6_writerIs_136 : decode cX6_writerIs 136 = .ok (.aload_n 0, 1) := by decide +kernel
theorem dX6_writerIs_137 : decode cX6_writerIs 137 = .ok (.iconst 2, 1) := by decide +kernel
theorem dX6_writerIs_138 : decode cX6_writerIs 138 = .ok (.invokevirtual 41, 3) := by decide +kernel
theorem dX6_writerIs_141 : decode cX6_writerIs 141 = .ok (.goto 4, 3) := by decide +kernel
theorem dX6_writerIs_144 : decode cX6_writerIs 144 = .ok (.iload_n 3, 1) := by decide +kernel
theorem dX6_writerIs_145 : decode cX6_writerIs 145 = .ok (.ireturn, 1) := by decide +kernel
theorem dX6_writerIs_146 : decode cX6_writerIs 146 = .ok (.aload_n 0, 1) := by decide +kernel
theorem dX6_writerIs_147 : decode cX6_writerIs 147 = .ok (.iconst 1, 1) := by decide +kernel
theorem dX6_writerIs_148 : decode cX6_writerIs 148 = .ok (.invokevirtual 41, 3) := by decide +kernel
theorem dX6_writerIs_151 : decode cX6_writerIs 151 = .ok (.ireturn, 1) := by decide +kernel
set_option maxRecDepth 20000 in
theorem ggX6_read_X6_error : GoodIn wsX6_read wsX6_error := goodIn_r _ [6, 7, 8, 16, 17, 18, 19, 20, 21, 22] rfl (by decide +kernel)
set_option maxRecDepth 20000 in
theorem gX6_read_X6_error : GoodIn wsX6_read (wsV RX6 41 RX6 yX6_error wsX6_error) := goodIn_app (goodIn_r _ [2, 3, 4, 5] rfl (by decide +kernel)) ggX6_read_X6_error
set_option maxRecDepth 20000 in
theorem ggX6_read_X0_thereAt : GoodIn wsX6_read wsX0_thereAt := goodIn_r _ [13, 14, 15, 32, 33, 34, 35, 36, 37, 38, 39, 40, 41] rfl (by decide +kernel)
set_option maxRecDepth 20000 in
theorem gX6_read_X0_thereAt : GoodIn wsX6_read (wsV RX6 205 RX0 yX0_thereAt wsX0_thereAt) := goodIn_app (goodIn_r _ [9, 10, 11, 12] rfl (by decide +kernel)) ggX6_read_X0_thereAt
theorem dX6_read_0 : decode cX6_read 0 = .ok (.iload_n 1, 1) := by decide +kernel
theorem dX6_read_1 : decode cX6_read 1 = .ok (.ifCond .lt 14, 3) := by decide +kernel
theorem dX6_read_4 : decode cX6_read 4 = .ok (.iload_n 1, 1) := by decide +kernel
theorem dX6_read_5 : decode cX6_read 5 = .ok (.aload_n 0, 1) := by decide +kernel
theorem dX6_read_6 : decode cX6_read 6 = .ok (.getfield 10, 3) := by decide +kernel
theorem dX6_read_9 : decode cX6_read 9 = .ok (.getfield 45, 3) := by decide +kernel
theorem dX6_read_12 : decode cX6_read 12 = .ok (.if_icmp .le 9, 3) := by decide +kernel
theorem dX6_read_15 : decode cX6_read 15 = .ok (.aload_n 0, 1) := by decide +kernel
theorem dX6_read_16 : decode cX6_read 16 = .ok (.iconst 1, 1) := by decide +kernel
theorem dX6_read_17 : decode cX6_read 17 = .ok (.invokevirtual 41, 3) := by decide +kernel
theorem dX6_read_20 : decode cX6_read 20 = .ok (.ireturn, 1) := by decide +kernel
theorem dX6_read_21 : decode cX6_read 21 = .ok (.aload_n 0, 1) := by decide +kernel
theorem dX6_read_22 : decode cX6_read 22 = .ok (.getfield 10, 3) := by decide +kernel
theorem dX6_read_25 : decode cX6_read 25 = .ok (.getfield 63, 3) := by decide +kernel
theorem dX6_read_28 : decode cX6_read 28 = .ok (.iload_n 1, 1) := by decide +kernel
theorem dX6_read_29 : decode cX6_read 29 = .ok (.invokevirtual 205, 3) := by decide +kernel
theorem dX6_read_32 : decode cX6_read 32 = .ok (.ireturn, 1) := by decide +kernel
set_option maxRecDepth 20000 in
theorem ggX6_wrong_X6_isVersion : GoodIn wsX6_wrong wsX6_isVersion := goodIn_r _ [6, 1, 47, 48, 49, 50, 51, 52, 53, 54, 55, 56, 57, 58, 59, 60, 61, 62, 63, 64, 65, 66, 67, 68, 69, 70, 71, 72] rfl (by decide +kernel)
set_option maxRecDepth 20000 in
theorem gX6_wrong_X6_isVersion : GoodIn wsX6_wrong (wsV RX6 80 RX6 yX6_isVersion wsX6_isVersion) := goodIn_app (goodIn_r _ [2, 3, 4, 5] rfl (by decide +kernel)) ggX6_wrong_X6_isVersion
set_option maxRecDepth 20000 in
theorem ggX6_wrong_X6_areMinutes : GoodIn wsX6_wrong wsX6_areMinutes := goodIn_r _ [10, 1, 47, 48, 49, 50, 51, 52, 53, 54, 55, 56, 57, 58, 59, 60, 61, 62] rfl (by decide +kernel)
set_option maxRecDepth 20000 in
theorem gX6_wrong_X6_areMinutes : GoodIn wsX6_wrong (wsV RX6 208 RX6 yX6_areMinutes wsX6_areMinutes) := goodIn_app (goodIn_r _ [7, 8, 9, 5] rfl (by decide +kernel)) ggX6_wrong_X6_areMinutes
set_option maxRecDepth 20000 in
theorem ggX6_wrong_X6_error : GoodIn wsX6_wrong wsX6_error := goodIn_r _ [14, 15, 16, 47, 48, 49, 50, 51, 52, 53] rfl (by decide +kernel)
set_option maxRecDepth 20000 in
theorem gX6_wrong_X6_error : GoodIn wsX6_wrong (wsV RX6 41 RX6 yX6_error wsX6_error) := goodIn_app (goodIn_r _ [11, 12, 13, 5] rfl (by decide +kernel)) ggX6_wrong_X6_error
set_option maxRecDepth 20000 in
theorem ggX6_wrong_X1_minutesAlike : GoodIn wsX6_wrong wsX1_minutesAlike := goodIn_r _ [21, 22, 23, 24, 25, 26, 27, 28, 29, 30, 31, 32, 33, 34, 35, 36, 37, 38, 39, 40, 41, 42, 43, 44, 45, 46, 54, 55, 56, 57, 58, 59, 60, 61, 62, 63, 64, 65, 66, 67, 68, 69, 70, 71, 72] rfl (by decide +kernel)
set_option maxRecDepth 20000 in
theorem gX6_wrong_X1_minutesAlike : GoodIn wsX6_wrong (wsV RX6 211 RX1 yX1_minutesAlike wsX1_minutesAlike) := goodIn_app (goodIn_r _ [17, 18, 19, 20] rfl (by decide +kernel)) ggX6_wrong_X1_minutesAlike
theorem dX6_wrong_0 : decode cX6_wrong 0 = .ok (.aload_n 0, 1) := by decide +kernel
theorem dX6_wrong_1 : decode cX6_wrong 1 = .ok (.iload_n 1, 1) := by decide +kernel
theorem dX6_wrong_2 : decode cX6_wrong 2 = .ok (.invokevirtual 80, 3) := by decide +kernel
theorem dX6_wrong_5 : decode cX6_wrong 5 = .ok (.ifCond .eq 12, 3) := by decide +kernel
theorem dX6_wrong_8 : decode cX6_wrong 8 = .ok (.aload_n 0, 1) := by decide +kernel
theorem dX6_wrong_9 : decode cX6_wrong 9 = .ok (.iload_n 2, 1) := by decide +kernel
theorem dX6_wrong_10 : decode cX6_wrong 10 = .ok (.iload_n 3, 1) := by decide +kernel
theorem dX6_wrong_11 : decode cX6_wrong 11 = .ok (.invokevirtual 208, 3) := by decide +kernel
theorem dX6_wrong_14 : decode cX6_wrong 14 = .ok (.ifCond .ne 9, 3) := by decide +kernel
theorem dX6_wrong_17 : decode cX6_wrong 17 = .ok (.aload_n 0, 1) := by decide +kernel
theorem dX6_wrong_18 : decode cX6_wrong 18 = .ok (.iconst 1, 1) := by decide +kernel
theorem dX6_wrong_19 : decode cX6_wrong 19 = .ok (.invokevirtual 41, 3) := by decide +kernel
theorem dX6_wrong_22 : decode cX6_wrong 22 = .ok (.ireturn, 1) := by decide +kernel
theorem dX6_wrong_23 : decode cX6_wrong 23 = .ok (.aload_n 0, 1) := by decide +kernel
theorem dX6_wrong_24 : decode cX6_wrong 24 = .ok (.getfield 10, 3) := by decide +kernel
theorem dX6_wrong_27 : decode cX6_wrong 27 = .ok (.iload_n 1, 1) := by decide +kernel
theorem dX6_wrong_28 : decode cX6_wrong 28 = .ok (.iload_n 2, 1) := by decide +kernel
theorem dX6_wrong_29 : decode cX6_wrong 29 = .ok (.iload_n 3, 1) := by decide +kernel
theorem dX6_wrong_30 : decode cX6_wrong 30 = .ok (.invokevirtual 211, 3) := by decide +kernel
theorem dX6_wrong_33 : decode cX6_wrong 33 = .ok (.ireturn, 1) := by decide +kernel
set_option maxRecDepth 20000 in
theorem ggX6_hand_X6_isWriter : GoodIn wsX6_hand wsX6_isWriter := goodIn_r _ [9] rfl (by decide +kernel)
set_option maxRecDepth 20000 in
theorem gX6_hand_X6_isWriter : GoodIn wsX6_hand (va_wsS RX6 59 yX6_isWriter wsX6_isWriter) := goodIn_app (goodIn_r _ [6, 7, 8] rfl (by decide +kernel)) ggX6_hand_X6_isWriter
set_option maxRecDepth 20000 in
theorem ggX6_hand_X6_error : GoodIn wsX6_hand wsX6_error := goodIn_r _ [13, 14, 15, 33, 34, 35, 36, 37, 38, 39] rfl (by decide +kernel)
set_option maxRecDepth 20000 in
theorem gX6_hand_X6_error : GoodIn wsX6_hand (wsV RX6 41 RX6 yX6_error wsX6_error) := goodIn_app (goodIn_r _ [10, 11, 12, 8] rfl (by decide +kernel)) ggX6_hand_X6_error
set_option maxRecDepth 20000 in
theorem ggX6_hand_X0_doneBy : GoodIn wsX6_hand wsX0_doneBy := goodIn_r _ [20, 21, 22, 49, 50, 51, 52, 53, 54, 55, 56, 57, 58] rfl (by decide +kernel)
set_option maxRecDepth 20000 in
theorem gX6_hand_X0_doneBy : GoodIn wsX6_hand (wsV RX6 214 RX0 yX0_doneBy wsX0_doneBy) := goodIn_app (goodIn_r _ [16, 17, 18, 19] rfl (by decide +kernel)) ggX6_hand_X0_doneBy
set_option maxRecDepth 20000 in
theorem ggX6_hand_X0_hoursInCommon : GoodIn wsX6_hand wsX0_hoursInCommon := goodIn_r _ [26, 27, 3, 4, 5, 28, 29, 30, 19, 31, 21, 22, 32, 49, 50, 51, 52, 53, 54, 55, 56, 57, 58] rfl (by decide +kernel)
set_option maxRecDepth 20000 in
theorem gX6_hand_X0_hoursInCommon : GoodIn wsX6_hand (wsV RX6 222 RX0 yX0_hoursInCommon wsX0_hoursInCommon) := goodIn_app (goodIn_r _ [23, 24, 25, 19] rfl (by decide +kernel)) ggX6_hand_X0_hoursInCommon
theorem dX6_hand_0 : decode cX6_hand 0 = .ok (.iload_n 1, 1) := by decide +kernel
theorem dX6_hand_1 : decode cX6_hand 1 = .ok (.invokestatic 59, 3) := by decide +kernel
theorem dX6_hand_4 : decode cX6_hand 4 = .ok (.ifCond .eq 15, 3) := by decide +kernel
theorem dX6_hand_7 : decode cX6_hand 7 = .ok (.iload_n 2, 1) := by decide +kernel
theorem dX6_hand_8 : decode cX6_hand 8 = .ok (.invokestatic 59, 3) := by decide +kernel
theorem dX6_hand_11 : decode cX6_hand 11 = .ok (.ifCond .eq 8, 3) := by decide +kernel
theorem dX6_hand_14 : decode cX6_hand 14 = .ok (.iload_n 1, 1) := by decide +kernel
theorem dX6_hand_15 : decode cX6_hand 15 = .ok (.iload_n 2, 1) := by decide +kernel
theorem dX6_hand_16 : decode cX6_hand 16 = .ok (.if_icmp .ne 9, 3) := by decide +kernel
theorem dX6_hand_19 : decode cX6_hand 19 = .ok (.aload_n 0, 1) := by decide +kernel
theorem dX6_hand_20 : decode cX6_hand 20 = .ok (.iconst 1, 1) := by decide +kernel
theorem dX6_hand_21 : decode cX6_hand 21 = .ok (.invokevirtual 41, 3) := by decide +kernel
theorem dX6_hand_24 : decode cX6_hand 24 = .ok (.ireturn, 1) := by decide +kernel
theorem dX6_hand_25 : decode cX6_hand 25 = .ok (.aload_n 0, 1) := by decide +kernel
theorem dX6_hand_26 : decode cX6_hand 26 = .ok (.getfield 10, 3) := by decide +kernel
theorem dX6_hand_29 : decode cX6_hand 29 = .ok (.getfield 63, 3) := by decide +kernel
theorem dX6_hand_32 : decode cX6_hand 32 = .ok (.iload_n 1, 1) := by decide +kernel
theorem dX6_hand_33 : decode cX6_hand 33 = .ok (.invokevirtual 214, 3) := by decide +kernel
theorem dX6_hand_36 : decode cX6_hand 36 = .ok (.aload_n 0, 1) := by decide +kernel
theorem dX6_hand_37 : decode cX6_hand 37 = .ok (.getfield 10, 3) := by decide +kernel
theorem dX6_hand_40 : decode cX6_hand 40 = .ok (.getfield 63, 3) := by decide +kernel
theorem dX6_hand_43 : decode cX6_hand 43 = .ok (.iload_n 2, 1) := by decide +kernel
theorem dX6_hand_44 : decode cX6_hand 44 = .ok (.invokevirtual 214, 3) := by decide +kernel
theorem dX6_hand_47 : decode cX6_hand 47 = .ok (.invokestatic 217, 3) := by decide +kernel
theorem dX6_hand_50 : decode cX6_hand 50 = .ok (.istore_n 3, 1) := by decide +kernel
theorem dX6_hand_51 : decode cX6_hand 51 = .ok (.iload_n 3, 1) := by decide +kernel
theorem dX6_hand_52 : decode cX6_hand 52 = .ok (.ifCond .ne 9, 3) := by decide +kernel
theorem dX6_hand_55 : decode cX6_hand 55 = .ok (.aload_n 0, 1) := by decide +kernel
theorem dX6_hand_56 : decode cX6_hand 56 = .ok (.iconst 2, 1) := by decide +kernel
theorem dX6_hand_57 : decode cX6_hand 57 = .ok (.invokevirtual 41, 3) := by decide +kernel
theorem dX6_hand_60 : decode cX6_hand 60 = .ok (.ireturn, 1) := by decide +kernel
theorem dX6_hand_61 : decode cX6_hand 61 = .ok (.bipush 100, 2) := by decide +kernel
theorem dX6_hand_63 : decode cX6_hand 63 = .ok (.aload_n 0, 1) := by decide +kernel
theorem dX6_hand_64 : decode cX6_hand 64 = .ok (.getfield 10, 3) := by decide +kernel
theorem dX6_hand_67 : decode cX6_hand 67 = .ok (.getfield 63, 3) := by decide +kernel
theorem dX6_hand_70 : decode cX6_hand 70 = .ok (.iload_n 1, 1) := by decide +kernel
theorem dX6_hand_71 : decode cX6_hand 71 = .ok (.iload_n 2, 1) := by decide +kernel
theorem dX6_hand_72 : decode cX6_hand 72 = .ok (.invokevirtual 222, 3) := by decide +kernel
theorem dX6_hand_75 : decode cX6_hand 75 = .ok (.imul, 1) := by decide +kernel
theorem dX6_hand_76 : decode cX6_hand 76 = .ok (.iload_n 3, 1) := by decide +kernel
theorem dX6_hand_77 : decode cX6_hand 77 = .ok (.idiv, 1) := by decide +kernel
theorem dX6_hand_78 : decode cX6_hand 78 = .ok (.ireturn, 1) := by decide +kernel
set_option maxRecDepth 20000 in
theorem ggX6_score_X6_isAct : GoodIn wsX6_score wsX6_isAct := goodIn_r _ [6, 1, 13, 14, 15, 16, 17, 18, 19, 20, 21, 22, 23, 24, 25, 26, 27, 28, 29, 30, 31, 32, 33, 34, 35, 36, 37, 38] rfl (by decide +kernel)
set_option maxRecDepth 20000 in
theorem gX6_score_X6_isAct : GoodIn wsX6_score (wsV RX6 96 RX6 yX6_isAct wsX6_isAct) := goodIn_app (goodIn_r _ [2, 3, 4, 5] rfl (by decide +kernel)) ggX6_score_X6_isAct
set_option maxRecDepth 20000 in
theorem ggX6_score_X6_error : GoodIn wsX6_score wsX6_error := goodIn_r _ [10, 11, 12, 13, 14, 15, 16, 17, 18, 19] rfl (by decide +kernel)
set_option maxRecDepth 20000 in
theorem gX6_score_X6_error : GoodIn wsX6_score (wsV RX6 41 RX6 yX6_error wsX6_error) := goodIn_app (goodIn_r _ [7, 8, 9, 5] rfl (by decide +kernel)) ggX6_score_X6_error
theorem dX6_score_0 : decode cX6_score 0 = .ok (.aload_n 0, 1) := by decide +kernel
theorem dX6_score_1 : decode cX6_score 1 = .ok (.iload_n 1, 1) := by decide +kernel
theorem dX6_score_2 : decode cX6_score 2 = .ok (.invokevirtual 96, 3) := by decide +kernel
theorem dX6_score_5 : decode cX6_score 5 = .ok (.ifCond .eq 14, 3) := by decide +kernel
theorem dX6_score_8 : decode cX6_score 8 = .ok (.iload_n 2, 1) := by decide +kernel
theorem dX6_score_9 : decode cX6_score 9 = .ok (.iconst (-1), 1) := by decide +kernel
theorem dX6_score_10 : decode cX6_score 10 = .ok (.if_icmp .lt 9, 3) := by decide +kernel
theorem dX6_score_13 : decode cX6_score 13 = .ok (.iload_n 2, 1) := by decide +kernel
theorem dX6_score_14 : decode cX6_score 14 = .ok (.bipush 100, 2) := by decide +kernel
theorem dX6_score_16 : decode cX6_score 16 = .ok (.if_icmp .le 9, 3) := by decide +kernel
theorem dX6_score_19 : decode cX6_score 19 = .ok (.aload_n 0, 1) := by decide +kernel
theorem dX6_score_20 : decode cX6_score 20 = .ok (.iconst 1, 1) := by decide +kernel
theorem dX6_score_21 : decode cX6_score 21 = .ok (.invokevirtual 41, 3) := by decide +kernel
theorem dX6_score_24 : decode cX6_score 24 = .ok (.ireturn, 1) := by decide +kernel
theorem dX6_score_25 : decode cX6_score 25 = .ok (.aload_n 0, 1) := by decide +kernel
theorem dX6_score_26 : decode cX6_score 26 = .ok (.getfield 10, 3) := by decide +kernel
theorem dX6_score_29 : decode cX6_score 29 = .ok (.getfield 63, 3) := by decide +kernel
theorem dX6_score_32 : decode cX6_score 32 = .ok (.getfield 114, 3) := by decide +kernel
theorem dX6_score_35 : decode cX6_score 35 = .ok (.iload_n 1, 1) := by decide +kernel
theorem dX6_score_36 : decode cX6_score 36 = .ok (.iaload, 1) := by decide +kernel
theorem dX6_score_37 : decode cX6_score 37 = .ok (.istore_n 3, 1) := by decide +kernel
theorem dX6_score_38 : decode cX6_score 38 = .ok (.aload_n 0, 1) := by decide +kernel
theorem dX6_score_39 : decode cX6_score 39 = .ok (.getfield 10, 3) := by decide +kernel
theorem dX6_score_42 : decode cX6_score 42 = .ok (.getfield 63, 3) := by decide +kernel
theorem dX6_score_45 : decode cX6_score 45 = .ok (.getfield 114, 3) := by decide +kernel
theorem dX6_score_48 : decode cX6_score 48 = .ok (.iload_n 1, 1) := by decide +kernel
theorem dX6_score_49 : decode cX6_score 49 = .ok (.iload_n 2, 1) := by decide +kernel
theorem dX6_score_50 : decode cX6_score 50 = .ok (.iastore, 1) := by decide +kernel
theorem dX6_score_51 : decode cX6_score 51 = .ok (.iload_n 3, 1) := by decide +kernel
theorem dX6_score_52 : decode cX6_score 52 = .ok (.ireturn, 1) := by decide +kernel
set_option maxRecDepth 20000 in
theorem ggX6_line_X6_error : GoodIn wsX6_line wsX6_error := goodIn_r _ [6, 7, 8, 25, 26, 27, 28, 29, 30, 31] rfl (by decide +kernel)
set_option maxRecDepth 20000 in
theorem gX6_line_X6_error : GoodIn wsX6_line (wsV RX6 41 RX6 yX6_error wsX6_error) := goodIn_app (goodIn_r _ [2, 3, 4, 5] rfl (by decide +kernel)) ggX6_line_X6_error
set_option maxRecDepth 20000 in
theorem ggX6_line_X0_cheapestLine : GoodIn wsX6_line wsX0_cheapestLine := goodIn_r _ [13, 14, 15, 16, 12, 17, 18, 19, 20, 21, 22, 23, 41, 42, 43, 44, 45, 46, 47, 48, 49, 50] rfl (by decide +kernel)
set_option maxRecDepth 20000 in
theorem gX6_line_X0_cheapestLine : GoodIn wsX6_line (wsV RX6 225 RX0 yX0_cheapestLine wsX0_cheapestLine) := goodIn_app (goodIn_r _ [9, 10, 11, 12] rfl (by decide +kernel)) ggX6_line_X0_cheapestLine
set_option maxRecDepth 20000 in
theorem ggX6_line_X0_lineCosts : GoodIn wsX6_line wsX0_lineCosts := goodIn_r _ [17, 18, 19, 20, 21, 22, 12, 23, 41, 42, 43, 44, 45, 46, 47, 48, 49, 50] rfl (by decide +kernel)
set_option maxRecDepth 20000 in
theorem gX6_line_X0_lineCosts : GoodIn wsX6_line (wsV RX6 228 RX0 yX0_lineCosts wsX0_lineCosts) := goodIn_app (goodIn_r _ [24, 15, 16, 12] rfl (by decide +kernel)) ggX6_line_X0_lineCosts
theorem dX6_line_0 : decode cX6_line 0 = .ok (.iload_n 1, 1) := by decide +kernel
theorem dX6_line_1 : decode cX6_line 1 = .ok (.ifCond .lt 28, 3) := by decide +kernel
theorem dX6_line_4 : decode cX6_line 4 = .ok (.iload_n 1, 1) := by decide +kernel
theorem dX6_line_5 : decode cX6_line 5 = .ok (.bipush 99, 2) := by decide +kernel
theorem dX6_line_7 : decode cX6_line 7 = .ok (.if_icmp .gt 22, 3) := by decide +kernel
theorem dX6_line_10 : decode cX6_line 10 = .ok (.iload_n 2, 1) := by decide +kernel
theorem dX6_line_11 : decode cX6_line 11 = .ok (.ifCond .lt 18, 3) := by decide +kernel
theorem dX6_line_14 : decode cX6_line 14 = .ok (.iload_n 2, 1) := by decide +kernel
theorem dX6_line_15 : decode cX6_line 15 = .ok (.bipush 99, 2) := by decide +kernel
theorem dX6_line_17 : decode cX6_line 17 = .ok (.if_icmp .gt 12, 3) := by decide +kernel
theorem dX6_line_20 : decode cX6_line 20 = .ok (.iload_n 3, 1) := by decide +kernel
theorem dX6_line_21 : decode cX6_line 21 = .ok (.ifCond .lt 8, 3) := by decide +kernel
theorem dX6_line_24 : decode cX6_line 24 = .ok (.iload_n 3, 1) := by decide +kernel
theorem dX6_line_25 : decode cX6_line 25 = .ok (.iconst 1, 1) := by decide +kernel
theorem dX6_line_26 : decode cX6_line 26 = .ok (.if_icmp .le 9, 3) := by decide +kernel
theorem dX6_line_29 : decode cX6_line 29 = .ok (.aload_n 0, 1) := by decide +kernel
theorem dX6_line_30 : decode cX6_line 30 = .ok (.iconst 1, 1) := by decide +kernel
theorem dX6_line_31 : decode cX6_line 31 = .ok (.invokevirtual 41, 3) := by decide +kernel
theorem dX6_line_34 : decode cX6_line 34 = .ok (.ireturn, 1) := by decide +kernel
theorem dX6_line_35 : decode cX6_line 35 = .ok (.aload_n 0, 1) := by decide +kernel
theorem dX6_line_36 : decode cX6_line 36 = .ok (.getfield 10, 3) := by decide +kernel
theorem dX6_line_39 : decode cX6_line 39 = .ok (.getfield 63, 3) := by decide +kernel
theorem dX6_line_42 : decode cX6_line 42 = .ok (.iload_n 1, 1) := by decide +kernel
theorem dX6_line_43 : decode cX6_line 43 = .ok (.iload_n 2, 1) := by decide +kernel
theorem dX6_line_44 : decode cX6_line 44 = .ok (.invokevirtual 225, 3) := by decide +kernel
theorem dX6_line_47 : decode cX6_line 47 = .ok (.istore 4, 2) := by decide +kernel
theorem dX6_line_49 : decode cX6_line 49 = .ok (.iload_n 3, 1) := by decide +kernel
theorem dX6_line_50 : decode cX6_line 50 = .ok (.ifCond .ne 8, 3) := by decide +kernel
theorem dX6_line_53 : decode cX6_line 53 = .ok (.iload 4, 2) := by decide +kernel
theorem dX6_line_55 : decode cX6_line 55 = .ok (.goto 17, 3) := by decide +kernel
theorem dX6_line_58 : decode cX6_line 58 = .ok (.aload_n 0, 1) := by decide +kernel
theorem dX6_line_59 : decode cX6_line 59 = .ok (.getfield 10, 3) := by decide +kernel
theorem dX6_line_62 : decode cX6_line 62 = .ok (.getfield 63, 3) := by decide +kernel
theorem dX6_line_65 : decode cX6_line 65 = .ok (.iload 4, 2) := by decide +kernel
theorem dX6_line_67 : decode cX6_line 67 = .ok (.iload_n 1, 1) := by decide +kernel
theorem dX6_line_68 : decode cX6_line 68 = .ok (.iload_n 2, 1) := by decide +kernel
theorem dX6_line_69 : decode cX6_line 69 = .ok (.invokevirtual 228, 3) := by decide +kernel
theorem dX6_line_72 : decode cX6_line 72 = .ok (.ireturn, 1) := by decide +kernel
set_option maxRecDepth 20000 in
theorem ggX6_worth_X6_isWord : GoodIn wsX6_worth wsX6_isWord := goodIn_r _ [5] rfl (by decide +kernel)
set_option maxRecDepth 20000 in
theorem gX6_worth_X6_isWord : GoodIn wsX6_worth (va_wsS RX6 231 yX6_isWord wsX6_isWord) := goodIn_app (goodIn_r _ [2, 3, 4] rfl (by decide +kernel)) ggX6_worth_X6_isWord
set_option maxRecDepth 20000 in
theorem ggX6_worth_X6_error : GoodIn wsX6_worth wsX6_error := goodIn_r _ [9, 10, 11, 12, 13, 14, 15, 16, 17, 18] rfl (by decide +kernel)
set_option maxRecDepth 20000 in
theorem gX6_worth_X6_error : GoodIn wsX6_worth (wsV RX6 41 RX6 yX6_error wsX6_error) := goodIn_app (goodIn_r _ [6, 7, 8, 4] rfl (by decide +kernel)) ggX6_worth_X6_error
theorem dX6_worth_0 : decode cX6_worth 0 = .ok (.iload_n 1, 1) := by decide +kernel
theorem dX6_worth_1 : decode cX6_worth 1 = .ok (.invokestatic 231, 3) := by decide +kernel
theorem dX6_worth_4 : decode cX6_worth 4 = .ok (.ifCond .eq 15, 3) := by decide +kernel
theorem dX6_worth_7 : decode cX6_worth 7 = .ok (.iload_n 2, 1) := by decide +kernel
theorem dX6_worth_8 : decode cX6_worth 8 = .ok (.bipush (-9), 2) := by decide +kernel
theorem dX6_worth_10 : decode cX6_worth 10 = .ok (.if_icmp .lt 9, 3) := by decide +kernel
theorem dX6_worth_13 : decode cX6_worth 13 = .ok (.iload_n 2, 1) := by decide +kernel
theorem dX6_worth_14 : decode cX6_worth 14 = .ok (.bipush 9, 2) := by decide +kernel
theorem dX6_worth_16 : decode cX6_worth 16 = .ok (.if_icmp .le 9, 3) := by decide +kernel
theorem dX6_worth_19 : decode cX6_worth 19 = .ok (.aload_n 0, 1) := by decide +kernel
theorem dX6_worth_20 : decode cX6_worth 20 = .ok (.iconst 1, 1) := by decide +kernel
theorem dX6_worth_21 : decode cX6_worth 21 = .ok (.invokevirtual 41, 3) := by decide +kernel
theorem dX6_worth_24 : decode cX6_worth 24 = .ok (.ireturn, 1) := by decide +kernel
theorem dX6_worth_25 : decode cX6_worth 25 = .ok (.aload_n 0, 1) := by decide +kernel
theorem dX6_worth_26 : decode cX6_worth 26 = .ok (.getfield 10, 3) := by decide +kernel
theorem dX6_worth_29 : decode cX6_worth 29 = .ok (.getfield 234, 3) := by decide +kernel
theorem dX6_worth_32 : decode cX6_worth 32 = .ok (.iload_n 1, 1) := by decide +kernel
theorem dX6_worth_33 : decode cX6_worth 33 = .ok (.iaload, 1) := by decide +kernel
theorem dX6_worth_34 : decode cX6_worth 34 = .ok (.istore_n 3, 1) := by decide +kernel
theorem dX6_worth_35 : decode cX6_worth 35 = .ok (.aload_n 0, 1) := by decide +kernel
theorem dX6_worth_36 : decode cX6_worth 36 = .ok (.getfield 10, 3) := by decide +kernel
theorem dX6_worth_39 : decode cX6_worth 39 = .ok (.getfield 234, 3) := by decide +kernel
theorem dX6_worth_42 : decode cX6_worth 42 = .ok (.iload_n 1, 1) := by decide +kernel
theorem dX6_worth_43 : decode cX6_worth 43 = .ok (.iload_n 2, 1) := by decide +kernel
theorem dX6_worth_44 : decode cX6_worth 44 = .ok (.iastore, 1) := by decide +kernel
theorem dX6_worth_45 : decode cX6_worth 45 = .ok (.iload_n 3, 1) := by decide +kernel
theorem dX6_worth_46 : decode cX6_worth 46 = .ok (.ireturn, 1) := by decide +kernel
set_option maxRecDepth 20000 in
theorem ggX6_value_X6_isVersion : GoodIn wsX6_value wsX6_isVersion := goodIn_r _ [6, 1, 26, 27, 28, 29, 30, 31, 32, 33, 34, 35, 36, 37, 38, 39, 40, 41, 42, 43, 44, 45, 46, 47, 48, 49, 50, 51] rfl (by decide +kernel)
set_option maxRecDepth 20000 in
theorem gX6_value_X6_isVersion : GoodIn wsX6_value (wsV RX6 80 RX6 yX6_isVersion wsX6_isVersion) := goodIn_app (goodIn_r _ [2, 3, 4, 5] rfl (by decide +kernel)) ggX6_value_X6_isVersion
set_option maxRecDepth 20000 in
theorem ggX6_value_X6_error : GoodIn wsX6_value wsX6_error := goodIn_r _ [10, 11, 12, 26, 27, 28, 29, 30, 31, 32] rfl (by decide +kernel)
set_option maxRecDepth 20000 in
theorem gX6_value_X6_error : GoodIn wsX6_value (wsV RX6 41 RX6 yX6_error wsX6_error) := goodIn_app (goodIn_r _ [7, 8, 9, 5] rfl (by decide +kernel)) ggX6_value_X6_error
set_option maxRecDepth 20000 in
theorem ggX6_value_X1_worthOf : GoodIn wsX6_value wsX1_worthOf := goodIn_r _ [17, 18, 19, 20, 21, 22, 23, 24, 25, 33, 34, 35, 36, 37, 38, 39, 40, 41, 42, 43, 44, 45, 46, 47, 48, 49, 50, 51] rfl (by decide +kernel)
set_option maxRecDepth 20000 in
theorem gX6_value_X1_worthOf : GoodIn wsX6_value (wsV RX6 237 RX1 yX1_worthOf wsX1_worthOf) := goodIn_app (goodIn_r _ [13, 14, 15, 16] rfl (by decide +kernel)) ggX6_value_X1_worthOf
theorem dX6_value_0 : decode cX6_value 0 = .ok (.aload_n 0, 1) := by decide +kernel
theorem dX6_value_1 : decode cX6_value 1 = .ok (.iload_n 1, 1) := by decide +kernel
theorem dX6_value_2 : decode cX6_value 2 = .ok (.invokevirtual 80, 3) := by decide +kernel
theorem dX6_value_5 : decode cX6_value 5 = .ok (.ifCond .ne 9, 3) := by decide +kernel
theorem dX6_value_8 : decode cX6_value 8 = .ok (.aload_n 0, 1) := by decide +kernel
theorem dX6_value_9 : decode cX6_value 9 = .ok (.iconst 1, 1) := by decide +kernel
theorem dX6_value_10 : decode cX6_value 10 = .ok (.invokevirtual 41, 3) := by decide +kernel
theorem dX6_value_13 : decode cX6_value 13 = .ok (.ireturn, 1) := by decide +kernel
theorem dX6_value_14 : decode cX6_value 14 = .ok (.aload_n 0, 1) := by decide +kernel
theorem dX6_value_15 : decode cX6_value 15 = .ok (.getfield 10, 3) := by decide +kernel
theorem dX6_value_18 : decode cX6_value 18 = .ok (.iload_n 1, 1) := by decide +kernel
theorem dX6_value_19 : decode cX6_value 19 = .ok (.invokevirtual 237, 3) := by decide +kernel
theorem dX6_value_22 : decode cX6_value 22 = .ok (.ireturn, 1) := by decide +kernel
set_option maxRecDepth 20000 in
theorem ggX6_best_X1_worthiest : GoodIn wsX6_best wsX1_worthiest := goodIn_r _ [6, 7, 8, 9, 10, 5, 11, 12, 13, 14, 15, 16, 17, 18, 26, 27, 28, 29, 30, 31, 32, 33, 34, 35, 36, 37, 38, 39, 40, 41, 42, 43, 44] rfl (by decide +kernel)
set_option maxRecDepth 20000 in
theorem gX6_best_X1_worthiest : GoodIn wsX6_best (wsV RX6 240 RX1 yX1_worthiest wsX1_worthiest) := goodIn_app (goodIn_r _ [2, 3, 4, 5] rfl (by decide +kernel)) ggX6_best_X1_worthiest
theorem dX6_best_0 : decode cX6_best 0 = .ok (.aload_n 0, 1) := by decide +kernel
theorem dX6_best_1 : decode cX6_best 1 = .ok (.getfield 10, 3) := by decide +kernel
theorem dX6_best_4 : decode cX6_best 4 = .ok (.invokevirtual 240, 3) := by decide +kernel
theorem dX6_best_7 : decode cX6_best 7 = .ok (.ireturn, 1) := by decide +kernel
set_option maxRecDepth 20000 in
theorem ggX6_got_X6_areMinutes : GoodIn wsX6_got wsX6_areMinutes := goodIn_r _ [6, 1, 43, 44, 45, 46, 47, 48, 49, 50, 51, 52, 53, 54, 55, 56, 57, 58] rfl (by decide +kernel)
set_option maxRecDepth 20000 in
theorem gX6_got_X6_areMinutes : GoodIn wsX6_got (wsV RX6 208 RX6 yX6_areMinutes wsX6_areMinutes) := goodIn_app (goodIn_r _ [2, 3, 4, 5] rfl (by decide +kernel)) ggX6_got_X6_areMinutes
set_option maxRecDepth 20000 in
theorem ggX6_got_X6_error : GoodIn wsX6_got wsX6_error := goodIn_r _ [10, 11, 12, 43, 44, 45, 46, 47, 48, 49] rfl (by decide +kernel)
set_option maxRecDepth 20000 in
theorem gX6_got_X6_error : GoodIn wsX6_got (wsV RX6 41 RX6 yX6_error wsX6_error) := goodIn_app (goodIn_r _ [7, 8, 9, 5] rfl (by decide +kernel)) ggX6_got_X6_error
set_option maxRecDepth 20000 in
theorem ggX6_got_X1_worthRead : GoodIn wsX6_got wsX1_worthRead := goodIn_r _ [17, 18, 19, 20, 21, 16, 22, 23, 24, 25, 26, 27, 28, 29, 30, 31, 32, 33, 34, 35, 36, 37, 38, 39, 40, 41, 42, 50, 51, 52, 53, 54, 55, 56, 57, 58, 59, 60, 61, 62, 63, 64, 65, 66, 67, 68] rfl (by decide +kernel)
set_option maxRecDepth 20000 in
theorem gX6_got_X1_worthRead : GoodIn wsX6_got (wsV RX6 243 RX1 yX1_worthRead wsX1_worthRead) := goodIn_app (goodIn_r _ [13, 14, 15, 16] rfl (by decide +kernel)) ggX6_got_X1_worthRead
theorem dX6_got_0 : decode cX6_got 0 = .ok (.aload_n 0, 1) := by decide +kernel
theorem dX6_got_1 : decode cX6_got 1 = .ok (.iload_n 1, 1) := by decide +kernel
theorem dX6_got_2 : decode cX6_got 2 = .ok (.iload_n 2, 1) := by decide +kernel
theorem dX6_got_3 : decode cX6_got 3 = .ok (.invokevirtual 208, 3) := by decide +kernel
theorem dX6_got_6 : decode cX6_got 6 = .ok (.ifCond .ne 9, 3) := by decide +kernel
theorem dX6_got_9 : decode cX6_got 9 = .ok (.aload_n 0, 1) := by decide +kernel
theorem dX6_got_10 : decode cX6_got 10 = .ok (.iconst 1, 1) := by decide +kernel
theorem dX6_got_11 : decode cX6_got 11 = .ok (.invokevirtual 41, 3) := by decide +kernel
theorem dX6_got_14 : decode cX6_got 14 = .ok (.ireturn, 1) := by decide +kernel
theorem dX6_got_15 : decode cX6_got 15 = .ok (.aload_n 0, 1) := by decide +kernel
theorem dX6_got_16 : decode cX6_got 16 = .ok (.getfield 10, 3) := by decide +kernel
theorem dX6_got_19 : decode cX6_got 19 = .ok (.iload_n 1, 1) := by decide +kernel
theorem dX6_got_20 : decode cX6_got 20 = .ok (.iload_n 2, 1) := by decide +kernel
theorem dX6_got_21 : decode cX6_got 21 = .ok (.invokevirtual 243, 3) := by decide +kernel
theorem dX6_got_24 : decode cX6_got 24 = .ok (.ireturn, 1) := by decide +kernel
set_option maxRecDepth 20000 in
theorem ggX6_voice_X6_isAct : GoodIn wsX6_voice wsX6_isAct := goodIn_r _ [7, 2, 42, 43, 44, 45, 46, 47, 48, 49, 50, 51, 52, 53, 54, 55, 56, 57, 64, 65, 66, 67, 68, 69, 70, 71, 72, 73] rfl (by decide +kernel)
set_option maxRecDepth 20000 in
theorem gX6_voice_X6_isAct : GoodIn wsX6_voice (wsV RX6 96 RX6 yX6_isAct wsX6_isAct) := goodIn_app (goodIn_r _ [3, 4, 5, 6] rfl (by decide +kernel)) ggX6_voice_X6_isAct
set_option maxRecDepth 20000 in
theorem ggX6_voice_X6_error : GoodIn wsX6_voice wsX6_error := goodIn_r _ [11, 12, 13, 42, 43, 44, 45, 46, 47, 48] rfl (by decide +kernel)
set_option maxRecDepth 20000 in
theorem gX6_voice_X6_error : GoodIn wsX6_voice (wsV RX6 41 RX6 yX6_error wsX6_error) := goodIn_app (goodIn_r _ [8, 9, 10, 6] rfl (by decide +kernel)) ggX6_voice_X6_error
set_option maxRecDepth 20000 in
theorem ggX6_voice_X5_heard : GoodIn wsX6_voice wsX5_heard := goodIn_r _ [18, 19, 20, 21, 22, 23, 24, 25, 26, 17, 27, 28, 29, 30, 31, 32, 33, 34, 35, 36, 37, 38, 39, 40, 41, 64, 65, 66, 67, 68, 69, 70, 71, 72, 73, 58, 59, 60, 61, 62, 63] rfl (by decide +kernel)
set_option maxRecDepth 20000 in
theorem gX6_voice_X5_heard : GoodIn wsX6_voice (wsV RX6 246 RX5 yX5_heard wsX5_heard) := goodIn_app (goodIn_r _ [14, 15, 16, 17] rfl (by decide +kernel)) ggX6_voice_X5_heard
theorem dX6_voice_0 : decode cX6_voice 0 = .ok (.aload_n 0, 1) := by decide +kernel
theorem dX6_voice_1 : decode cX6_voice 1 = .ok (.iload_n 1, 1) := by decide +kernel
theorem dX6_voice_2 : decode cX6_voice 2 = .ok (.invokevirtual 96, 3) := by decide +kernel
theorem dX6_voice_5 : decode cX6_voice 5 = .ok (.ifCond .eq 12, 3) := by decide +kernel
theorem dX6_voice_8 : decode cX6_voice 8 = .ok (.iload_n 2, 1) := by decide +kernel
theorem dX6_voice_9 : decode cX6_voice 9 = .ok (.ifCond .lt 8, 3) := by decide +kernel
theorem dX6_voice_12 : decode cX6_voice 12 = .ok (.iload_n 2, 1) := by decide +kernel
theorem dX6_voice_13 : decode cX6_voice 13 = .ok (.iconst 4, 1) := by decide +kernel
theorem dX6_voice_14 : decode cX6_voice 14 = .ok (.if_icmp .lt 9, 3) := by decide +kernel
theorem dX6_voice_17 : decode cX6_voice 17 = .ok (.aload_n 0, 1) := by decide +kernel
theorem dX6_voice_18 : decode cX6_voice 18 = .ok (.iconst 1, 1) := by decide +kernel
theorem dX6_voice_19 : decode cX6_voice 19 = .ok (.invokevirtual 41, 3) := by decide +kernel
theorem dX6_voice_22 : decode cX6_voice 22 = .ok (.ireturn, 1) := by decide +kernel
theorem dX6_voice_23 : decode cX6_voice 23 = .ok (.aload_n 0, 1) := by decide +kernel
theorem dX6_voice_24 : decode cX6_voice 24 = .ok (.getfield 26, 3) := by decide +kernel
theorem dX6_voice_27 : decode cX6_voice 27 = .ok (.aload_n 0, 1) := by decide +kernel
theorem dX6_voice_28 : decode cX6_voice 28 = .ok (.getfield 10, 3) := by decide +kernel
theorem dX6_voice_31 : decode cX6_voice 31 = .ok (.getfield 63, 3) := by decide +kernel
theorem dX6_voice_34 : decode cX6_voice 34 = .ok (.iload_n 1, 1) := by decide +kernel
theorem dX6_voice_35 : decode cX6_voice 35 = .ok (.iload_n 2, 1) := by decide +kernel
theorem dX6_voice_36 : decode cX6_voice 36 = .ok (.iload_n 3, 1) := by decide +kernel
theorem dX6_voice_37 : decode cX6_voice 37 = .ok (.invokevirtual 246, 3) := by decide +kernel
theorem dX6_voice_40 : decode cX6_voice 40 = .ok (.istore 4, 2) := by decide +kernel
theorem dX6_voice_42 : decode cX6_voice 42 = .ok (.aload_n 0, 1) := by decide +kernel
theorem dX6_voice_43 : decode cX6_voice 43 = .ok (.getfield 26, 3) := by decide +kernel
theorem dX6_voice_46 : decode cX6_voice 46 = .ok (.getfield 250, 3) := by decide +kernel
theorem dX6_voice_49 : decode cX6_voice 49 = .ok (.ifCond .eq 12, 3) := by decide +kernel
theorem dX6_voice_52 : decode cX6_voice 52 = .ok (.aload_n 0, 1) := by decide +kernel
theorem dX6_voice_53 : decode cX6_voice 53 = .ok (.bipush 6, 2) := by decide +kernel
theorem dX6_voice_55 : decode cX6_voice 55 = .ok (.invokevirtual 41, 3) := by decide +kernel
theorem dX6_voice_58 : decode cX6_voice 58 = .ok (.goto 5, 3) := by decide +kernel
theorem dX6_voice_61 : decode cX6_voice 61 = .ok (.iload 4, 2) := by decide +kernel
theorem dX6_voice_63 : decode cX6_voice 63 = .ok (.ireturn, 1) := by decide +kernel
set_option maxRecDepth 20000 in
theorem ggX6_body_X6_error : GoodIn wsX6_body wsX6_error := goodIn_r _ [6, 7, 8, 9, 10, 11, 12, 13, 14, 15] rfl (by decide +kernel)
set_option maxRecDepth 20000 in
theorem gX6_body_X6_error : GoodIn wsX6_body (wsV RX6 41 RX6 yX6_error wsX6_error) := goodIn_app (goodIn_r _ [2, 3, 4, 5] rfl (by decide +kernel)) ggX6_body_X6_error
theorem dX6_body_0 : decode cX6_body 0 = .ok (.iload_n 1, 1) := by decide +kernel
theorem dX6_body_1 : decode cX6_body 1 = .ok (.ifCond .lt 14, 3) := by decide +kernel
theorem dX6_body_4 : decode cX6_body 4 = .ok (.iload_n 1, 1) := by decide +kernel
theorem dX6_body_5 : decode cX6_body 5 = .ok (.aload_n 0, 1) := by decide +kernel
theorem dX6_body_6 : decode cX6_body 6 = .ok (.getfield 26, 3) := by decide +kernel
theorem dX6_body_9 : decode cX6_body 9 = .ok (.getfield 254, 3) := by decide +kernel
theorem dX6_body_12 : decode cX6_body 12 = .ok (.if_icmp .lt 9, 3) := by decide +kernel
theorem dX6_body_15 : decode cX6_body 15 = .ok (.aload_n 0, 1) := by decide +kernel
theorem dX6_body_16 : decode cX6_body 16 = .ok (.iconst 2, 1) := by decide +kernel
theorem dX6_body_17 : decode cX6_body 17 = .ok (.invokevirtual 41, 3) := by decide +kernel
theorem dX6_body_20 : decode cX6_body 20 = .ok (.ireturn, 1) := by decide +kernel
theorem dX6_body_21 : decode cX6_body 21 = .ok (.aload_n 0, 1) := by decide +kernel
theorem dX6_body_22 : decode cX6_body 22 = .ok (.getfield 26, 3) := by decide +kernel
theorem dX6_body_25 : decode cX6_body 25 = .ok (.getfield 257, 3) := by decide +kernel
theorem dX6_body_28 : decode cX6_body 28 = .ok (.iload_n 1, 1) := by decide +kernel
theorem dX6_body_29 : decode cX6_body 29 = .ok (.iaload, 1) := by decide +kernel
theorem dX6_body_30 : decode cX6_body 30 = .ok (.ireturn, 1) := by decide +kernel
set_option maxRecDepth 20000 in
theorem ggX6_sheet_X6_isSheet : GoodIn wsX6_sheet wsX6_isSheet := goodIn_r _ [5] rfl (by decide +kernel)
set_option maxRecDepth 20000 in
theorem gX6_sheet_X6_isSheet : GoodIn wsX6_sheet (va_wsS RX6 260 yX6_isSheet wsX6_isSheet) := goodIn_app (goodIn_r _ [2, 3, 4] rfl (by decide +kernel)) ggX6_sheet_X6_isSheet
set_option maxRecDepth 20000 in
theorem ggX6_sheet_X6_error : GoodIn wsX6_sheet wsX6_error := goodIn_r _ [9, 10, 11, 20, 21, 22, 23, 24, 25, 26] rfl (by decide +kernel)
set_option maxRecDepth 20000 in
theorem gX6_sheet_X6_error : GoodIn wsX6_sheet (wsV RX6 41 RX6 yX6_error wsX6_error) := goodIn_app (goodIn_r _ [6, 7, 8, 4] rfl (by decide +kernel)) ggX6_sheet_X6_error
set_option maxRecDepth 20000 in
theorem ggX6_sheet_X3_lays : GoodIn wsX6_sheet wsX3_lays := goodIn_r _ [16, 17, 18, 19, 27, 28, 29] rfl (by decide +kernel)
set_option maxRecDepth 20000 in
theorem gX6_sheet_X3_lays : GoodIn wsX6_sheet (wsV RX6 263 RX3 yX3_lays wsX3_lays) := goodIn_app (goodIn_r _ [12, 13, 14, 15] rfl (by decide +kernel)) ggX6_sheet_X3_lays
theorem dX6_sheet_0 : decode cX6_sheet 0 = .ok (.iload_n 1, 1) := by decide +kernel
theorem dX6_sheet_1 : decode cX6_sheet 1 = .ok (.invokestatic 260, 3) := by decide +kernel
theorem dX6_sheet_4 : decode cX6_sheet 4 = .ok (.ifCond .eq 25, 3) := by decide +kernel
theorem dX6_sheet_7 : decode cX6_sheet 7 = .ok (.iload_n 2, 1) := by decide +kernel
theorem dX6_sheet_8 : decode cX6_sheet 8 = .ok (.ifCond .eq 27, 3) := by decide +kernel
theorem dX6_sheet_11 : decode cX6_sheet 11 = .ok (.iload_n 2, 1) := by decide +kernel
theorem dX6_sheet_12 : decode cX6_sheet 12 = .ok (.bipush 8, 2) := by decide +kernel
theorem dX6_sheet_14 : decode cX6_sheet 14 = .ok (.if_icmp .eq 21, 3) := by decide +kernel
theorem dX6_sheet_17 : decode cX6_sheet 17 = .ok (.iload_n 2, 1) := by decide +kernel
theorem dX6_sheet_18 : decode cX6_sheet 18 = .ok (.bipush 16, 2) := by decide +kernel
theorem dX6_sheet_20 : decode cX6_sheet 20 = .ok (.if_icmp .eq 15, 3) := by decide +kernel
theorem dX6_sheet_23 : decode cX6_sheet 23 = .ok (.iload_n 2, 1) := by decide +kernel
theorem dX6_sheet_24 : decode cX6_sheet 24 = .ok (.bipush 32, 2) := by decide +kernel
theorem dX6_sheet_26 : decode cX6_sheet 26 = .ok (.if_icmp .eq 9, 3) := by decide +kernel
theorem dX6_sheet_29 : decode cX6_sheet 29 = .ok (.aload_n 0, 1) := by decide +kernel
theorem dX6_sheet_30 : decode cX6_sheet 30 = .ok (.iconst 1, 1) := by decide +kernel
theorem dX6_sheet_31 : decode cX6_sheet 31 = .ok (.invokevirtual 41, 3) := by decide +kernel
theorem dX6_sheet_34 : decode cX6_sheet 34 = .ok (.ireturn, 1) := by decide +kernel
theorem dX6_sheet_35 : decode cX6_sheet 35 = .ok (.iload_n 2, 1) := by decide +kernel
theorem dX6_sheet_36 : decode cX6_sheet 36 = .ok (.ifCond .eq 13, 3) := by decide +kernel
theorem dX6_sheet_39 : decode cX6_sheet 39 = .ok (.iload_n 3, 1) := by decide +kernel
theorem dX6_sheet_40 : decode cX6_sheet 40 = .ok (.ifCond .ge 9, 3) := by decide +kernel
theorem dX6_sheet_43 : decode cX6_sheet 43 = .ok (.aload_n 0, 1) := by decide +kernel
theorem dX6_sheet_44 : decode cX6_sheet 44 = .ok (.iconst 3, 1) := by decide +kernel
theorem dX6_sheet_45 : decode cX6_sheet 45 = .ok (.invokevirtual 41, 3) := by decide +kernel
theorem dX6_sheet_48 : decode cX6_sheet 48 = .ok (.ireturn, 1) := by decide +kernel
theorem dX6_sheet_49 : decode cX6_sheet 49 = .ok (.iload_n 2, 1) := by decide +kernel
theorem dX6_sheet_50 : decode cX6_sheet 50 = .ok (.ifCond .eq 15, 3) := by decide +kernel
theorem dX6_sheet_53 : decode cX6_sheet 53 = .ok (.iload_n 3, 1) := by decide +kernel
theorem dX6_sheet_54 : decode cX6_sheet 54 = .ok (.bipush 24, 2) := by decide +kernel
theorem dX6_sheet_56 : decode cX6_sheet 56 = .ok (.if_icmp .le 9, 3) := by decide +kernel
theorem dX6_sheet_59 : decode cX6_sheet 59 = .ok (.aload_n 0, 1) := by decide +kernel
theorem dX6_sheet_60 : decode cX6_sheet 60 = .ok (.iconst 1, 1) := by decide +kernel
theorem dX6_sheet_61 : decode cX6_sheet 61 = .ok (.invokevirtual 41, 3) := by decide +kernel
theorem dX6_sheet_64 : decode cX6_sheet 64 = .ok (.ireturn, 1) := by decide +kernel
theorem dX6_sheet_65 : decode cX6_sheet 65 = .ok (.aload_n 0, 1) := by decide +kernel
theorem dX6_sheet_66 : decode cX6_sheet 66 = .ok (.getfield 33, 3) := by decide +kernel
theorem dX6_sheet_69 : decode cX6_sheet 69 = .ok (.iload_n 1, 1) := by decide +kernel
theorem dX6_sheet_70 : decode cX6_sheet 70 = .ok (.iload_n 2, 1) := by decide +kernel
theorem dX6_sheet_71 : decode cX6_sheet 71 = .ok (.iload_n 3, 1) := by decide +kernel
theorem dX6_sheet_72 : decode cX6_sheet 72 = .ok (.invokevirtual 263, 3) := by decide +kernel
theorem dX6_sheet_75 : decode cX6_sheet 75 = .ok (.iconst 1, 1) := by decide +kernel
theorem dX6_sheet_76 : decode cX6_sheet 76 = .ok (.ireturn, 1) := by decide +kernel
set_option maxRecDepth 20000 in
theorem ggX6_put_X6_isSheet : GoodIn wsX6_put wsX6_isSheet := goodIn_r _ [5] rfl (by decide +kernel)
set_option maxRecDepth 20000 in
theorem gX6_put_X6_isSheet : GoodIn wsX6_put (va_wsS RX6 260 yX6_isSheet wsX6_isSheet) := goodIn_app (goodIn_r _ [2, 3, 4] rfl (by decide +kernel)) ggX6_put_X6_isSheet
set_option maxRecDepth 20000 in
theorem ggX6_put_X6_error : GoodIn wsX6_put wsX6_error := goodIn_r _ [9, 10, 11, 19, 20, 21, 22, 23, 24, 25] rfl (by decide +kernel)
set_option maxRecDepth 20000 in
theorem gX6_put_X6_error : GoodIn wsX6_put (wsV RX6 41 RX6 yX6_error wsX6_error) := goodIn_app (goodIn_r _ [6, 7, 8, 4] rfl (by decide +kernel)) ggX6_put_X6_error
set_option maxRecDepth 20000 in
theorem ggX6_put_X3_sets : GoodIn wsX6_put wsX3_sets := goodIn_r _ [16, 17, 18, 26, 27, 28] rfl (by decide +kernel)
set_option maxRecDepth 20000 in
theorem gX6_put_X3_sets : GoodIn wsX6_put (wsV RX6 271 RX3 yX3_sets wsX3_sets) := goodIn_app (goodIn_r _ [12, 13, 14, 15] rfl (by decide +kernel)) ggX6_put_X3_sets
