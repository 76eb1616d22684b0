theorem dX7_undoes_73 : decode cX7_undoes 73 = .ok (.aload_n 0, 1) := by decide +kernel
theorem dX7_undoes_74 : decode cX7_undoes 74 = .ok (.iconst 2, 1) := by decide +kernel
theorem dX7_undoes_75 : decode cX7_undoes 75 = .ok (.invokestatic 258, 3) := by decide +kernel
theorem dX7_undoes_78 : decode cX7_undoes 78 = .ok (.iload_n 2, 1) := by decide +kernel
theorem dX7_undoes_79 : decode cX7_undoes 79 = .ok (.invokevirtual 267, 3) := by decide +kernel
theorem dX7_undoes_82 : decode cX7_undoes 82 = .ok (.isub, 1) := by decide +kernel
theorem dX7_undoes_83 : decode cX7_undoes 83 = .ok (.ireturn, 1) := by decide +kernel
theorem dX7_undoes_84 : decode cX7_undoes 84 = .ok (.aload_n 0, 1) := by decide +kernel
theorem dX7_undoes_85 : decode cX7_undoes 85 = .ok (.bipush 40, 2) := by decide +kernel
theorem dX7_undoes_87 : decode cX7_undoes 87 = .ok (.invokevirtual 252, 3) := by decide +kernel
theorem dX7_undoes_90 : decode cX7_undoes 90 = .ok (.aload_n 0, 1) := by decide +kernel
theorem dX7_undoes_91 : decode cX7_undoes 91 = .ok (.iconst 3, 1) := by decide +kernel
theorem dX7_undoes_92 : decode cX7_undoes 92 = .ok (.invokestatic 258, 3) := by decide +kernel
theorem dX7_undoes_95 : decode cX7_undoes 95 = .ok (.iload_n 2, 1) := by decide +kernel
theorem dX7_undoes_96 : decode cX7_undoes 96 = .ok (.iconst 2, 1) := by decide +kernel
theorem dX7_undoes_97 : decode cX7_undoes 97 = .ok (.idiv, 1) := by decide +kernel
theorem dX7_undoes_98 : decode cX7_undoes 98 = .ok (.invokevirtual 267, 3) := by decide +kernel
theorem dX7_undoes_101 : decode cX7_undoes 101 = .ok (.ireturn, 1) := by decide +kernel
theorem dX7_undoes_102 : decode cX7_undoes 102 = .ok (.aload_n 0, 1) := by decide +kernel
theorem dX7_undoes_103 : decode cX7_undoes 103 = .ok (.bipush 80, 2) := by decide +kernel
theorem dX7_undoes_105 : decode cX7_undoes 105 = .ok (.invokevirtual 252, 3) := by decide +kernel
theorem dX7_undoes_108 : decode cX7_undoes 108 = .ok (.aload_n 0, 1) := by decide +kernel
theorem dX7_undoes_109 : decode cX7_undoes 109 = .ok (.bipush 7, 2) := by decide +kernel
theorem dX7_undoes_111 : decode cX7_undoes 111 = .ok (.invokestatic 258, 3) := by decide +kernel
theorem dX7_undoes_114 : decode cX7_undoes 114 = .ok (.iload_n 2, 1) := by decide +kernel
theorem dX7_undoes_115 : decode cX7_undoes 115 = .ok (.invokevirtual 267, 3) := by decide +kernel
theorem dX7_undoes_118 : decode cX7_undoes 118 = .ok (.aload_n 0, 1) := by decide +kernel
theorem dX7_undoes_119 : decode cX7_undoes 119 = .ok (.getfield 249, 3) := by decide +kernel
theorem dX7_undoes_122 : decode cX7_undoes 122 = .ok (.iadd, 1) := by decide +kernel
theorem dX7_undoes_123 : decode cX7_undoes 123 = .ok (.ireturn, 1) := by decide +kernel
theorem dX7_undoes_124 : decode cX7_undoes 124 = .ok (.aload_n 0, 1) := by decide +kernel
theorem dX7_undoes_125 : decode cX7_undoes 125 = .ok (.iload_n 1, 1) := by decide +kernel
theorem dX7_undoes_126 : decode cX7_undoes 126 = .ok (.invokestatic 258, 3) := by decide +kernel
theorem dX7_undoes_129 : decode cX7_undoes 129 = .ok (.iload_n 2, 1) := by decide +kernel
theorem dX7_undoes_130 : decode cX7_undoes 130 = .ok (.invokevirtual 267, 3) := by decide +kernel
theorem dX7_undoes_133 : decode cX7_undoes 133 = .ok (.ireturn, 1) := by decide +kernel
set_option maxRecDepth 20000 in
theorem ggX7_lasts_X7_begins : GoodIn wsX7_lasts wsX7_begins := goodIn_r _ [6, 7, 8, 36, 37, 38, 39, 40, 41, 42, 43, 44, 45, 46, 47, 48, 49, 50, 51, 52, 53, 54, 55, 56, 57, 58, 59] rfl (by decide +kernel)
set_option maxRecDepth 20000 in
theorem gX7_lasts_X7_begins : GoodIn wsX7_lasts (wsV RX7 252 RX7 yX7_begins wsX7_begins) := goodIn_app (goodIn_r _ [2, 3, 4, 5] rfl (by decide +kernel)) ggX7_lasts_X7_begins
set_option maxRecDepth 20000 in
theorem ggX7_lasts_X7_kindNow : GoodIn wsX7_lasts wsX7_kindNow := goodIn_r _ [12, 1, 13, 14, 15, 5, 16, 17, 36, 37, 38, 39, 40, 41, 42, 43, 44, 45, 46, 47, 48, 49, 50, 51, 52, 53, 54, 55, 56, 57, 58, 59] rfl (by decide +kernel)
set_option maxRecDepth 20000 in
theorem gX7_lasts_X7_kindNow : GoodIn wsX7_lasts (wsV RX7 264 RX7 yX7_kindNow wsX7_kindNow) := goodIn_app (goodIn_r _ [9, 10, 11, 5] rfl (by decide +kernel)) ggX7_lasts_X7_kindNow
set_option maxRecDepth 20000 in
theorem ggX7_lasts_X7_undoes : GoodIn wsX7_lasts wsX7_undoes := goodIn_r _ [21, 1, 2, 3, 4, 5, 6, 7, 8, 9, 10, 11, 12, 13, 14, 15, 16, 17, 22, 23, 24, 25, 26, 27, 28, 29, 30, 31, 32, 18, 19, 20, 36, 37, 38, 39, 40, 41, 42, 43, 44, 45, 46, 47, 48, 49, 50, 51, 52, 53, 54, 55, 56, 57, 58, 59] rfl (by decide +kernel)
set_option maxRecDepth 20000 in
theorem gX7_lasts_X7_undoes : GoodIn wsX7_lasts (wsV RX7 267 RX7 yX7_undoes wsX7_undoes) := goodIn_app (goodIn_r _ [18, 19, 20, 5] rfl (by decide +kernel)) ggX7_lasts_X7_undoes
set_option maxRecDepth 20000 in
theorem ggX7_lasts_X7_above : GoodIn wsX7_lasts wsX7_above := goodIn_r _ [32] rfl (by decide +kernel)
set_option maxRecDepth 20000 in
theorem gX7_lasts_X7_above : GoodIn wsX7_lasts (va_wsS RX7 258 yX7_above wsX7_above) := goodIn_app (goodIn_r _ [30, 31, 5] rfl (by decide +kernel)) ggX7_lasts_X7_above
set_option maxRecDepth 20000 in
theorem ggX7_lasts_X7_lasts : GoodIn wsX7_lasts wsX7_lasts := goodIn_r _ [0, 1, 2, 3, 4, 5, 6, 7, 8, 9, 10, 11, 12, 13, 14, 15, 16, 17, 18, 19, 20, 21, 22, 23, 24, 25, 26, 27, 28, 29, 30, 31, 32, 33, 34, 35, 36, 37, 38, 39, 40, 41, 42, 43, 44, 45, 46, 47, 48, 49, 50, 51, 52, 53, 54, 55, 56, 57, 58, 59] rfl (by decide +kernel)
set_option maxRecDepth 20000 in
theorem gX7_lasts_X7_lasts : GoodIn wsX7_lasts (wsV RX7 270 RX7 yX7_lasts wsX7_lasts) := goodIn_app (goodIn_r _ [33, 34, 35, 5] rfl (by decide +kernel)) ggX7_lasts_X7_lasts
set_option maxRecDepth 20000 in
theorem ggX7_lasts_X7_writerNow : GoodIn wsX7_lasts wsX7_writerNow := goodIn_r _ [29, 1, 13, 14, 15, 5, 16, 17, 36, 37, 38, 39, 40, 41, 42, 43, 44, 45, 46, 47, 48, 49, 50, 51, 52, 53, 54, 55, 56, 57, 58, 59] rfl (by decide +kernel)
set_option maxRecDepth 20000 in
theorem gX7_lasts_X7_writerNow : GoodIn wsX7_lasts (wsV RX7 255 RX7 yX7_writerNow wsX7_writerNow) := goodIn_app (goodIn_r _ [26, 27, 28, 5] rfl (by decide +kernel)) ggX7_lasts_X7_writerNow
theorem dX7_lasts_0 : decode cX7_lasts 0 = .ok (.iconst 0, 1) := by decide +kernel
theorem dX7_lasts_1 : decode cX7_lasts 1 = .ok (.istore_n 3, 1) := by decide +kernel
theorem dX7_lasts_2 : decode cX7_lasts 2 = .ok (.iload_n 1, 1) := by decide +kernel
theorem dX7_lasts_3 : decode cX7_lasts 3 = .ok (.tableswitch 125 0 5 #[37, 58, 125, 79, 125, 107], 37) := by decide +kernel
theorem dX7_lasts_40 : decode cX7_lasts 40 = .ok (.aload_n 0, 1) := by decide +kernel
theorem dX7_lasts_41 : decode cX7_lasts 41 = .ok (.bipush 12, 2) := by decide +kernel
theorem dX7_lasts_43 : decode cX7_lasts 43 = .ok (.invokevirtual 252, 3) := by decide +kernel
theorem dX7_lasts_46 : decode cX7_lasts 46 = .ok (.aload_n 0, 1) := by decide +kernel
theorem dX7_lasts_47 : decode cX7_lasts 47 = .ok (.aload_n 0, 1) := by decide +kernel
theorem dX7_lasts_48 : decode cX7_lasts 48 = .ok (.invokevirtual 264, 3) := by decide +kernel
theorem dX7_lasts_51 : decode cX7_lasts 51 = .ok (.iload_n 2, 1) := by decide +kernel
theorem dX7_lasts_52 : decode cX7_lasts 52 = .ok (.invokevirtual 267, 3) := by decide +kernel
theorem dX7_lasts_55 : decode cX7_lasts 55 = .ok (.aload_n 0, 1) := by decide +kernel
theorem dX7_lasts_56 : decode cX7_lasts 56 = .ok (.getfield 249, 3) := by decide +kernel
theorem dX7_lasts_59 : decode cX7_lasts 59 = .ok (.isub, 1) := by decide +kernel
theorem dX7_lasts_60 : decode cX7_lasts 60 = .ok (.ireturn, 1) := by decide +kernel
theorem dX7_lasts_61 : decode cX7_lasts 61 = .ok (.aload_n 0, 1) := by decide +kernel
theorem dX7_lasts_62 : decode cX7_lasts 62 = .ok (.bipush 21, 2) := by decide +kernel
theorem dX7_lasts_64 : decode cX7_lasts 64 = .ok (.invokevirtual 252, 3) := by decide +kernel
theorem dX7_lasts_67 : decode cX7_lasts 67 = .ok (.aload_n 0, 1) := by decide +kernel
theorem dX7_lasts_68 : decode cX7_lasts 68 = .ok (.iconst 1, 1) := by decide +kernel
theorem dX7_lasts_69 : decode cX7_lasts 69 = .ok (.invokestatic 258, 3) := by decide +kernel
theorem dX7_lasts_72 : decode cX7_lasts 72 = .ok (.iload_n 2, 1) := by decide +kernel
theorem dX7_lasts_73 : decode cX7_lasts 73 = .ok (.invokevirtual 270, 3) := by decide +kernel
theorem dX7_lasts_76 : decode cX7_lasts 76 = .ok (.aload_n 0, 1) := by decide +kernel
theorem dX7_lasts_77 : decode cX7_lasts 77 = .ok (.invokevirtual 255, 3) := by decide +kernel
theorem dX7_lasts_80 : decode cX7_lasts 80 = .ok (.ixor, 1) := by decide +kernel
theorem dX7_lasts_81 : decode cX7_lasts 81 = .ok (.ireturn, 1) := by decide +kernel
theorem dX7_lasts_82 : decode cX7_lasts 82 = .ok (.aload_n 0, 1) := by decide +kernel
theorem dX7_lasts_83 : decode cX7_lasts 83 = .ok (.bipush 41, 2) := by decide +kernel
theorem dX7_lasts_85 : decode cX7_lasts 85 = .ok (.invokevirtual 252, 3) := by decide +kernel
theorem dX7_lasts_88 : decode cX7_lasts 88 = .ok (.aload_n 0, 1) := by decide +kernel
theorem dX7_lasts_89 : decode cX7_lasts 89 = .ok (.iconst 3, 1) := by decide +kernel
theorem dX7_lasts_90 : decode cX7_lasts 90 = .ok (.invokestatic 258, 3) := by decide +kernel
theorem dX7_lasts_93 : decode cX7_lasts 93 = .ok (.iload_n 2, 1) := by decide +kernel
theorem dX7_lasts_94 : decode cX7_lasts 94 = .ok (.invokevirtual 270, 3) := by decide +kernel
theorem dX7_lasts_97 : decode cX7_lasts 97 = .ok (.istore_n 3, 1) := by decide +kernel
theorem dX7_lasts_98 : decode cX7_lasts 98 = .ok (.iload_n 3, 1) := by decide +kernel
theorem dX7_lasts_99 : decode cX7_lasts 99 = .ok (.aload_n 0, 1) := by decide +kernel
theorem dX7_lasts_100 : decode cX7_lasts 100 = .ok (.aload_n 0, 1) := by decide +kernel
theorem dX7_lasts_101 : decode cX7_lasts 101 = .ok (.invokevirtual 264, 3) := by decide +kernel
theorem dX7_lasts_104 : decode cX7_lasts 104 = .ok (.iconst 2, 1) := by decide +kernel
theorem dX7_lasts_105 : decode cX7_lasts 105 = .ok (.invokevirtual 267, 3) := by decide +kernel
theorem dX7_lasts_108 : decode cX7_lasts 108 = .ok (.isub, 1) := by decide +kernel
theorem dX7_lasts_109 : decode cX7_lasts 109 = .ok (.ireturn, 1) := by decide +kernel
theorem dX7_lasts_110 : decode cX7_lasts 110 = .ok (.aload_n 0, 1) := by decide +kernel
theorem dX7_lasts_111 : decode cX7_lasts 111 = .ok (.bipush 60, 2) := by decide +kernel
theorem dX7_lasts_113 : decode cX7_lasts 113 = .ok (.invokevirtual 252, 3) := by decide +kernel
theorem dX7_lasts_116 : decode cX7_lasts 116 = .ok (.aload_n 0, 1) := by decide +kernel
theorem dX7_lasts_117 : decode cX7_lasts 117 = .ok (.iconst 5, 1) := by decide +kernel
theorem dX7_lasts_118 : decode cX7_lasts 118 = .ok (.invokestatic 258, 3) := by decide +kernel
theorem dX7_lasts_121 : decode cX7_lasts 121 = .ok (.iload_n 2, 1) := by decide +kernel
theorem dX7_lasts_122 : decode cX7_lasts 122 = .ok (.iconst 1, 1) := by decide +kernel
theorem dX7_lasts_123 : decode cX7_lasts 123 = .ok (.iadd, 1) := by decide +kernel
theorem dX7_lasts_124 : decode cX7_lasts 124 = .ok (.invokevirtual 270, 3) := by decide +kernel
theorem dX7_lasts_127 : decode cX7_lasts 127 = .ok (.ireturn, 1) := by decide +kernel
theorem dX7_lasts_128 : decode cX7_lasts 128 = .ok (.aload_n 0, 1) := by decide +kernel
theorem dX7_lasts_129 : decode cX7_lasts 129 = .ok (.iload_n 1, 1) := by decide +kernel
theorem dX7_lasts_130 : decode cX7_lasts 130 = .ok (.invokestatic 258, 3) := by decide +kernel
theorem dX7_lasts_133 : decode cX7_lasts 133 = .ok (.iload_n 2, 1) := by decide +kernel
theorem dX7_lasts_134 : decode cX7_lasts 134 = .ok (.invokevirtual 270, 3) := by decide +kernel
theorem dX7_lasts_137 : decode cX7_lasts 137 = .ok (.ireturn, 1) := by decide +kernel
set_option maxRecDepth 20000 in
theorem ggX7_tells_X7_begins : GoodIn wsX7_tells wsX7_begins := goodIn_r _ [7, 8, 9, 41, 42, 43, 44, 45, 46, 47, 48, 49, 50, 51, 52, 53, 54, 55, 56, 57, 58, 59, 60, 61, 62, 63, 64] rfl (by decide +kernel)
set_option maxRecDepth 20000 in
theorem gX7_tells_X7_begins : GoodIn wsX7_tells (wsV RX7 252 RX7 yX7_begins wsX7_begins) := goodIn_app (goodIn_r _ [3, 4, 5, 6] rfl (by decide +kernel)) ggX7_tells_X7_begins
set_option maxRecDepth 20000 in
theorem ggX7_tells_X7_above : GoodIn wsX7_tells wsX7_above := goodIn_r _ [12] rfl (by decide +kernel)
set_option maxRecDepth 20000 in
theorem gX7_tells_X7_above : GoodIn wsX7_tells (va_wsS RX7 258 yX7_above wsX7_above) := goodIn_app (goodIn_r _ [10, 11, 6] rfl (by decide +kernel)) ggX7_tells_X7_above
set_option maxRecDepth 20000 in
theorem ggX7_tells_X7_tells : GoodIn wsX7_tells wsX7_tells := goodIn_r _ [0, 1, 2, 3, 4, 5, 6, 7, 8, 9, 10, 11, 12, 13, 14, 15, 16, 17, 18, 19, 20, 21, 22, 23, 24, 25, 26, 27, 28, 29, 30, 31, 32, 33, 34, 35, 36, 37, 38, 39, 40, 41, 42, 43, 44, 45, 46, 47, 48, 49, 50, 51, 52, 53, 54, 55, 56, 57, 58, 59, 60, 61, 62, 63, 64] rfl (by decide +kernel)
set_option maxRecDepth 20000 in
theorem gX7_tells_X7_tells : GoodIn wsX7_tells (wsV RX7 277 RX7 yX7_tells wsX7_tells) := goodIn_app (goodIn_r _ [13, 14, 15, 6] rfl (by decide +kernel)) ggX7_tells_X7_tells
set_option maxRecDepth 20000 in
theorem ggX7_tells_X7_kindNow : GoodIn wsX7_tells wsX7_kindNow := goodIn_r _ [19, 1, 20, 21, 22, 6, 23, 24, 41, 42, 43, 44, 45, 46, 47, 48, 49, 50, 51, 52, 53, 54, 55, 56, 57, 58, 59, 60, 61, 62, 63, 64] rfl (by decide +kernel)
set_option maxRecDepth 20000 in
theorem gX7_tells_X7_kindNow : GoodIn wsX7_tells (wsV RX7 264 RX7 yX7_kindNow wsX7_kindNow) := goodIn_app (goodIn_r _ [16, 17, 18, 6] rfl (by decide +kernel)) ggX7_tells_X7_kindNow
set_option maxRecDepth 20000 in
theorem ggX7_tells_X7_does : GoodIn wsX7_tells wsX7_does := goodIn_r _ [28, 3, 4, 5, 6, 7, 8, 9, 29, 30, 31, 32, 1, 20, 21, 22, 23, 24, 10, 11, 12, 25, 26, 27, 41, 42, 43, 44, 45, 46, 47, 48, 49, 50, 51, 52, 53, 54, 55, 56, 57, 58, 59, 60, 61, 62, 63, 64] rfl (by decide +kernel)
set_option maxRecDepth 20000 in
theorem gX7_tells_X7_does : GoodIn wsX7_tells (wsV RX7 261 RX7 yX7_does wsX7_does) := goodIn_app (goodIn_r _ [25, 26, 27, 6] rfl (by decide +kernel)) ggX7_tells_X7_does
set_option maxRecDepth 20000 in
theorem ggX7_tells_X7_lasts : GoodIn wsX7_tells wsX7_lasts := goodIn_r _ [36, 1, 3, 4, 5, 6, 7, 8, 9, 16, 17, 18, 19, 20, 21, 22, 23, 24, 37, 38, 39, 40, 25, 26, 27, 28, 29, 30, 31, 32, 10, 11, 12, 33, 34, 35, 41, 42, 43, 44, 45, 46, 47, 48, 49, 50, 51, 52, 53, 54, 55, 56, 57, 58, 59, 60, 61, 62, 63, 64] rfl (by decide +kernel)
set_option maxRecDepth 20000 in
theorem gX7_tells_X7_lasts : GoodIn wsX7_tells (wsV RX7 270 RX7 yX7_lasts wsX7_lasts) := goodIn_app (goodIn_r _ [33, 34, 35, 6] rfl (by decide +kernel)) ggX7_tells_X7_lasts
theorem dX7_tells_0 : decode cX7_tells 0 = .ok (.iconst 0, 1) := by decide +kernel
theorem dX7_tells_1 : decode cX7_tells 1 = .ok (.istore_n 3, 1) := by decide +kernel
theorem dX7_tells_2 : decode cX7_tells 2 = .ok (.iload_n 1, 1) := by decide +kernel
theorem dX7_tells_3 : decode cX7_tells 3 = .ok (.tableswitch 184 0 7 #[45, 184, 98, 184, 184, 137, 184, 165], 45) := by decide +kernel
theorem dX7_tells_48 : decode cX7_tells 48 = .ok (.aload_n 0, 1) := by decide +kernel
theorem dX7_tells_49 : decode cX7_tells 49 = .ok (.bipush 13, 2) := by decide +kernel
theorem dX7_tells_51 : decode cX7_tells 51 = .ok (.invokevirtual 252, 3) := by decide +kernel
theorem dX7_tells_54 : decode cX7_tells 54 = .ok (.aload_n 0, 1) := by decide +kernel
theorem dX7_tells_55 : decode cX7_tells 55 = .ok (.getfield 249, 3) := by decide +kernel
theorem dX7_tells_58 : decode cX7_tells 58 = .ok (.iconst 2, 1) := by decide +kernel
theorem dX7_tells_59 : decode cX7_tells 59 = .ok (.isub, 1) := by decide +kernel
theorem dX7_tells_60 : decode cX7_tells 60 = .ok (.istore 4, 2) := by decide +kernel
theorem dX7_tells_62 : decode cX7_tells 62 = .ok (.aload_n 0, 1) := by decide +kernel
theorem dX7_tells_63 : decode cX7_tells 63 = .ok (.iload 4, 2) := by decide +kernel
theorem dX7_tells_65 : decode cX7_tells 65 = .ok (.ifCond .ne 7, 3) := by decide +kernel
theorem dX7_tells_68 : decode cX7_tells 68 = .ok (.iconst 1, 1) := by decide +kernel
theorem dX7_tells_69 : decode cX7_tells 69 = .ok (.goto 4, 3) := by decide +kernel
theorem dX7_tells_72 : decode cX7_tells 72 = .ok (.iconst 0, 1) := by decide +kernel
theorem dX7_tells_73 : decode cX7_tells 73 = .ok (.putfield 273, 3) := by decide +kernel
theorem dX7_tells_76 : decode cX7_tells 76 = .ok (.iload 4, 2) := by decide +kernel
theorem dX7_tells_78 : decode cX7_tells 78 = .ok (.ifCond .ne 7, 3) := by decide +kernel
theorem dX7_tells_81 : decode cX7_tells 81 = .ok (.iconst 0, 1) := by decide +kernel
theorem dX7_tells_82 : decode cX7_tells 82 = .ok (.goto 18, 3) := by decide +kernel
theorem dX7_tells_85 : decode cX7_tells 85 = .ok (.iload 4, 2) := by decide +kernel
theorem dX7_tells_87 : decode cX7_tells 87 = .ok (.iconst (-1), 1) := by decide +kernel
theorem dX7_tells_88 : decode cX7_tells 88 = .ok (.if_icmp .ne 8, 3) := by decide +kernel
theorem dX7_tells_91 : decode cX7_tells 91 = .ok (.iload_n 2, 1) := by decide +kernel
theorem dX7_tells_92 : decode cX7_tells 92 = .ok (.ineg, 1) := by decide +kernel
theorem dX7_tells_93 : decode cX7_tells 93 = .ok (.goto 7, 3) := by decide +kernel
theorem dX7_tells_96 : decode cX7_tells 96 = .ok (.iload_n 2, 1) := by decide +kernel
theorem dX7_tells_97 : decode cX7_tells 97 = .ok (.iload 4, 2) := by decide +kernel
theorem dX7_tells_99 : decode cX7_tells 99 = .ok (.idiv, 1) := by decide +kernel
theorem dX7_tells_100 : decode cX7_tells 100 = .ok (.ireturn, 1) := by decide +kernel
theorem dX7_tells_101 : decode cX7_tells 101 = .ok (.aload_n 0, 1) := by decide +kernel
theorem dX7_tells_102 : decode cX7_tells 102 = .ok (.bipush 31, 2) := by decide +kernel
theorem dX7_tells_104 : decode cX7_tells 104 = .ok (.invokevirtual 252, 3) := by decide +kernel
theorem dX7_tells_107 : decode cX7_tells 107 = .ok (.aload_n 0, 1) := by decide +kernel
theorem dX7_tells_108 : decode cX7_tells 108 = .ok (.iconst 2, 1) := by decide +kernel
theorem dX7_tells_109 : decode cX7_tells 109 = .ok (.invokestatic 258, 3) := by decide +kernel
theorem dX7_tells_112 : decode cX7_tells 112 = .ok (.iload_n 2, 1) := by decide +kernel
theorem dX7_tells_113 : decode cX7_tells 113 = .ok (.invokevirtual 277, 3) := by decide +kernel
theorem dX7_tells_116 : decode cX7_tells 116 = .ok (.istore_n 3, 1) := by decide +kernel
theorem dX7_tells_117 : decode cX7_tells 117 = .ok (.aload_n 0, 1) := by decide +kernel
theorem dX7_tells_118 : decode cX7_tells 118 = .ok (.getfield 273, 3) := by decide +kernel
theorem dX7_tells_121 : decode cX7_tells 121 = .ok (.ifCond .eq 7, 3) := by decide +kernel
theorem dX7_tells_124 : decode cX7_tells 124 = .ok (.iconst 0, 1) := by decide +kernel
theorem dX7_tells_125 : decode cX7_tells 125 = .ok (.goto 14, 3) := by decide +kernel
theorem dX7_tells_128 : decode cX7_tells 128 = .ok (.iload_n 3, 1) := by decide +kernel
theorem dX7_tells_129 : decode cX7_tells 129 = .ok (.aload_n 0, 1) := by decide +kernel
theorem dX7_tells_130 : decode cX7_tells 130 = .ok (.aload_n 0, 1) := by decide +kernel
theorem dX7_tells_131 : decode cX7_tells 131 = .ok (.invokevirtual 264, 3) := by decide +kernel
theorem dX7_tells_134 : decode cX7_tells 134 = .ok (.iconst 1, 1) := by decide +kernel
theorem dX7_tells_135 : decode cX7_tells 135 = .ok (.invokevirtual 261, 3) := by decide +kernel
theorem dX7_tells_138 : decode cX7_tells 138 = .ok (.iadd, 1) := by decide +kernel
theorem dX7_tells_139 : decode cX7_tells 139 = .ok (.ireturn, 1) := by decide +kernel
theorem dX7_tells_140 : decode cX7_tells 140 = .ok (.aload_n 0, 1) := by decide +kernel
theorem dX7_tells_141 : decode cX7_tells 141 = .ok (.bipush 61, 2) := by decide +kernel
theorem dX7_tells_143 : decode cX7_tells 143 = .ok (.invokevirtual 252, 3) := by decide +kernel
theorem dX7_tells_146 : decode cX7_tells 146 = .ok (.aload_n 0, 1) := by decide +kernel
theorem dX7_tells_147 : decode cX7_tells 147 = .ok (.aload_n 0, 1) := by decide +kernel
theorem dX7_tells_148 : decode cX7_tells 148 = .ok (.invokevirtual 264, 3) := by decide +kernel
theorem dX7_tells_151 : decode cX7_tells 151 = .ok (.iload_n 2, 1) := by decide +kernel
theorem dX7_tells_152 : decode cX7_tells 152 = .ok (.invokevirtual 270, 3) := by decide +kernel
theorem dX7_tells_155 : decode cX7_tells 155 = .ok (.istore_n 3, 1) := by decide +kernel
theorem dX7_tells_156 : decode cX7_tells 156 = .ok (.iload_n 3, 1) := by decide +kernel
theorem dX7_tells_157 : decode cX7_tells 157 = .ok (.aload_n 0, 1) := by decide +kernel
theorem dX7_tells_158 : decode cX7_tells 158 = .ok (.iconst 5, 1) := by decide +kernel
theorem dX7_tells_159 : decode cX7_tells 159 = .ok (.invokestatic 258, 3) := by decide +kernel
theorem dX7_tells_162 : decode cX7_tells 162 = .ok (.iload_n 2, 1) := by decide +kernel
theorem dX7_tells_163 : decode cX7_tells 163 = .ok (.invokevirtual 277, 3) := by decide +kernel
theorem dX7_tells_166 : decode cX7_tells 166 = .ok (.isub, 1) := by decide +kernel
theorem dX7_tells_167 : decode cX7_tells 167 = .ok (.ireturn, 1) := by decide +kernel
theorem dX7_tells_168 : decode cX7_tells 168 = .ok (.aload_n 0, 1) := by decide +kernel
theorem dX7_tells_169 : decode cX7_tells 169 = .ok (.bipush 81, 2) := by decide +kernel
theorem dX7_tells_171 : decode cX7_tells 171 = .ok (.invokevirtual 252, 3) := by decide +kernel
theorem dX7_tells_174 : decode cX7_tells 174 = .ok (.aload_n 0, 1) := by decide +kernel
theorem dX7_tells_175 : decode cX7_tells 175 = .ok (.bipush 7, 2) := by decide +kernel
theorem dX7_tells_177 : decode cX7_tells 177 = .ok (.invokestatic 258, 3) := by decide +kernel
theorem dX7_tells_180 : decode cX7_tells 180 = .ok (.iload_n 2, 1) := by decide +kernel
theorem dX7_tells_181 : decode cX7_tells 181 = .ok (.invokevirtual 277, 3) := by decide +kernel
theorem dX7_tells_184 : decode cX7_tells 184 = .ok (.iconst 5, 1) := by decide +kernel
theorem dX7_tells_185 : decode cX7_tells 185 = .ok (.ixor, 1) := by decide +kernel
theorem dX7_tells_186 : decode cX7_tells 186 = .ok (.ireturn, 1) := by decide +kernel
theorem dX7_tells_187 : decode cX7_tells 187 = .ok (.aload_n 0, 1) := by decide +kernel
theorem dX7_tells_188 : decode cX7_tells 188 = .ok (.iload_n 1, 1) := by decide +kernel
theorem dX7_tells_189 : decode cX7_tells 189 = .ok (.invokestatic 258, 3) := by decide +kernel
theorem dX7_tells_192 : decode cX7_tells 192 = .ok (.iload_n 2, 1) := by decide +kernel
theorem dX7_tells_193 : decode cX7_tells 193 = .ok (.invokevirtual 277, 3) := by decide +kernel
theorem dX7_tells_196 : decode cX7_tells 196 = .ok (.ireturn, 1) := by decide +kernel
set_option maxRecDepth 20000 in
theorem ggX7_voice_X7_isAct : GoodIn wsX7_voice wsX7_isAct := goodIn_r _ [8, 9, 10, 11, 7, 12, 55, 56, 57, 58, 59, 60, 61, 62, 63, 64, 65, 66, 67, 68, 69, 70, 71, 72, 73, 74, 75, 76, 77, 78] rfl (by decide +kernel)
set_option maxRecDepth 20000 in
theorem gX7_voice_X7_isAct : GoodIn wsX7_voice (wsV RX7 146 RX7 yX7_isAct wsX7_isAct) := goodIn_app (goodIn_r _ [4, 5, 6, 7] rfl (by decide +kernel)) ggX7_voice_X7_isAct
set_option maxRecDepth 20000 in
theorem ggX7_voice_X7_in : GoodIn wsX7_voice wsX7_in := goodIn_r _ [12] rfl (by decide +kernel)
set_option maxRecDepth 20000 in
theorem gX7_voice_X7_in : GoodIn wsX7_voice (va_wsS RX7 56 yX7_in wsX7_in) := goodIn_app (goodIn_r _ [10, 11, 7] rfl (by decide +kernel)) ggX7_voice_X7_in
set_option maxRecDepth 20000 in
theorem ggX7_voice_X7_error : GoodIn wsX7_voice wsX7_error := goodIn_r _ [16, 17, 18, 55, 56, 57, 58, 59, 60, 61, 62, 63, 64, 65, 66, 67, 68, 69, 70, 71, 72, 73, 74, 75, 76, 77, 78] rfl (by decide +kernel)
set_option maxRecDepth 20000 in
theorem gX7_voice_X7_error : GoodIn wsX7_voice (wsV RX7 64 RX7 yX7_error wsX7_error) := goodIn_app (goodIn_r _ [13, 14, 15, 7] rfl (by decide +kernel)) ggX7_voice_X7_error
set_option maxRecDepth 20000 in
theorem ggX7_voice_X7_kindNow : GoodIn wsX7_voice wsX7_kindNow := goodIn_r _ [22, 2, 23, 24, 25, 7, 26, 9, 55, 56, 57, 58, 59, 60, 61, 62, 63, 64, 65, 66, 67, 68, 69, 70, 71, 72, 73, 74, 75, 76, 77, 78] rfl (by decide +kernel)
set_option maxRecDepth 20000 in
theorem gX7_voice_X7_kindNow : GoodIn wsX7_voice (wsV RX7 264 RX7 yX7_kindNow wsX7_kindNow) := goodIn_app (goodIn_r _ [19, 20, 21, 7] rfl (by decide +kernel)) ggX7_voice_X7_kindNow
set_option maxRecDepth 20000 in
theorem ggX7_voice_X7_does : GoodIn wsX7_voice wsX7_does := goodIn_r _ [30, 31, 32, 33, 7, 34, 1, 35, 36, 37, 38, 39, 2, 23, 24, 25, 26, 9, 40, 41, 42, 27, 28, 29, 55, 56, 57, 58, 59, 60, 61, 62, 63, 64, 65, 66, 67, 68, 69, 70, 71, 72, 73, 74, 75, 76, 77, 78] rfl (by decide +kernel)
set_option maxRecDepth 20000 in
theorem gX7_voice_X7_does : GoodIn wsX7_voice (wsV RX7 261 RX7 yX7_does wsX7_does) := goodIn_app (goodIn_r _ [27, 28, 29, 7] rfl (by decide +kernel)) ggX7_voice_X7_does
set_option maxRecDepth 20000 in
theorem ggX7_voice_X7_undoes : GoodIn wsX7_voice wsX7_undoes := goodIn_r _ [46, 2, 31, 32, 33, 7, 34, 1, 35, 19, 20, 21, 22, 23, 24, 25, 26, 9, 27, 28, 29, 30, 36, 37, 38, 39, 40, 41, 42, 43, 44, 45, 55, 56, 57, 58, 59, 60, 61, 62, 63, 64, 65, 66, 67, 68, 69, 70, 71, 72, 73, 74, 75, 76, 77, 78] rfl (by decide +kernel)
set_option maxRecDepth 20000 in
theorem gX7_voice_X7_undoes : GoodIn wsX7_voice (wsV RX7 267 RX7 yX7_undoes wsX7_undoes) := goodIn_app (goodIn_r _ [43, 44, 45, 7] rfl (by decide +kernel)) ggX7_voice_X7_undoes
set_option maxRecDepth 20000 in
theorem ggX7_voice_X7_lasts : GoodIn wsX7_voice wsX7_lasts := goodIn_r _ [50, 2, 31, 32, 33, 7, 34, 1, 35, 19, 20, 21, 22, 23, 24, 25, 26, 9, 43, 44, 45, 46, 27, 28, 29, 30, 36, 37, 38, 39, 40, 41, 42, 47, 48, 49, 55, 56, 57, 58, 59, 60, 61, 62, 63, 64, 65, 66, 67, 68, 69, 70, 71, 72, 73, 74, 75, 76, 77, 78] rfl (by decide +kernel)
set_option maxRecDepth 20000 in
theorem gX7_voice_X7_lasts : GoodIn wsX7_voice (wsV RX7 270 RX7 yX7_lasts wsX7_lasts) := goodIn_app (goodIn_r _ [47, 48, 49, 7] rfl (by decide +kernel)) ggX7_voice_X7_lasts
set_option maxRecDepth 20000 in
theorem ggX7_voice_X7_tells : GoodIn wsX7_voice wsX7_tells := goodIn_r _ [54, 2, 3, 31, 32, 33, 7, 34, 1, 35, 40, 41, 42, 51, 52, 53, 19, 20, 21, 22, 23, 24, 25, 26, 9, 27, 28, 29, 30, 36, 37, 38, 39, 47, 48, 49, 50, 43, 44, 45, 46, 55, 56, 57, 58, 59, 60, 61, 62, 63, 64, 65, 66, 67, 68, 69, 70, 71, 72, 73, 74, 75, 76, 77, 78] rfl (by decide +kernel)
set_option maxRecDepth 20000 in
theorem gX7_voice_X7_tells : GoodIn wsX7_voice (wsV RX7 277 RX7 yX7_tells wsX7_tells) := goodIn_app (goodIn_r _ [51, 52, 53, 7] rfl (by decide +kernel)) ggX7_voice_X7_tells
theorem dX7_voice_0 : decode cX7_voice 0 = .ok (.aload_n 0, 1) := by decide +kernel
theorem dX7_voice_1 : decode cX7_voice 1 = .ok (.iload_n 1, 1) := by decide +kernel
theorem dX7_voice_2 : decode cX7_voice 2 = .ok (.invokevirtual 146, 3) := by decide +kernel
theorem dX7_voice_5 : decode cX7_voice 5 = .ok (.ifCond .eq 12, 3) := by decide +kernel
theorem dX7_voice_8 : decode cX7_voice 8 = .ok (.iload_n 2, 1) := by decide +kernel
theorem dX7_voice_9 : decode cX7_voice 9 = .ok (.iconst 0, 1) := by decide +kernel
theorem dX7_voice_10 : decode cX7_voice 10 = .ok (.iconst 3, 1) := by decide +kernel
theorem dX7_voice_11 : decode cX7_voice 11 = .ok (.invokestatic 56, 3) := by decide +kernel
theorem dX7_voice_14 : decode cX7_voice 14 = .ok (.ifCond .ne 9, 3) := by decide +kernel
theorem dX7_voice_17 : decode cX7_voice 17 = .ok (.aload_n 0, 1) := by decide +kernel
theorem dX7_voice_18 : decode cX7_voice 18 = .ok (.iconst 1, 1) := by decide +kernel
theorem dX7_voice_19 : decode cX7_voice 19 = .ok (.invokevirtual 64, 3) := by decide +kernel
theorem dX7_voice_22 : decode cX7_voice 22 = .ok (.ireturn, 1) := by decide +kernel
theorem dX7_voice_23 : decode cX7_voice 23 = .ok (.aload_n 0, 1) := by decide +kernel
theorem dX7_voice_24 : decode cX7_voice 24 = .ok (.iconst 0, 1) := by decide +kernel
theorem dX7_voice_25 : decode cX7_voice 25 = .ok (.putfield 246, 3) := by decide +kernel
theorem dX7_voice_28 : decode cX7_voice 28 = .ok (.aload_n 0, 1) := by decide +kernel
theorem dX7_voice_29 : decode cX7_voice 29 = .ok (.iload_n 1, 1) := by decide +kernel
theorem dX7_voice_30 : decode cX7_voice 30 = .ok (.putfield 249, 3) := by decide +kernel
theorem dX7_voice_33 : decode cX7_voice 33 = .ok (.aload_n 0, 1) := by decide +kernel
theorem dX7_voice_34 : decode cX7_voice 34 = .ok (.iconst 0, 1) := by decide +kernel
theorem dX7_voice_35 : decode cX7_voice 35 = .ok (.putfield 273, 3) := by decide +kernel
theorem dX7_voice_38 : decode cX7_voice 38 = .ok (.aload_n 0, 1) := by decide +kernel
theorem dX7_voice_39 : decode cX7_voice 39 = .ok (.invokevirtual 264, 3) := by decide +kernel
theorem dX7_voice_42 : decode cX7_voice 42 = .ok (.istore 4, 2) := by decide +kernel
theorem dX7_voice_44 : decode cX7_voice 44 = .ok (.iload_n 2, 1) := by decide +kernel
theorem dX7_voice_45 : decode cX7_voice 45 = .ok (.ifCond .ne 13, 3) := by decide +kernel
theorem dX7_voice_48 : decode cX7_voice 48 = .ok (.aload_n 0, 1) := by decide +kernel
theorem dX7_voice_49 : decode cX7_voice 49 = .ok (.iload 4, 2) := by decide +kernel
theorem dX7_voice_51 : decode cX7_voice 51 = .ok (.iload_n 3, 1) := by decide +kernel
theorem dX7_voice_52 : decode cX7_voice 52 = .ok (.invokevirtual 261, 3) := by decide +kernel
theorem dX7_voice_55 : decode cX7_voice 55 = .ok (.goto 40, 3) := by decide +kernel
theorem dX7_voice_58 : decode cX7_voice 58 = .ok (.iload_n 2, 1) := by decide +kernel
theorem dX7_voice_59 : decode cX7_voice 59 = .ok (.iconst 1, 1) := by decide +kernel
theorem dX7_voice_60 : decode cX7_voice 60 = .ok (.if_icmp .ne 13, 3) := by decide +kernel
theorem dX7_voice_63 : decode cX7_voice 63 = .ok (.aload_n 0, 1) := by decide +kernel
theorem dX7_voice_64 : decode cX7_voice 64 = .ok (.iload 4, 2) := by decide +kernel
theorem dX7_voice_66 : decode cX7_voice 66 = .ok (.iload_n 3, 1) := by decide +kernel
theorem dX7_voice_67 : decode cX7_voice 67 = .ok (.invokevirtual 267, 3) := by decide +kernel
theorem dX7_voice_70 : decode cX7_voice 70 = .ok (.goto 25, 3) := by decide +kernel
theorem dX7_voice_73 : decode cX7_voice 73 = .ok (.iload_n 2, 1) := by decide +kernel
theorem dX7_voice_74 : decode cX7_voice 74 = .ok (.iconst 2, 1) := by decide +kernel
theorem dX7_voice_75 : decode cX7_voice 75 = .ok (.if_icmp .ne 13, 3) := by decide +kernel
theorem dX7_voice_78 : decode cX7_voice 78 = .ok (.aload_n 0, 1) := by decide +kernel
theorem dX7_voice_79 : decode cX7_voice 79 = .ok (.iload 4, 2) := by decide +kernel
theorem dX7_voice_81 : decode cX7_voice 81 = .ok (.iload_n 3, 1) := by decide +kernel
theorem dX7_voice_82 : decode cX7_voice 82 = .ok (.invokevirtual 270, 3) := by decide +kernel
theorem dX7_voice_85 : decode cX7_voice 85 = .ok (.goto 10, 3) := by decide +kernel
theorem dX7_voice_88 : decode cX7_voice 88 = .ok (.aload_n 0, 1) := by decide +kernel
theorem dX7_voice_89 : decode cX7_voice 89 = .ok (.iload 4, 2) := by decide +kernel
theorem dX7_voice_91 : decode cX7_voice 91 = .ok (.iload_n 3, 1) := by decide +kernel
theorem dX7_voice_92 : decode cX7_voice 92 = .ok (.invokevirtual 277, 3) := by decide +kernel
theorem dX7_voice_95 : decode cX7_voice 95 = .ok (.istore 5, 2) := by decide +kernel
theorem dX7_voice_97 : decode cX7_voice 97 = .ok (.aload_n 0, 1) := by decide +kernel
theorem dX7_voice_98 : decode cX7_voice 98 = .ok (.getfield 273, 3) := by decide +kernel
theorem dX7_voice_101 : decode cX7_voice 101 = .ok (.ifCond .eq 12, 3) := by decide +kernel
theorem dX7_voice_104 : decode cX7_voice 104 = .ok (.aload_n 0, 1) := by decide +kernel
theorem dX7_voice_105 : decode cX7_voice 105 = .ok (.bipush 6, 2) := by decide +kernel
theorem dX7_voice_107 : decode cX7_voice 107 = .ok (.invokevirtual 64, 3) := by decide +kernel
theorem dX7_voice_110 : decode cX7_voice 110 = .ok (.goto 5, 3) := by decide +kernel
theorem dX7_voice_113 : decode cX7_voice 113 = .ok (.iload 5, 2) := by decide +kernel
theorem dX7_voice_115 : decode cX7_voice 115 = .ok (.ireturn, 1) := by decide +kernel
set_option maxRecDepth 20000 in
theorem ggX7_body_X7_in : GoodIn wsX7_body wsX7_in := goodIn_r _ [6] rfl (by decide +kernel)
set_option maxRecDepth 20000 in
theorem gX7_body_X7_in : GoodIn wsX7_body (va_wsS RX7 56 yX7_in wsX7_in) := goodIn_app (goodIn_r _ [3, 4, 5] rfl (by decide +kernel)) ggX7_body_X7_in
set_option maxRecDepth 20000 in
theorem ggX7_body_X7_error : GoodIn wsX7_body wsX7_error := goodIn_r _ [10, 11, 12, 13, 14, 15, 16, 17, 18, 19, 20, 21, 22, 23, 24, 25, 26, 27, 28, 29, 30, 31, 32, 33, 34, 35, 36] rfl (by decide +kernel)
set_option maxRecDepth 20000 in
theorem gX7_body_X7_error : GoodIn wsX7_body (wsV RX7 64 RX7 yX7_error wsX7_error) := goodIn_app (goodIn_r _ [7, 8, 9, 5] rfl (by decide +kernel)) ggX7_body_X7_error
theorem dX7_body_0 : decode cX7_body 0 = .ok (.iload_n 1, 1) := by decide +kernel
theorem dX7_body_1 : decode cX7_body 1 = .ok (.iconst 0, 1) := by decide +kernel
theorem dX7_body_2 : decode cX7_body 2 = .ok (.aload_n 0, 1) := by decide +kernel
theorem dX7_body_3 : decode cX7_body 3 = .ok (.getfield 246, 3) := by decide +kernel
theorem dX7_body_6 : decode cX7_body 6 = .ok (.iconst 1, 1) := by decide +kernel
theorem dX7_body_7 : decode cX7_body 7 = .ok (.isub, 1) := by decide +kernel
theorem dX7_body_8 : decode cX7_body 8 = .ok (.invokestatic 56, 3) := by decide +kernel
theorem dX7_body_11 : decode cX7_body 11 = .ok (.ifCond .eq 12, 3) := by decide +kernel
theorem dX7_body_14 : decode cX7_body 14 = .ok (.aload_n 0, 1) := by decide +kernel
theorem dX7_body_15 : decode cX7_body 15 = .ok (.getfield 40, 3) := by decide +kernel
theorem dX7_body_18 : decode cX7_body 18 = .ok (.iload_n 1, 1) := by decide +kernel
theorem dX7_body_19 : decode cX7_body 19 = .ok (.iaload, 1) := by decide +kernel
theorem dX7_body_20 : decode cX7_body 20 = .ok (.goto 8, 3) := by decide +kernel
theorem dX7_body_23 : decode cX7_body 23 = .ok (.aload_n 0, 1) := by decide +kernel
theorem dX7_body_24 : decode cX7_body 24 = .ok (.iconst 2, 1) := by decide +kernel
theorem dX7_body_25 : decode cX7_body 25 = .ok (.invokevirtual 64, 3) := by decide +kernel
theorem dX7_body_28 : decode cX7_body 28 = .ok (.ireturn, 1) := by decide +kernel
set_option maxRecDepth 20000 in
theorem ggX7_isSheet_X7_in : GoodIn wsX7_isSheet wsX7_in := goodIn_r _ [4] rfl (by decide +kernel)
set_option maxRecDepth 20000 in
theorem gX7_isSheet_X7_in : GoodIn wsX7_isSheet (va_wsS RX7 56 yX7_in wsX7_in) := goodIn_app (goodIn_r _ [1, 2, 3] rfl (by decide +kernel)) ggX7_isSheet_X7_in
theorem dX7_isSheet_0 : decode cX7_isSheet 0 = .ok (.iload_n 0, 1) := by decide +kernel
theorem dX7_isSheet_1 : decode cX7_isSheet 1 = .ok (.iconst 0, 1) := by decide +kernel
theorem dX7_isSheet_2 : decode cX7_isSheet 2 = .ok (.iconst 3, 1) := by decide +kernel
theorem dX7_isSheet_3 : decode cX7_isSheet 3 = .ok (.invokestatic 56, 3) := by decide +kernel
theorem dX7_isSheet_6 : decode cX7_isSheet 6 = .ok (.ireturn, 1) := by decide +kernel
set_option maxRecDepth 20000 in
theorem ggX7_sheet_X7_isSheet : GoodIn wsX7_sheet wsX7_isSheet := goodIn_r _ [7, 8, 9, 6, 10] rfl (by decide +kernel)
set_option maxRecDepth 20000 in
theorem gX7_sheet_X7_isSheet : GoodIn wsX7_sheet (va_wsS RX7 280 yX7_isSheet wsX7_isSheet) := goodIn_app (goodIn_r _ [4, 5, 6] rfl (by decide +kernel)) ggX7_sheet_X7_isSheet
set_option maxRecDepth 20000 in
theorem ggX7_sheet_X7_error : GoodIn wsX7_sheet wsX7_error := goodIn_r _ [14, 15, 16, 17, 18, 19, 20, 21, 22, 23, 24, 25, 26, 27, 28, 29, 30, 31, 32, 33, 34, 35, 36, 37, 38, 39, 40] rfl (by decide +kernel)
set_option maxRecDepth 20000 in
theorem gX7_sheet_X7_error : GoodIn wsX7_sheet (wsV RX7 64 RX7 yX7_error wsX7_error) := goodIn_app (goodIn_r _ [11, 12, 13, 6] rfl (by decide +kernel)) ggX7_sheet_X7_error
theorem dX7_sheet_0 : decode cX7_sheet 0 = .ok (.iload_n 1, 1) := by decide +kernel
theorem dX7_sheet_1 : decode cX7_sheet 1 = .ok (.invokestatic 280, 3) := by decide +kernel
theorem dX7_sheet_4 : decode cX7_sheet 4 = .ok (.ifCond .eq 25, 3) := by decide +kernel
theorem dX7_sheet_7 : decode cX7_sheet 7 = .ok (.iload_n 2, 1) := by decide +kernel
theorem dX7_sheet_8 : decode cX7_sheet 8 = .ok (.ifCond .eq 27, 3) := by decide +kernel
theorem dX7_sheet_11 : decode cX7_sheet 11 = .ok (.iload_n 2, 1) := by decide +kernel
theorem dX7_sheet_12 : decode cX7_sheet 12 = .ok (.bipush 8, 2) := by decide +kernel
theorem dX7_sheet_14 : decode cX7_sheet 14 = .ok (.if_icmp .eq 21, 3) := by decide +kernel
theorem dX7_sheet_17 : decode cX7_sheet 17 = .ok (.iload_n 2, 1) := by decide +kernel
theorem dX7_sheet_18 : decode cX7_sheet 18 = .ok (.bipush 16, 2) := by decide +kernel
theorem dX7_sheet_20 : decode cX7_sheet 20 = .ok (.if_icmp .eq 15, 3) := by decide +kernel
theorem dX7_sheet_23 : decode cX7_sheet 23 = .ok (.iload_n 2, 1) := by decide +kernel
theorem dX7_sheet_24 : decode cX7_sheet 24 = .ok (.bipush 32, 2) := by decide +kernel
theorem dX7_sheet_26 : decode cX7_sheet 26 = .ok (.if_icmp .eq 9, 3) := by decide +kernel
theorem dX7_sheet_29 : decode cX7_sheet 29 = .ok (.aload_n 0, 1) := by decide +kernel
theorem dX7_sheet_30 : decode cX7_sheet 30 = .ok (.iconst 1, 1) := by decide +kernel
theorem dX7_sheet_31 : decode cX7_sheet 31 = .ok (.invokevirtual 64, 3) := by decide +kernel
theorem dX7_sheet_34 : decode cX7_sheet 34 = .ok (.ireturn, 1) := by decide +kernel
theorem dX7_sheet_35 : decode cX7_sheet 35 = .ok (.iload_n 2, 1) := by decide +kernel
theorem dX7_sheet_36 : decode cX7_sheet 36 = .ok (.ifCond .eq 13, 3) := by decide +kernel
theorem dX7_sheet_39 : decode cX7_sheet 39 = .ok (.iload_n 3, 1) := by decide +kernel
theorem dX7_sheet_40 : decode cX7_sheet 40 = .ok (.ifCond .ge 9, 3) := by decide +kernel
theorem dX7_sheet_43 : decode cX7_sheet 43 = .ok (.aload_n 0, 1) := by decide +kernel
theorem dX7_sheet_44 : decode cX7_sheet 44 = .ok (.iconst 3, 1) := by decide +kernel
theorem dX7_sheet_45 : decode cX7_sheet 45 = .ok (.invokevirtual 64, 3) := by decide +kernel
theorem dX7_sheet_48 : decode cX7_sheet 48 = .ok (.ireturn, 1) := by decide +kernel
theorem dX7_sheet_49 : decode cX7_sheet 49 = .ok (.iload_n 2, 1) := by decide +kernel
theorem dX7_sheet_50 : decode cX7_sheet 50 = .ok (.ifCond .eq 15, 3) := by decide +kernel
theorem dX7_sheet_53 : decode cX7_sheet 53 = .ok (.iload_n 3, 1) := by decide +kernel
theorem dX7_sheet_54 : decode cX7_sheet 54 = .ok (.bipush 24, 2) := by decide +kernel
theorem dX7_sheet_56 : decode cX7_sheet 56 = .ok (.if_icmp .le 9, 3) := by decide +kernel
theorem dX7_sheet_59 : decode cX7_sheet 59 = .ok (.aload_n 0, 1) := by decide +kernel
theorem dX7_sheet_60 : decode cX7_sheet 60 = .ok (.iconst 1, 1) := by decide +kernel
theorem dX7_sheet_61 : decode cX7_sheet 61 = .ok (.invokevirtual 64, 3) := by decide +kernel
theorem dX7_sheet_64 : decode cX7_sheet 64 = .ok (.ireturn, 1) := by decide +kernel
theorem dX7_sheet_65 : decode cX7_sheet 65 = .ok (.aload_n 0, 1) := by decide +kernel
theorem dX7_sheet_66 : decode cX7_sheet 66 = .ok (.getfield 43, 3) := by decide +kernel
theorem dX7_sheet_69 : decode cX7_sheet 69 = .ok (.iload_n 1, 1) := by decide +kernel
theorem dX7_sheet_70 : decode cX7_sheet 70 = .ok (.iload_n 2, 1) := by decide +kernel
theorem dX7_sheet_71 : decode cX7_sheet 71 = .ok (.iastore, 1) := by decide +kernel
theorem dX7_sheet_72 : decode cX7_sheet 72 = .ok (.aload_n 0, 1) := by decide +kernel
theorem dX7_sheet_73 : decode cX7_sheet 73 = .ok (.getfield 46, 3) := by decide +kernel
theorem dX7_sheet_76 : decode cX7_sheet 76 = .ok (.iload_n 1, 1) := by decide +kernel
theorem dX7_sheet_77 : decode cX7_sheet 77 = .ok (.iload_n 2, 1) := by decide +kernel
theorem dX7_sheet_78 : decode cX7_sheet 78 = .ok (.ifCond .ne 7, 3) := by decide +kernel
theorem dX7_sheet_81 : decode cX7_sheet 81 = .ok (.iconst 0, 1) := by decide +kernel
theorem dX7_sheet_82 : decode cX7_sheet 82 = .ok (.goto 4, 3) := by decide +kernel
theorem dX7_sheet_85 : decode cX7_sheet 85 = .ok (.iload_n 3, 1) := by decide +kernel
theorem dX7_sheet_86 : decode cX7_sheet 86 = .ok (.iastore, 1) := by decide +kernel
theorem dX7_sheet_87 : decode cX7_sheet 87 = .ok (.iconst 0, 1) := by decide +kernel
theorem dX7_sheet_88 : decode cX7_sheet 88 = .ok (.istore 4, 2) := by decide +kernel
theorem dX7_sheet_90 : decode cX7_sheet 90 = .ok (.iload 4, 2) := by decide +kernel
theorem dX7_sheet_92 : decode cX7_sheet 92 = .ok (.bipush 24, 2) := by decide +kernel
theorem dX7_sheet_94 : decode cX7_sheet 94 = .ok (.if_icmp .ge 22, 3) := by decide +kernel
theorem dX7_sheet_97 : decode cX7_sheet 97 = .ok (.aload_n 0, 1) := by decide +kernel
theorem dX7_sheet_98 : decode cX7_sheet 98 = .ok (.getfield 49, 3) := by decide +kernel
theorem dX7_sheet_101 : decode cX7_sheet 101 = .ok (.bipush 24, 2) := by decide +kernel
theorem dX7_sheet_103 : decode cX7_sheet 103 = .ok (.iload_n 1, 1) := by decide +kernel
theorem dX7_sheet_104 : decode cX7_sheet 104 = .ok (.imul, 1) := by decide +kernel
theorem dX7_sheet_105 : decode cX7_sheet 105 = .ok (.iload 4, 2) := by decide +kernel
theorem dX7_sheet_107 : decode cX7_sheet 107 = .ok (.iadd, 1) := by decide +kernel
theorem dX7_sheet_108 : decode cX7_sheet 108 = .ok (.iconst 0, 1) := by decide +kernel
theorem dX7_sheet_109 : decode cX7_sheet 109 = .ok (.iastore, 1) := by decide +kernel
theorem dX7_sheet_110 : decode cX7_sheet 110 = .ok (.iinc 4 1, 3) := by decide +kernel
theorem dX7_sheet_113 : decode cX7_sheet 113 = .ok (.goto (-23), 3) := by decide +kernel
theorem dX7_sheet_116 : decode cX7_sheet 116 = .ok (.iconst 1, 1) := by decide +kernel
theorem dX7_sheet_117 : decode cX7_sheet 117 = .ok (.ireturn, 1) := by decide +kernel
set_option maxRecDepth 20000 in
theorem ggX7_put_X7_isSheet : GoodIn wsX7_put wsX7_isSheet := goodIn_r _ [7, 8, 9, 6, 10] rfl (by decide +kernel)
set_option maxRecDepth 20000 in
theorem gX7_put_X7_isSheet : GoodIn wsX7_put (va_wsS RX7 280 yX7_isSheet wsX7_isSheet) := goodIn_app (goodIn_r _ [4, 5, 6] rfl (by decide +kernel)) ggX7_put_X7_isSheet
set_option maxRecDepth 20000 in
theorem ggX7_put_X7_error : GoodIn wsX7_put wsX7_error := goodIn_r _ [14, 15, 16, 17, 18, 19, 20, 21, 22, 23, 24, 25, 26, 27, 28, 29, 30, 31, 32, 33, 34, 35, 36, 37, 38, 39, 40] rfl (by decide +kernel)
set_option maxRecDepth 20000 in
theorem gX7_put_X7_error : GoodIn wsX7_put (wsV RX7 64 RX7 yX7_error wsX7_error) := goodIn_app (goodIn_r _ [11, 12, 13, 6] rfl (by decide +kernel)) ggX7_put_X7_error
set_option maxRecDepth 20000 in
theorem ggX7_put_X7_in : GoodIn wsX7_put wsX7_in := goodIn_r _ [10] rfl (by decide +kernel)
set_option maxRecDepth 20000 in
theorem gX7_put_X7_in : GoodIn wsX7_put (va_wsS RX7 56 yX7_in wsX7_in) := goodIn_app (goodIn_r _ [8, 9, 6] rfl (by decide +kernel)) ggX7_put_X7_in
theorem dX7_put_0 : decode cX7_put 0 = .ok (.iload_n 1, 1) := by decide +kernel
theorem dX7_put_1 : decode cX7_put 1 = .ok (.invokestatic 280, 3) := by decide +kernel
theorem dX7_put_4 : decode cX7_put 4 = .ok (.ifCond .ne 9, 3) := by decide +kernel
theorem dX7_put_7 : decode cX7_put 7 = .ok (.aload_n 0, 1) := by decide +kernel
theorem dX7_put_8 : decode cX7_put 8 = .ok (.iconst 1, 1) := by decide +kernel
theorem dX7_put_9 : decode cX7_put 9 = .ok (.invokevirtual 64, 3) := by decide +kernel
theorem dX7_put_12 : decode cX7_put 12 = .ok (.ireturn, 1) := by decide +kernel
theorem dX7_put_13 : decode cX7_put 13 = .ok (.aload_n 0, 1) := by decide +kernel
theorem dX7_put_14 : decode cX7_put 14 = .ok (.getfield 43, 3) := by decide +kernel
theorem dX7_put_17 : decode cX7_put 17 = .ok (.iload_n 1, 1) := by decide +kernel
theorem dX7_put_18 : decode cX7_put 18 = .ok (.iaload, 1) := by decide +kernel
theorem dX7_put_19 : decode cX7_put 19 = .ok (.ifCond .ne 9, 3) := by decide +kernel
theorem dX7_put_22 : decode cX7_put 22 = .ok (.aload_n 0, 1) := by decide +kernel
theorem dX7_put_23 : decode cX7_put 23 = .ok (.iconst 2, 1) := by decide +kernel
theorem dX7_put_24 : decode cX7_put 24 = .ok (.invokevirtual 64, 3) := by decide +kernel
theorem dX7_put_27 : decode cX7_put 27 = .ok (.ireturn, 1) := by decide +kernel
theorem dX7_put_28 : decode cX7_put 28 = .ok (.iload_n 2, 1) := by decide +kernel
theorem dX7_put_29 : decode cX7_put 29 = .ok (.iconst 0, 1) := by decide +kernel
theorem dX7_put_30 : decode cX7_put 30 = .ok (.aload_n 0, 1) := by decide +kernel
theorem dX7_put_31 : decode cX7_put 31 = .ok (.getfield 46, 3) := by decide +kernel
theorem dX7_put_34 : decode cX7_put 34 = .ok (.iload_n 1, 1) := by decide +kernel
theorem dX7_put_35 : decode cX7_put 35 = .ok (.iaload, 1) := by decide +kernel
theorem dX7_put_36 : decode cX7_put 36 = .ok (.iconst 1, 1) := by decide +kernel
theorem dX7_put_37 : decode cX7_put 37 = .ok (.isub, 1) := by decide +kernel
theorem dX7_put_38 : decode cX7_put 38 = .ok (.invokestatic 56, 3) := by decide +kernel
theorem dX7_put_41 : decode cX7_put 41 = .ok (.ifCond .ne 9, 3) := by decide +kernel
theorem dX7_put_44 : decode cX7_put 44 = .ok (.aload_n 0, 1) := by decide +kernel
theorem dX7_put_45 : decode cX7_put 45 = .ok (.iconst 1, 1) := by decide +kernel
theorem dX7_put_46 : decode cX7_put 46 = .ok (.invokevirtual 64, 3) := by decide +kernel
theorem dX7_put_49 : decode cX7_put 49 = .ok (.ireturn, 1) := by decide +kernel
theorem dX7_put_50 : decode cX7_put 50 = .ok (.bipush 32, 2) := by decide +kernel
theorem dX7_put_52 : decode cX7_put 52 = .ok (.aload_n 0, 1) := by decide +kernel
theorem dX7_put_53 : decode cX7_put 53 = .ok (.getfield 43, 3) := by decide +kernel
theorem dX7_put_56 : decode cX7_put 56 = .ok (.iload_n 1, 1) := by decide +kernel
theorem dX7_put_57 : decode cX7_put 57 = .ok (.iaload, 1) := by decide +kernel
theorem dX7_put_58 : decode cX7_put 58 = .ok (.isub, 1) := by decide +kernel
theorem dX7_put_59 : decode cX7_put 59 = .ok (.istore 4, 2) := by decide +kernel
theorem dX7_put_61 : decode cX7_put 61 = .ok (.aload_n 0, 1) := by decide +kernel
theorem dX7_put_62 : decode cX7_put 62 = .ok (.getfield 49, 3) := by decide +kernel
theorem dX7_put_65 : decode cX7_put 65 = .ok (.bipush 24, 2) := by decide +kernel
theorem dX7_put_67 : decode cX7_put 67 = .ok (.iload_n 1, 1) := by decide +kernel
theorem dX7_put_68 : decode cX7_put 68 = .ok (.imul, 1) := by decide +kernel
theorem dX7_put_69 : decode cX7_put 69 = .ok (.iload_n 2, 1) := by decide +kernel
theorem dX7_put_70 : decode cX7_put 70 = .ok (.iadd, 1) := by decide +kernel
theorem dX7_put_71 : decode cX7_put 71 = .ok (.iload_n 3, 1) := by decide +kernel
theorem dX7_put_72 : decode cX7_put 72 = .ok (.iload 4, 2) := by decide +kernel
theorem dX7_put_74 : decode cX7_put 74 = .ok (.ishl, 1) := by decide +kernel
theorem dX7_put_75 : decode cX7_put 75 = .ok (.iload 4, 2) := by decide +kernel
theorem dX7_put_77 : decode cX7_put 77 = .ok (.ishr, 1) := by decide +kernel
theorem dX7_put_78 : decode cX7_put 78 = .ok (.iastore, 1) := by decide +kernel
theorem dX7_put_79 : decode cX7_put 79 = .ok (.iconst 1, 1) := by decide +kernel
theorem dX7_put_80 : decode cX7_put 80 = .ok (.ireturn, 1) := by decide +kernel
set_option maxRecDepth 20000 in
theorem ggX7_move_X7_isSheet : GoodIn wsX7_move wsX7_isSheet := goodIn_r _ [8, 9, 10, 7, 11] rfl (by decide +kernel)
set_option maxRecDepth 20000 in
theorem gX7_move_X7_isSheet : GoodIn wsX7_move (va_wsS RX7 280 yX7_isSheet wsX7_isSheet) := goodIn_app (goodIn_r _ [5, 6, 7] rfl (by decide +kernel)) ggX7_move_X7_isSheet
set_option maxRecDepth 20000 in
theorem ggX7_move_X7_error : GoodIn wsX7_move wsX7_error := goodIn_r _ [15, 16, 17, 18, 19, 20, 21, 22, 23, 24, 25, 26, 27, 28, 29, 30, 31, 32, 33, 34, 35, 36, 37, 38, 39, 40, 41] rfl (by decide +kernel)
set_option maxRecDepth 20000 in
theorem gX7_move_X7_error : GoodIn wsX7_move (wsV RX7 64 RX7 yX7_error wsX7_error) := goodIn_app (goodIn_r _ [12, 13, 14, 7] rfl (by decide +kernel)) ggX7_move_X7_error
theorem dX7_move_0 : decode cX7_move 0 = .ok (.iload_n 1, 1) := by decide +kernel
theorem dX7_move_1 : decode cX7_move 1 = .ok (.invokestatic 280, 3) := by decide +kernel
theorem dX7_move_4 : decode cX7_move 4 = .ok (.ifCond .eq 10, 3) := by decide +kernel
theorem dX7_move_7 : decode cX7_move 7 = .ok (.iload_n 3, 1) := by decide +kernel
theorem dX7_move_8 : decode cX7_move 8 = .ok (.invokestatic 280, 3) := by decide +kernel
theorem dX7_move_11 : decode cX7_move 11 = .ok (.ifCond .ne 9, 3) := by decide +kernel
theorem dX7_move_14 : decode cX7_move 14 = .ok (.aload_n 0, 1) := by decide +kernel
theorem dX7_move_15 : decode cX7_move 15 = .ok (.iconst 1, 1) := by decide +kernel
theorem dX7_move_16 : decode cX7_move 16 = .ok (.invokevirtual 64, 3) := by decide +kernel
theorem dX7_move_19 : decode cX7_move 19 = .ok (.ireturn, 1) := by decide +kernel
theorem dX7_move_20 : decode cX7_move 20 = .ok (.aload_n 0, 1) := by decide +kernel
theorem dX7_move_21 : decode cX7_move 21 = .ok (.getfield 43, 3) := by decide +kernel
theorem dX7_move_24 : decode cX7_move 24 = .ok (.iload_n 1, 1) := by decide +kernel
theorem dX7_move_25 : decode cX7_move 25 = .ok (.iaload, 1) := by decide +kernel
theorem dX7_move_26 : decode cX7_move 26 = .ok (.ifCond .eq 12, 3) := by decide +kernel
theorem dX7_move_29 : decode cX7_move 29 = .ok (.aload_n 0, 1) := by decide +kernel
theorem dX7_move_30 : decode cX7_move 30 = .ok (.getfield 43, 3) := by decide +kernel
theorem dX7_move_33 : decode cX7_move 33 = .ok (.iload_n 3, 1) := by decide +kernel
theorem dX7_move_34 : decode cX7_move 34 = .ok (.iaload, 1) := by decide +kernel
theorem dX7_move_35 : decode cX7_move 35 = .ok (.ifCond .ne 9, 3) := by decide +kernel
theorem dX7_move_38 : decode cX7_move 38 = .ok (.aload_n 0, 1) := by decide +kernel
theorem dX7_move_39 : decode cX7_move 39 = .ok (.iconst 2, 1) := by decide +kernel
theorem dX7_move_40 : decode cX7_move 40 = .ok (.invokevirtual 64, 3) := by decide +kernel
theorem dX7_move_43 : decode cX7_move 43 = .ok (.ireturn, 1) := by decide +kernel
theorem dX7_move_44 : decode cX7_move 44 = .ok (.aload_n 0, 1) := by decide +kernel
theorem dX7_move_45 : decode cX7_move 45 = .ok (.getfield 43, 3) := by decide +kernel
theorem dX7_move_48 : decode cX7_move 48 = .ok (.iload_n 1, 1) := by decide +kernel
theorem dX7_move_49 : decode cX7_move 49 = .ok (.iaload, 1) := by decide +kernel
theorem dX7_move_50 : decode cX7_move 50 = .ok (.aload_n 0, 1) := by decide +kernel
theorem dX7_move_51 : decode cX7_move 51 = .ok (.getfield 43, 3) := by decide +kernel
theorem dX7_move_54 : decode cX7_move 54 = .ok (.iload_n 3, 1) := by decide +kernel
theorem dX7_move_55 : decode cX7_move 55 = .ok (.iaload, 1) := by decide +kernel
theorem dX7_move_56 : decode cX7_move 56 = .ok (.if_icmp .eq 9, 3) := by decide +kernel
theorem dX7_move_59 : decode cX7_move 59 = .ok (.aload_n 0, 1) := by decide +kernel
theorem dX7_move_60 : decode cX7_move 60 = .ok (.iconst 5, 1) := by decide +kernel
theorem dX7_move_61 : decode cX7_move 61 = .ok (.invokevirtual 64, 3) := by decide +kernel
theorem dX7_move_64 : decode cX7_move 64 = .ok (.ireturn, 1) := by decide +kernel
theorem dX7_move_65 : decode cX7_move 65 = .ok (.iload 5, 2) := by decide +kernel
theorem dX7_move_67 : decode cX7_move 67 = .ok (.ifCond .lt 39, 3) := by decide +kernel
theorem dX7_move_70 : decode cX7_move 70 = .ok (.iload_n 2, 1) := by decide +kernel
theorem dX7_move_71 : decode cX7_move 71 = .ok (.ifCond .lt 35, 3) := by decide +kernel
theorem dX7_move_74 : decode cX7_move 74 = .ok (.iload 4, 2) := by decide +kernel
theorem dX7_move_76 : decode cX7_move 76 = .ok (.ifCond .lt 30, 3) := by decide +kernel
theorem dX7_move_79 : decode cX7_move 79 = .ok (.iload_n 2, 1) := by decide +kernel
theorem dX7_move_80 : decode cX7_move 80 = .ok (.aload_n 0, 1) := by decide +kernel
theorem dX7_move_81 : decode cX7_move 81 = .ok (.getfield 46, 3) := by decide +kernel
theorem dX7_move_84 : decode cX7_move 84 = .ok (.iload_n 1, 1) := by decide +kernel
theorem dX7_move_85 : decode cX7_move 85 = .ok (.iaload, 1) := by decide +kernel
theorem dX7_move_86 : decode cX7_move 86 = .ok (.iload 5, 2) := by decide +kernel
theorem dX7_move_88 : decode cX7_move 88 = .ok (.isub, 1) := by decide +kernel
theorem dX7_move_89 : decode cX7_move 89 = .ok (.if_icmp .gt 17, 3) := by decide +kernel
theorem dX7_move_92 : decode cX7_move 92 = .ok (.iload 4, 2) := by decide +kernel
theorem dX7_move_94 : decode cX7_move 94 = .ok (.aload_n 0, 1) := by decide +kernel
theorem dX7_move_95 : decode cX7_move 95 = .ok (.getfield 46, 3) := by decide +kernel
theorem dX7_move_98 : decode cX7_move 98 = .ok (.iload_n 3, 1) := by decide +kernel
theorem dX7_move_99 : decode cX7_move 99 = .ok (.iaload, 1) := by decide +kernel
theorem dX7_move_100 : decode cX7_move 100 = .ok (.iload 5, 2) := by decide +kernel
theorem dX7_move_102 : decode cX7_move 102 = .ok (.isub, 1) := by decide +kernel
theorem dX7_move_103 : decode cX7_move 103 = .ok (.if_icmp .le 9, 3) := by decide +kernel
theorem dX7_move_106 : decode cX7_move 106 = .ok (.aload_n 0, 1) := by decide +kernel
theorem dX7_move_107 : decode cX7_move 107 = .ok (.iconst 1, 1) := by decide +kernel
theorem dX7_move_108 : decode cX7_move 108 = .ok (.invokevirtual 64, 3) := by decide +kernel
theorem dX7_move_111 : decode cX7_move 111 = .ok (.ireturn, 1) := by decide +kernel
theorem dX7_move_112 : decode cX7_move 112 = .ok (.iconst 0, 1) := by decide +kernel
theorem dX7_move_113 : decode cX7_move 113 = .ok (.istore 6, 2) := by decide +kernel
theorem dX7_move_115 : decode cX7_move 115 = .ok (.iload 6, 2) := by decide +kernel
theorem dX7_move_117 : decode cX7_move 117 = .ok (.iload 5, 2) := by decide +kernel
theorem dX7_move_119 : decode cX7_move 119 = .ok (.if_icmp .ge 30, 3) := by decide +kernel
theorem dX7_move_122 : decode cX7_move 122 = .ok (.aload_n 0, 1) := by decide +kernel
theorem dX7_move_123 : decode cX7_move 123 = .ok (.getfield 52, 3) := by decide +kernel
theorem dX7_move_126 : decode cX7_move 126 = .ok (.iload 6, 2) := by decide +kernel
theorem dX7_move_128 : decode cX7_move 128 = .ok (.aload_n 0, 1) := by decide +kernel
theorem dX7_move_129 : decode cX7_move 129 = .ok (.getfield 49, 3) := by decide +kernel
theorem dX7_move_132 : decode cX7_move 132 = .ok (.bipush 24, 2) := by decide +kernel
theorem dX7_move_134 : decode cX7_move 134 = .ok (.iload_n 1, 1) := by decide +kernel
theorem dX7_move_135 : decode cX7_move 135 = .ok (.imul, 1) := by decide +kernel
theorem dX7_move_136 : decode cX7_move 136 = .ok (.iload_n 2, 1) := by decide +kernel
theorem dX7_move_137 : decode cX7_move 137 = .ok (.iadd, 1) := by decide +kernel
theorem dX7_move_138 : decode cX7_move 138 = .ok (.iload 6, 2) := by decide +kernel
theorem dX7_move_140 : decode cX7_move 140 = .ok (.iadd, 1) := by decide +kernel
theorem dX7_move_141 : decode cX7_move 141 = .ok (.iaload, 1) := by decide +kernel
theorem dX7_move_142 : decode cX7_move 142 = .ok (.iastore, 1) := by decide +kernel
theorem dX7_move_143 : decode cX7_move 143 = .ok (.iinc 6 1, 3) := by decide +kernel
theorem dX7_move_146 : decode cX7_move 146 = .ok (.goto (-31), 3) := by decide +kernel
theorem dX7_move_149 : decode cX7_move 149 = .ok (.iconst 0, 1) := by decide +kernel
theorem dX7_move_150 : decode cX7_move 150 = .ok (.istore 6, 2) := by decide +kernel
theorem dX7_move_152 : decode cX7_move 152 = .ok (.iload 6, 2) := by decide +kernel
theorem dX7_move_154 : decode cX7_move 154 = .ok (.iload 5, 2) := by decide +kernel
theorem dX7_move_156 : decode cX7_move 156 = .ok (.if_icmp .ge 31, 3) := by decide +kernel
theorem dX7_move_159 : decode cX7_move 159 = .ok (.aload_n 0, 1) := by decide +kernel
theorem dX7_move_160 : decode cX7_move 160 = .ok (.getfield 49, 3) := by decide +kernel
theorem dX7_move_163 : decode cX7_move 163 = .ok (.bipush 24, 2) := by decide +kernel
theorem dX7_move_165 : decode cX7_move 165 = .ok (.iload_n 3, 1) := by decide +kernel
theorem dX7_move_166 : decode cX7_move 166 = .ok (.imul, 1) := by decide +kernel
theorem dX7_move_167 : decode cX7_move 167 = .ok (.iload 4, 2) := by decide +kernel
theorem dX7_move_169 : decode cX7_move 169 = .ok (.iadd, 1) := by decide +kernel
theorem dX7_move_170 : decode cX7_move 170 = .ok (.iload 6, 2) := by decide +kernel
theorem dX7_move_172 : decode cX7_move 172 = .ok (.iadd, 1) := by decide +kernel
theorem dX7_move_173 : decode cX7_move 173 = .ok (.aload_n 0, 1) := by decide +kernel
theorem dX7_move_174 : decode cX7_move 174 = .ok (.getfield 52, 3) := by decide +kernel
theorem dX7_move_177 : decode cX7_move 177 = .ok (.iload 6, 2) := by decide +kernel
theorem dX7_move_179 : decode cX7_move 179 = .ok (.iaload, 1) := by decide +kernel
theorem dX7_move_180 : decode cX7_move 180 = .ok (.iastore, 1) := by decide +kernel
theorem dX7_move_181 : decode cX7_move 181 = .ok (.iinc 6 1, 3) := by decide +kernel
theorem dX7_move_184 : decode cX7_move 184 = .ok (.goto (-32), 3) := by decide +kernel
theorem dX7_move_187 : decode cX7_move 187 = .ok (.iload 5, 2) := by decide +kernel
theorem dX7_move_189 : decode cX7_move 189 = .ok (.ireturn, 1) := by decide +kernel
set_option maxRecDepth 20000 in
theorem ggX7_words_X7_isSheet : GoodIn wsX7_words wsX7_isSheet := goodIn_r _ [7, 8, 9, 6, 10] rfl (by decide +kernel)
set_option maxRecDepth 20000 in
theorem gX7_words_X7_isSheet : GoodIn wsX7_words (va_wsS RX7 280 yX7_isSheet wsX7_isSheet) := goodIn_app (goodIn_r _ [4, 5, 6] rfl (by decide +kernel)) ggX7_words_X7_isSheet
set_option maxRecDepth 20000 in
theorem ggX7_words_X7_isWriter : GoodIn wsX7_words wsX7_isWriter := goodIn_r _ [13, 8, 9, 6, 10] rfl (by decide +kernel)
set_option maxRecDepth 20000 in
theorem gX7_words_X7_isWriter : GoodIn wsX7_words (va_wsS RX7 123 yX7_isWriter wsX7_isWriter) := goodIn_app (goodIn_r _ [11, 12, 6] rfl (by decide +kernel)) ggX7_words_X7_isWriter
set_option maxRecDepth 20000 in
theorem ggX7_words_X7_error : GoodIn wsX7_words wsX7_error := goodIn_r _ [17, 18, 19, 105, 106, 107, 108, 109, 110, 111, 112, 113, 114, 115, 116, 117, 118, 119, 120, 121, 122, 123, 124, 125, 126, 127, 128] rfl (by decide +kernel)
set_option maxRecDepth 20000 in
theorem gX7_words_X7_error : GoodIn wsX7_words (wsV RX7 64 RX7 yX7_error wsX7_error) := goodIn_app (goodIn_r _ [14, 15, 16, 6] rfl (by decide +kernel)) ggX7_words_X7_error
set_option maxRecDepth 20000 in
theorem ggX7_words_X7_in : GoodIn wsX7_words wsX7_in := goodIn_r _ [10] rfl (by decide +kernel)
set_option maxRecDepth 20000 in
theorem gX7_words_X7_in : GoodIn wsX7_words (va_wsS RX7 56 yX7_in wsX7_in) := goodIn_app (goodIn_r _ [8, 9, 6] rfl (by decide +kernel)) ggX7_words_X7_in
set_option maxRecDepth 20000 in
theorem ggX7_words_X7_mayAct : GoodIn wsX7_words wsX7_mayAct := goodIn_r _ [23, 24, 25, 26, 27, 28, 6, 29, 30, 31, 32, 33, 34, 35, 36, 37, 38, 39, 40, 41, 42, 43, 44, 45, 46, 47, 48, 49, 50, 51, 52, 53, 54, 55, 56, 57, 58, 59, 60, 105, 106, 107, 108, 109, 110, 111, 112, 113, 114, 115, 116, 117, 118, 119, 120, 121, 122, 123, 124, 125, 126, 127, 128] rfl (by decide +kernel)
set_option maxRecDepth 20000 in
theorem gX7_words_X7_mayAct : GoodIn wsX7_words (wsV RX7 105 RX7 yX7_mayAct wsX7_mayAct) := goodIn_app (goodIn_r _ [20, 21, 22, 6] rfl (by decide +kernel)) ggX7_words_X7_mayAct
set_option maxRecDepth 20000 in
theorem ggX7_words_X7_isFull : GoodIn wsX7_words wsX7_isFull := goodIn_r _ [64, 24, 105, 106, 107, 108, 109, 110, 111, 112, 113, 114, 115, 116, 117, 118, 119, 120, 121, 122, 123, 124, 125, 126, 127, 128] rfl (by decide +kernel)
set_option maxRecDepth 20000 in
theorem gX7_words_X7_isFull : GoodIn wsX7_words (wsV RX7 126 RX7 yX7_isFull wsX7_isFull) := goodIn_app (goodIn_r _ [61, 62, 63, 6] rfl (by decide +kernel)) ggX7_words_X7_isFull
set_option maxRecDepth 20000 in
theorem ggX7_words_X7_page : GoodIn wsX7_words wsX7_page := goodIn_r _ [44, 24, 45, 46, 47, 6, 48, 105, 106, 107, 108, 109, 110, 111, 112, 113, 114, 115, 116, 117, 118, 119, 120, 121, 122, 123, 124, 125, 126, 127, 128] rfl (by decide +kernel)
set_option maxRecDepth 20000 in
theorem gX7_words_X7_page : GoodIn wsX7_words (wsV RX7 82 RX7 yX7_page wsX7_page) := goodIn_app (goodIn_r _ [41, 42, 43, 6] rfl (by decide +kernel)) ggX7_words_X7_page
set_option maxRecDepth 20000 in
theorem ggX7_words_X7_writes : GoodIn wsX7_words wsX7_writes := goodIn_r _ [68, 24, 69, 70, 71, 72, 6, 73, 74, 75, 76, 77, 78, 79, 80, 81, 82, 83, 84, 85, 86, 87, 41, 42, 43, 44, 45, 46, 47, 48, 88, 89, 90, 91, 92, 93, 94, 95, 96, 25, 34, 35, 36, 37, 26, 27, 28, 29, 97, 98, 99, 100, 101, 102, 103, 104, 53, 54, 55, 56, 57, 58, 59, 60, 20, 21, 22, 23, 30, 31, 32, 33, 38, 39, 40, 49, 50, 51, 52, 105, 106, 107, 108, 109, 110, 111, 112, 113, 114, 115, 116, 117, 118, 119, 120, 121, 122, 123, 124, 125, 126, 127, 128] rfl (by decide +kernel)
set_option maxRecDepth 20000 in
theorem gX7_words_X7_writes : GoodIn wsX7_words (wsV RX7 130 RX7 yX7_writes wsX7_writes) := goodIn_app (goodIn_r _ [65, 66, 67, 6] rfl (by decide +kernel)) ggX7_words_X7_writes
theorem dX7_words_0 : decode cX7_words 0 = .ok (.iload_n 1, 1) := by decide +kernel
theorem dX7_words_1 : decode cX7_words 1 = .ok (.invokestatic 280, 3) := by decide +kernel
theorem dX7_words_4 : decode cX7_words 4 = .ok (.ifCond .eq 10, 3) := by decide +kernel
theorem dX7_words_7 : decode cX7_words 7 = .ok (.iload_n 2, 1) := by decide +kernel
theorem dX7_words_8 : decode cX7_words 8 = .ok (.invokestatic 123, 3) := by decide +kernel
theorem dX7_words_11 : decode cX7_words 11 = .ok (.ifCond .ne 9, 3) := by decide +kernel
theorem dX7_words_14 : decode cX7_words 14 = .ok (.aload_n 0, 1) := by decide +kernel
theorem dX7_words_15 : decode cX7_words 15 = .ok (.iconst 1, 1) := by decide +kernel
theorem dX7_words_16 : decode cX7_words 16 = .ok (.invokevirtual 64, 3) := by decide +kernel
theorem dX7_words_19 : decode cX7_words 19 = .ok (.ireturn, 1) := by decide +kernel
theorem dX7_words_20 : decode cX7_words 20 = .ok (.aload_n 0, 1) := by decide +kernel
theorem dX7_words_21 : decode cX7_words 21 = .ok (.getfield 43, 3) := by decide +kernel
theorem dX7_words_24 : decode cX7_words 24 = .ok (.iload_n 1, 1) := by decide +kernel
theorem dX7_words_25 : decode cX7_words 25 = .ok (.iaload, 1) := by decide +kernel
theorem dX7_words_26 : decode cX7_words 26 = .ok (.ifCond .ne 9, 3) := by decide +kernel
theorem dX7_words_29 : decode cX7_words 29 = .ok (.aload_n 0, 1) := by decide +kernel
theorem dX7_words_30 : decode cX7_words 30 = .ok (.iconst 2, 1) := by decide +kernel
theorem dX7_words_31 : decode cX7_words 31 = .ok (.invokevirtual 64, 3) := by decide +kernel
theorem dX7_words_34 : decode cX7_words 34 = .ok (.ireturn, 1) := by decide +kernel
theorem dX7_words_35 : decode cX7_words 35 = .ok (.iconst 0, 1) := by decide +kernel
theorem dX7_words_36 : decode cX7_words 36 = .ok (.istore_n 3, 1) := by decide +kernel
theorem dX7_words_37 : decode cX7_words 37 = .ok (.iconst 1, 1) := by decide +kernel
theorem dX7_words_38 : decode cX7_words 38 = .ok (.istore 4, 2) := by decide +kernel
theorem dX7_words_40 : decode cX7_words 40 = .ok (.iconst 0, 1) := by decide +kernel
theorem dX7_words_41 : decode cX7_words 41 = .ok (.istore 5, 2) := by decide +kernel
theorem dX7_words_43 : decode cX7_words 43 = .ok (.iload 5, 2) := by decide +kernel
theorem dX7_words_45 : decode cX7_words 45 = .ok (.aload_n 0, 1) := by decide +kernel
theorem dX7_words_46 : decode cX7_words 46 = .ok (.getfield 46, 3) := by decide +kernel
theorem dX7_words_49 : decode cX7_words 49 = .ok (.iload_n 1, 1) := by decide +kernel
theorem dX7_words_50 : decode cX7_words 50 = .ok (.iaload, 1) := by decide +kernel
theorem dX7_words_51 : decode cX7_words 51 = .ok (.if_icmp .ge 92, 3) := by decide +kernel
theorem dX7_words_54 : decode cX7_words 54 = .ok (.iload 4, 2) := by decide +kernel
theorem dX7_words_56 : decode cX7_words 56 = .ok (.ifCond .eq 87, 3) := by decide +kernel
theorem dX7_words_59 : decode cX7_words 59 = .ok (.aload_n 0, 1) := by decide +kernel
theorem dX7_words_60 : decode cX7_words 60 = .ok (.getfield 49, 3) := by decide +kernel
theorem dX7_words_63 : decode cX7_words 63 = .ok (.bipush 24, 2) := by decide +kernel
theorem dX7_words_65 : decode cX7_words 65 = .ok (.iload_n 1, 1) := by decide +kernel
theorem dX7_words_66 : decode cX7_words 66 = .ok (.imul, 1) := by decide +kernel
theorem dX7_words_67 : decode cX7_words 67 = .ok (.iload 5, 2) := by decide +kernel
theorem dX7_words_69 : decode cX7_words 69 = .ok (.iadd, 1) := by decide +kernel
theorem dX7_words_70 : decode cX7_words 70 = .ok (.iaload, 1) := by decide +kernel
theorem dX7_words_71 : decode cX7_words 71 = .ok (.istore 6, 2) := by decide +kernel
theorem dX7_words_73 : decode cX7_words 73 = .ok (.iload 6, 2) := by decide +kernel
theorem dX7_words_75 : decode cX7_words 75 = .ok (.iconst 1, 1) := by decide +kernel
theorem dX7_words_76 : decode cX7_words 76 = .ok (.bipush 60, 2) := by decide +kernel
theorem dX7_words_78 : decode cX7_words 78 = .ok (.invokestatic 56, 3) := by decide +kernel
theorem dX7_words_81 : decode cX7_words 81 = .ok (.ifCond .eq 31, 3) := by decide +kernel
theorem dX7_words_84 : decode cX7_words 84 = .ok (.aload_n 0, 1) := by decide +kernel
theorem dX7_words_85 : decode cX7_words 85 = .ok (.iload_n 2, 1) := by decide +kernel
theorem dX7_words_86 : decode cX7_words 86 = .ok (.invokevirtual 105, 3) := by decide +kernel
theorem dX7_words_89 : decode cX7_words 89 = .ok (.ifCond .eq 23, 3) := by decide +kernel
theorem dX7_words_92 : decode cX7_words 92 = .ok (.aload_n 0, 1) := by decide +kernel
theorem dX7_words_93 : decode cX7_words 93 = .ok (.invokevirtual 126, 3) := by decide +kernel
theorem dX7_words_96 : decode cX7_words 96 = .ok (.ifCond .ne 16, 3) := by decide +kernel
theorem dX7_words_99 : decode cX7_words 99 = .ok (.aload_n 0, 1) := by decide +kernel
theorem dX7_words_100 : decode cX7_words 100 = .ok (.invokevirtual 82, 3) := by decide +kernel
theorem dX7_words_103 : decode cX7_words 103 = .ok (.bipush 20, 2) := by decide +kernel
theorem dX7_words_105 : decode cX7_words 105 = .ok (.if_icmp .ge 7, 3) := by decide +kernel
theorem dX7_words_108 : decode cX7_words 108 = .ok (.iconst 1, 1) := by decide +kernel
theorem dX7_words_109 : decode cX7_words 109 = .ok (.goto 4, 3) := by decide +kernel
theorem dX7_words_112 : decode cX7_words 112 = .ok (.iconst 0, 1) := by decide +kernel
theorem dX7_words_113 : decode cX7_words 113 = .ok (.istore 4, 2) := by decide +kernel
theorem dX7_words_115 : decode cX7_words 115 = .ok (.iload 4, 2) := by decide +kernel
theorem dX7_words_117 : decode cX7_words 117 = .ok (.ifCond .eq 20, 3) := by decide +kernel
theorem dX7_words_120 : decode cX7_words 120 = .ok (.aload_n 0, 1) := by decide +kernel
theorem dX7_words_121 : decode cX7_words 121 = .ok (.iconst 1, 1) := by decide +kernel
theorem dX7_words_122 : decode cX7_words 122 = .ok (.iload_n 2, 1) := by decide +kernel
theorem dX7_words_123 : decode cX7_words 123 = .ok (.aload_n 0, 1) := by decide +kernel
theorem dX7_words_124 : decode cX7_words 124 = .ok (.invokevirtual 82, 3) := by decide +kernel
theorem dX7_words_127 : decode cX7_words 127 = .ok (.iload 6, 2) := by decide +kernel
theorem dX7_words_129 : decode cX7_words 129 = .ok (.invokevirtual 130, 3) := by decide +kernel
theorem dX7_words_132 : decode cX7_words 132 = .ok (.istore 7, 2) := by decide +kernel
theorem dX7_words_134 : decode cX7_words 134 = .ok (.iinc 3 1, 3) := by decide +kernel
theorem dX7_words_137 : decode cX7_words 137 = .ok (.iinc 5 1, 3) := by decide +kernel
theorem dX7_words_140 : decode cX7_words 140 = .ok (.goto (-97), 3) := by decide +kernel
theorem dX7_words_143 : decode cX7_words 143 = .ok (.iload_n 3, 1) := by decide +kernel
theorem dX7_words_144 : decode cX7_words 144 = .ok (.ireturn, 1) := by decide +kernel
theorem dX7_image_0 : decode cX7_image 0 = .ok (.iconst 0, 1) := by decide +kernel
theorem dX7_image_1 : decode cX7_image 1 = .ok (.istore_n 1, 1) := by decide +kernel
theorem dX7_image_2 : decode cX7_image 2 = .ok (.iload_n 1, 1) := by decide +kernel
theorem dX7_image_3 : decode cX7_image 3 = .ok (.sipush 3974, 3) := by decide +kernel
theorem dX7_image_6 : decode cX7_image 6 = .ok (.if_icmp .ge 21, 3) := by decide +kernel
theorem dX7_image_9 : decode cX7_image 9 = .ok (.aload_n 0, 1) := by decide +kernel
theorem dX7_image_10 : decode cX7_image 10 = .ok (.getfield 13, 3) := by decide +kernel
theorem dX7_image_13 : decode cX7_image 13 = .ok (.iload_n 1, 1) := by decide +kernel
theorem dX7_image_14 : decode cX7_image 14 = .ok (.aload_n 0, 1) := by decide +kernel
theorem dX7_image_15 : decode cX7_image 15 = .ok (.getfield 7, 3) := by decide +kernel
theorem dX7_image_18 : decode cX7_image 18 = .ok (.iload_n 1, 1) := by decide +kernel
theorem dX7_image_19 : decode cX7_image 19 = .ok (.iaload, 1) := by decide +kernel
theorem dX7_image_20 : decode cX7_image 20 = .ok (.iastore, 1) := by decide +kernel
theorem dX7_image_21 : decode cX7_image 21 = .ok (.iinc 1 1, 3) := by decide +kernel
theorem dX7_image_24 : decode cX7_image 24 = .ok (.goto (-22), 3) := by decide +kernel
theorem dX7_image_27 : decode cX7_image 27 = .ok (.aload_n 0, 1) := by decide +kernel
theorem dX7_image_28 : decode cX7_image 28 = .ok (.dup, 1) := by decide +kernel
theorem dX7_image_29 : decode cX7_image 29 = .ok (.getfield 283, 3) := by decide +kernel
theorem dX7_image_32 : decode cX7_image 32 = .ok (.iconst 1, 1) := by decide +kernel
theorem dX7_image_33 : decode cX7_image 33 = .ok (.iadd, 1) := by decide +kernel
theorem dX7_image_34 : decode cX7_image 34 = .ok (.putfield 283, 3) := by decide +kernel
theorem dX7_image_37 : decode cX7_image 37 = .ok (.aload_n 0, 1) := by decide +kernel
theorem dX7_image_38 : decode cX7_image 38 = .ok (.getfield 283, 3) := by decide +kernel
theorem dX7_image_41 : decode cX7_image 41 = .ok (.ireturn, 1) := by decide +kernel
set_option maxRecDepth 20000 in
theorem ggX7_restore_X7_error : GoodIn wsX7_restore wsX7_error := goodIn_r _ [8, 9, 10, 11, 12, 13, 14, 15, 16, 17, 18, 19, 20, 21, 22, 23, 24, 25, 26, 27, 28, 29, 30, 31, 32, 33, 34] rfl (by decide +kernel)
set_option maxRecDepth 20000 in
theorem gX7_restore_X7_error : GoodIn wsX7_restore (wsV RX7 64 RX7 yX7_error wsX7_error) := goodIn_app (goodIn_r _ [4, 5, 6, 7] rfl (by decide +kernel)) ggX7_restore_X7_error
theorem dX7_restore_0 : decode cX7_restore 0 = .ok (.aload_n 0, 1) := by decide +kernel
theorem dX7_restore_1 : decode cX7_restore 1 = .ok (.getfield 283, 3) := by decide +kernel
theorem dX7_restore_4 : decode cX7_restore 4 = .ok (.ifCond .ne 9, 3) := by decide +kernel
theorem dX7_restore_7 : decode cX7_restore 7 = .ok (.aload_n 0, 1) := by decide +kernel
theorem dX7_restore_8 : decode cX7_restore 8 = .ok (.iconst 2, 1) := by decide +kernel
theorem dX7_restore_9 : decode cX7_restore 9 = .ok (.invokevirtual 64, 3) := by decide +kernel
theorem dX7_restore_12 : decode cX7_restore 12 = .ok (.ireturn, 1) := by decide +kernel
theorem dX7_restore_13 : decode cX7_restore 13 = .ok (.iconst 0, 1) := by decide +kernel
theorem dX7_restore_14 : decode cX7_restore 14 = .ok (.istore_n 1, 1) := by decide +kernel
theorem dX7_restore_15 : decode cX7_restore 15 = .ok (.iload_n 1, 1) := by decide +kernel
theorem dX7_restore_16 : decode cX7_restore 16 = .ok (.sipush 3974, 3) := by decide +kernel
theorem dX7_restore_19 : decode cX7_restore 19 = .ok (.if_icmp .ge 21, 3) := by decide +kernel
theorem dX7_restore_22 : decode cX7_restore 22 = .ok (.aload_n 0, 1) := by decide +kernel
theorem dX7_restore_23 : decode cX7_restore 23 = .ok (.getfield 7, 3) := by decide +kernel
theorem dX7_restore_26 : decode cX7_restore 26 = .ok (.iload_n 1, 1) := by decide +kernel
theorem dX7_restore_27 : decode cX7_restore 27 = .ok (.aload_n 0, 1) := by decide +kernel
theorem dX7_restore_28 : decode cX7_restore 28 = .ok (.getfield 13, 3) := by decide +kernel
theorem dX7_restore_31 : decode cX7_restore 31 = .ok (.iload_n 1, 1) := by decide +kernel
theorem dX7_restore_32 : decode cX7_restore 32 = .ok (.iaload, 1) := by decide +kernel
theorem dX7_restore_33 : decode cX7_restore 33 = .ok (.iastore, 1) := by decide +kernel
theorem dX7_restore_34 : decode cX7_restore 34 = .ok (.iinc 1 1, 3) := by decide +kernel
theorem dX7_restore_37 : decode cX7_restore 37 = .ok (.goto (-22), 3) := by decide +kernel
theorem dX7_restore_40 : decode cX7_restore 40 = .ok (.aload_n 0, 1) := by decide +kernel
theorem dX7_restore_41 : decode cX7_restore 41 = .ok (.getfield 7, 3) := by decide +kernel
theorem dX7_restore_44 : decode cX7_restore 44 = .ok (.iconst 0, 1) := by decide +kernel
theorem dX7_restore_45 : decode cX7_restore 45 = .ok (.iaload, 1) := by decide +kernel
theorem dX7_restore_46 : decode cX7_restore 46 = .ok (.ireturn, 1) := by decide +kernel
set_option maxRecDepth 20000 in
theorem ggX7_tell_X7_error : GoodIn wsX7_tell wsX7_error := goodIn_r _ [6, 7, 8, 9, 10, 11, 12, 13, 14, 15, 16, 17, 18, 19, 20, 21, 22, 23, 24, 25, 26, 27, 28, 29, 30, 31, 32] rfl (by decide +kernel)
set_option maxRecDepth 20000 in
theorem gX7_tell_X7_error : GoodIn wsX7_tell (wsV RX7 64 RX7 yX7_error wsX7_error) := goodIn_app (goodIn_r _ [2, 3, 4, 5] rfl (by decide +kernel)) ggX7_tell_X7_error
theorem dX7_tell_0 : decode cX7_tell 0 = .ok (.aload_n 0, 1) := by decide +kernel
theorem dX7_tell_1 : decode cX7_tell 1 = .ok (.getfield 7, 3) := by decide +kernel
theorem dX7_tell_4 : decode cX7_tell 4 = .ok (.iconst 5, 1) := by decide +kernel
theorem dX7_tell_5 : decode cX7_tell 5 = .ok (.iaload, 1) := by decide +kernel
theorem dX7_tell_6 : decode cX7_tell 6 = .ok (.bipush 24, 2) := by decide +kernel
theorem dX7_tell_8 : decode cX7_tell 8 = .ok (.if_icmp .ne 9, 3) := by decide +kernel
theorem dX7_tell_11 : decode cX7_tell 11 = .ok (.aload_n 0, 1) := by decide +kernel
theorem dX7_tell_12 : decode cX7_tell 12 = .ok (.iconst 4, 1) := by decide +kernel
theorem dX7_tell_13 : decode cX7_tell 13 = .ok (.invokevirtual 64, 3) := by decide +kernel
theorem dX7_tell_16 : decode cX7_tell 16 = .ok (.ireturn, 1) := by decide +kernel
theorem dX7_tell_17 : decode cX7_tell 17 = .ok (.aload_n 0, 1) := by decide +kernel
theorem dX7_tell_18 : decode cX7_tell 18 = .ok (.getfield 7, 3) := by decide +kernel
theorem dX7_tell_21 : decode cX7_tell 21 = .ok (.sipush 3950, 3) := by decide +kernel
theorem dX7_tell_24 : decode cX7_tell 24 = .ok (.aload_n 0, 1) := by decide +kernel
theorem dX7_tell_25 : decode cX7_tell 25 = .ok (.getfield 7, 3) := by decide +kernel
theorem dX7_tell_28 : decode cX7_tell 28 = .ok (.iconst 5, 1) := by decide +kernel
theorem dX7_tell_29 : decode cX7_tell 29 = .ok (.iaload, 1) := by decide +kernel
theorem dX7_tell_30 : decode cX7_tell 30 = .ok (.iadd, 1) := by decide +kernel
theorem dX7_tell_31 : decode cX7_tell 31 = .ok (.iload_n 1, 1) := by decide +kernel
theorem dX7_tell_32 : decode cX7_tell 32 = .ok (.iastore, 1) := by decide +kernel
theorem dX7_tell_33 : decode cX7_tell 33 = .ok (.aload_n 0, 1) := by decide +kernel
theorem dX7_tell_34 : decode cX7_tell 34 = .ok (.getfield 7, 3) := by decide +kernel
theorem dX7_tell_37 : decode cX7_tell 37 = .ok (.iconst 5, 1) := by decide +kernel
theorem dX7_tell_38 : decode cX7_tell 38 = .ok (.dup2, 1) := by decide +kernel
theorem dX7_tell_39 : decode cX7_tell 39 = .ok (.iaload, 1) := by decide +kernel
theorem dX7_tell_40 : decode cX7_tell 40 = .ok (.iconst 1, 1) := by decide +kernel
theorem dX7_tell_41 : decode cX7_tell 41 = .ok (.iadd, 1) := by decide +kernel
theorem dX7_tell_42 : decode cX7_tell 42 = .ok (.iastore, 1) := by decide +kernel
theorem dX7_tell_43 : decode cX7_tell 43 = .ok (.aload_n 0, 1) := by decide +kernel
theorem dX7_tell_44 : decode cX7_tell 44 = .ok (.getfield 7, 3) := by decide +kernel
theorem dX7_tell_47 : decode cX7_tell 47 = .ok (.iconst 5, 1) := by decide +kernel
theorem dX7_tell_48 : decode cX7_tell 48 = .ok (.iaload, 1) := by decide +kernel
theorem dX7_tell_49 : decode cX7_tell 49 = .ok (.ireturn, 1) := by decide +kernel
set_option maxRecDepth 20000 in
theorem ggX7_check_X7_isVersion : GoodIn wsX7_check wsX7_isVersion := goodIn_r _ [6, 1, 7, 8, 5, 9, 24, 25, 26, 27, 28, 29, 30, 31, 32, 33, 34, 35, 36, 37, 38, 39, 40, 41, 42, 43, 44, 45, 46, 47] rfl (by decide +kernel)
set_option maxRecDepth 20000 in
theorem gX7_check_X7_isVersion : GoodIn wsX7_check (wsV RX7 137 RX7 yX7_isVersion wsX7_isVersion) := goodIn_app (goodIn_r _ [2, 3, 4, 5] rfl (by decide +kernel)) ggX7_check_X7_isVersion
set_option maxRecDepth 20000 in
theorem ggX7_check_X7_error : GoodIn wsX7_check wsX7_error := goodIn_r _ [13, 14, 15, 24, 25, 26, 27, 28, 29, 30, 31, 32, 33, 34, 35, 36, 37, 38, 39, 40, 41, 42, 43, 44, 45, 46, 47] rfl (by decide +kernel)
set_option maxRecDepth 20000 in
theorem gX7_check_X7_error : GoodIn wsX7_check (wsV RX7 64 RX7 yX7_error wsX7_error) := goodIn_app (goodIn_r _ [10, 11, 12, 5] rfl (by decide +kernel)) ggX7_check_X7_error
set_option maxRecDepth 20000 in
theorem ggX7_check_X7_sizeOf : GoodIn wsX7_check wsX7_sizeOf := goodIn_r _ [19, 1, 24, 25, 26, 27, 28, 29, 30, 31, 32, 33, 34, 35, 36, 37, 38, 39, 40, 41, 42, 43, 44, 45, 46, 47] rfl (by decide +kernel)
set_option maxRecDepth 20000 in
theorem gX7_check_X7_sizeOf : GoodIn wsX7_check (wsV RX7 60 RX7 yX7_sizeOf wsX7_sizeOf) := goodIn_app (goodIn_r _ [16, 17, 18, 5] rfl (by decide +kernel)) ggX7_check_X7_sizeOf
set_option maxRecDepth 20000 in
theorem ggX7_check_X7_wordAt : GoodIn wsX7_check wsX7_wordAt := goodIn_r _ [23, 1, 24, 25, 26, 27, 28, 29, 30, 31, 32, 33, 34, 35, 36, 37, 38, 39, 40, 41, 42, 43, 44, 45, 46, 47] rfl (by decide +kernel)
set_option maxRecDepth 20000 in
theorem gX7_check_X7_wordAt : GoodIn wsX7_check (wsV RX7 96 RX7 yX7_wordAt wsX7_wordAt) := goodIn_app (goodIn_r _ [20, 21, 22, 5] rfl (by decide +kernel)) ggX7_check_X7_wordAt
theorem dX7_check_0 : decode cX7_check 0 = .ok (.aload_n 0, 1) := by decide +kernel
theorem dX7_check_1 : decode cX7_check 1 = .ok (.getfield 7, 3) := by decide +kernel
theorem dX7_check_4 : decode cX7_check 4 = .ok (.iconst 5, 1) := by decide +kernel
theorem dX7_check_5 : decode cX7_check 5 = .ok (.iaload, 1) := by decide +kernel
theorem dX7_check_6 : decode cX7_check 6 = .ok (.istore_n 2, 1) := by decide +kernel
theorem dX7_check_7 : decode cX7_check 7 = .ok (.aload_n 0, 1) := by decide +kernel
theorem dX7_check_8 : decode cX7_check 8 = .ok (.getfield 7, 3) := by decide +kernel
theorem dX7_check_11 : decode cX7_check 11 = .ok (.iconst 5, 1) := by decide +kernel
theorem dX7_check_12 : decode cX7_check 12 = .ok (.iconst 0, 1) := by decide +kernel
theorem dX7_check_13 : decode cX7_check 13 = .ok (.iastore, 1) := by decide +kernel
theorem dX7_check_14 : decode cX7_check 14 = .ok (.aload_n 0, 1) := by decide +kernel
theorem dX7_check_15 : decode cX7_check 15 = .ok (.iload_n 1, 1) := by decide +kernel
theorem dX7_check_16 : decode cX7_check 16 = .ok (.invokevirtual 137, 3) := by decide +kernel
theorem dX7_check_19 : decode cX7_check 19 = .ok (.ifCond .ne 9, 3) := by decide +kernel
theorem dX7_check_22 : decode cX7_check 22 = .ok (.aload_n 0, 1) := by decide +kernel
theorem dX7_check_23 : decode cX7_check 23 = .ok (.iconst 1, 1) := by decide +kernel
theorem dX7_check_24 : decode cX7_check 24 = .ok (.invokevirtual 64, 3) := by decide +kernel
theorem dX7_check_27 : decode cX7_check 27 = .ok (.ireturn, 1) := by decide +kernel
theorem dX7_check_28 : decode cX7_check 28 = .ok (.iconst 0, 1) := by decide +kernel
theorem dX7_check_29 : decode cX7_check 29 = .ok (.istore_n 3, 1) := by decide +kernel
theorem dX7_check_30 : decode cX7_check 30 = .ok (.iload_n 3, 1) := by decide +kernel
theorem dX7_check_31 : decode cX7_check 31 = .ok (.iload_n 2, 1) := by decide +kernel
theorem dX7_check_32 : decode cX7_check 32 = .ok (.if_icmp .ge 37, 3) := by decide +kernel
theorem dX7_check_35 : decode cX7_check 35 = .ok (.iload_n 3, 1) := by decide +kernel
theorem dX7_check_36 : decode cX7_check 36 = .ok (.aload_n 0, 1) := by decide +kernel
theorem dX7_check_37 : decode cX7_check 37 = .ok (.iload_n 1, 1) := by decide +kernel
theorem dX7_check_38 : decode cX7_check 38 = .ok (.invokevirtual 60, 3) := by decide +kernel
theorem dX7_check_41 : decode cX7_check 41 = .ok (.if_icmp .ge 28, 3) := by decide +kernel
theorem dX7_check_44 : decode cX7_check 44 = .ok (.aload_n 0, 1) := by decide +kernel
theorem dX7_check_45 : decode cX7_check 45 = .ok (.getfield 7, 3) := by decide +kernel
theorem dX7_check_48 : decode cX7_check 48 = .ok (.sipush 3950, 3) := by decide +kernel
theorem dX7_check_51 : decode cX7_check 51 = .ok (.iload_n 3, 1) := by decide +kernel
theorem dX7_check_52 : decode cX7_check 52 = .ok (.iadd, 1) := by decide +kernel
theorem dX7_check_53 : decode cX7_check 53 = .ok (.iaload, 1) := by decide +kernel
theorem dX7_check_54 : decode cX7_check 54 = .ok (.aload_n 0, 1) := by decide +kernel
theorem dX7_check_55 : decode cX7_check 55 = .ok (.iload_n 1, 1) := by decide +kernel
theorem dX7_check_56 : decode cX7_check 56 = .ok (.iload_n 3, 1) := by decide +kernel
theorem dX7_check_57 : decode cX7_check 57 = .ok (.invokevirtual 96, 3) := by decide +kernel
theorem dX7_check_60 : decode cX7_check 60 = .ok (.if_icmp .ne 9, 3) := by decide +kernel
theorem dX7_check_63 : decode cX7_check 63 = .ok (.iinc 3 1, 3) := by decide +kernel
theorem dX7_check_66 : decode cX7_check 66 = .ok (.goto (-36), 3) := by decide +kernel
theorem dX7_check_69 : decode cX7_check 69 = .ok (.iload_n 3, 1) := by decide +kernel
theorem dX7_check_70 : decode cX7_check 70 = .ok (.iload_n 2, 1) := by decide +kernel
theorem dX7_check_71 : decode cX7_check 71 = .ok (.if_icmp .ne 16, 3) := by decide +kernel
theorem dX7_check_74 : decode cX7_check 74 = .ok (.iload_n 3, 1) := by decide +kernel
theorem dX7_check_75 : decode cX7_check 75 = .ok (.aload_n 0, 1) := by decide +kernel
theorem dX7_check_76 : decode cX7_check 76 = .ok (.iload_n 1, 1) := by decide +kernel
theorem dX7_check_77 : decode cX7_check 77 = .ok (.invokevirtual 60, 3) := by decide +kernel
theorem dX7_check_80 : decode cX7_check 80 = .ok (.if_icmp .ne 7, 3) := by decide +kernel
theorem dX7_check_83 : decode cX7_check 83 = .ok (.iconst 0, 1) := by decide +kernel
theorem dX7_check_84 : decode cX7_check 84 = .ok (.goto 6, 3) := by decide +kernel
theorem dX7_check_87 : decode cX7_check 87 = .ok (.iconst 1, 1) := by decide +kernel
theorem dX7_check_88 : decode cX7_check 88 = .ok (.iload_n 3, 1) := by decide +kernel
theorem dX7_check_89 : decode cX7_check 89 = .ok (.iadd, 1) := by decide +kernel
theorem dX7_check_90 : decode cX7_check 90 = .ok (.ireturn, 1) := by decide +kernel
set_option maxRecDepth 20000 in
theorem ggX7_count_X7_page : GoodIn wsX7_count wsX7_page := goodIn_r _ [7, 1, 8, 9, 10, 6, 11, 18, 19, 20, 21, 22, 23, 24, 25, 26, 27, 28, 29, 30, 31, 32, 33, 34, 35, 36, 37, 38, 39, 40, 41] rfl (by decide +kernel)
set_option maxRecDepth 20000 in
theorem gX7_count_X7_page : GoodIn wsX7_count (wsV RX7 82 RX7 yX7_page wsX7_page) := goodIn_app (goodIn_r _ [3, 4, 5, 6] rfl (by decide +kernel)) ggX7_count_X7_page
set_option maxRecDepth 20000 in
theorem ggX7_count_X7_error : GoodIn wsX7_count wsX7_error := goodIn_r _ [15, 16, 17, 18, 19, 20, 21, 22, 23, 24, 25, 26, 27, 28, 29, 30, 31, 32, 33, 34, 35, 36, 37, 38, 39, 40, 41] rfl (by decide +kernel)
set_option maxRecDepth 20000 in
theorem gX7_count_X7_error : GoodIn wsX7_count (wsV RX7 64 RX7 yX7_error wsX7_error) := goodIn_app (goodIn_r _ [12, 13, 14, 6] rfl (by decide +kernel)) ggX7_count_X7_error
theorem dX7_count_0 : decode cX7_count 0 = .ok (.iload_n 1, 1) := by decide +kernel
theorem dX7_count_1 : decode cX7_count 1 = .ok (.tableswitch 100 0 7 #[47, 54, 61, 66, 73, 80, 87, 92], 47) := by decide +kernel
theorem dX7_count_48 : decode cX7_count 48 = .ok (.aload_n 0, 1) := by decide +kernel
theorem dX7_count_49 : decode cX7_count 49 = .ok (.getfield 7, 3) := by decide +kernel
theorem dX7_count_52 : decode cX7_count 52 = .ok (.iconst 0, 1) := by decide +kernel
theorem dX7_count_53 : decode cX7_count 53 = .ok (.iaload, 1) := by decide +kernel
theorem dX7_count_54 : decode cX7_count 54 = .ok (.ireturn, 1) := by decide +kernel
theorem dX7_count_55 : decode cX7_count 55 = .ok (.aload_n 0, 1) := by decide +kernel
theorem dX7_count_56 : decode cX7_count 56 = .ok (.getfield 7, 3) := by decide +kernel
theorem dX7_count_59 : decode cX7_count 59 = .ok (.iconst 1, 1) := by decide +kernel
theorem dX7_count_60 : decode cX7_count 60 = .ok (.iaload, 1) := by decide +kernel
theorem dX7_count_61 : decode cX7_count 61 = .ok (.ireturn, 1) := by decide +kernel
theorem dX7_count_62 : decode cX7_count 62 = .ok (.aload_n 0, 1) := by decide +kernel
theorem dX7_count_63 : decode cX7_count 63 = .ok (.invokevirtual 82, 3) := by decide +kernel
theorem dX7_count_66 : decode cX7_count 66 = .ok (.ireturn, 1) := by decide +kernel
theorem dX7_count_67 : decode cX7_count 67 = .ok (.aload_n 0, 1) := by decide +kernel
theorem dX7_count_68 : decode cX7_count 68 = .ok (.getfield 7, 3) := by decide +kernel
theorem dX7_count_71 : decode cX7_count 71 = .ok (.iconst 2, 1) := by decide +kernel
theorem dX7_count_72 : decode cX7_count 72 = .ok (.iaload, 1) := by decide +kernel
theorem dX7_count_73 : decode cX7_count 73 = .ok (.ireturn, 1) := by decide +kernel
theorem dX7_count_74 : decode cX7_count 74 = .ok (.aload_n 0, 1) := by decide +kernel
theorem dX7_count_75 : decode cX7_count 75 = .ok (.getfield 7, 3) := by decide +kernel
theorem dX7_count_78 : decode cX7_count 78 = .ok (.iconst 4, 1) := by decide +kernel
theorem dX7_count_79 : decode cX7_count 79 = .ok (.iaload, 1) := by decide +kernel
theorem dX7_count_80 : decode cX7_count 80 = .ok (.ireturn, 1) := by decide +kernel
theorem dX7_count_81 : decode cX7_count 81 = .ok (.aload_n 0, 1) := by decide +kernel
theorem dX7_count_82 : decode cX7_count 82 = .ok (.getfield 7, 3) := by decide +kernel
theorem dX7_count_85 : decode cX7_count 85 = .ok (.iconst 5, 1) := by decide +kernel
theorem dX7_count_86 : decode cX7_count 86 = .ok (.iaload, 1) := by decide +kernel
theorem dX7_count_87 : decode cX7_count 87 = .ok (.ireturn, 1) := by decide +kernel
theorem dX7_count_88 : decode cX7_count 88 = .ok (.aload_n 0, 1) := by decide +kernel
theorem dX7_count_89 : decode cX7_count 89 = .ok (.getfield 246, 3) := by decide +kernel
theorem dX7_count_92 : decode cX7_count 92 = .ok (.ireturn, 1) := by decide +kernel
theorem dX7_count_93 : decode cX7_count 93 = .ok (.aload_n 0, 1) := by decide +kernel
theorem dX7_count_94 : decode cX7_count 94 = .ok (.getfield 7, 3) := by decide +kernel
theorem dX7_count_97 : decode cX7_count 97 = .ok (.bipush 6, 2) := by decide +kernel
theorem dX7_count_99 : decode cX7_count 99 = .ok (.iaload, 1) := by decide +kernel
theorem dX7_count_100 : decode cX7_count 100 = .ok (.ireturn, 1) := by decide +kernel
theorem dX7_count_101 : decode cX7_count 101 = .ok (.aload_n 0, 1) := by decide +kernel
theorem dX7_count_102 : decode cX7_count 102 = .ok (.iconst 1, 1) := by decide +kernel
theorem dX7_count_103 : decode cX7_count 103 = .ok (.invokevirtual 64, 3) := by decide +kernel
theorem dX7_count_106 : decode cX7_count 106 = .ok (.ireturn, 1) := by decide +kernel
set_option maxRecDepth 20000 in
theorem ggX7_told_X7_in : GoodIn wsX7_told wsX7_in := goodIn_r _ [5] rfl (by decide +kernel)
set_option maxRecDepth 20000 in
theorem gX7_told_X7_in : GoodIn wsX7_told (va_wsS RX7 56 yX7_in wsX7_in) := goodIn_app (goodIn_r _ [2, 3, 4] rfl (by decide +kernel)) ggX7_told_X7_in
set_option maxRecDepth 20000 in
theorem ggX7_told_X7_error : GoodIn wsX7_told wsX7_error := goodIn_r _ [9, 1, 10, 11, 12, 13, 14, 15, 16, 17, 18, 19, 20, 21, 22, 23, 24, 25, 26, 27, 28, 29, 30, 31, 32, 33, 34] rfl (by decide +kernel)
set_option maxRecDepth 20000 in
theorem gX7_told_X7_error : GoodIn wsX7_told (wsV RX7 64 RX7 yX7_error wsX7_error) := goodIn_app (goodIn_r _ [6, 7, 8, 4] rfl (by decide +kernel)) ggX7_told_X7_error
theorem dX7_told_0 : decode cX7_told 0 = .ok (.iload_n 1, 1) := by decide +kernel
theorem dX7_told_1 : decode cX7_told 1 = .ok (.iconst 1, 1) := by decide +kernel
theorem dX7_told_2 : decode cX7_told 2 = .ok (.bipush 6, 2) := by decide +kernel
theorem dX7_told_4 : decode cX7_told 4 = .ok (.invokestatic 56, 3) := by decide +kernel
theorem dX7_told_7 : decode cX7_told 7 = .ok (.ifCond .eq 12, 3) := by decide +kernel
theorem dX7_told_10 : decode cX7_told 10 = .ok (.aload_n 0, 1) := by decide +kernel
theorem dX7_told_11 : decode cX7_told 11 = .ok (.getfield 16, 3) := by decide +kernel
theorem dX7_told_14 : decode cX7_told 14 = .ok (.iload_n 1, 1) := by decide +kernel
theorem dX7_told_15 : decode cX7_told 15 = .ok (.iaload, 1) := by decide +kernel
theorem dX7_told_16 : decode cX7_told 16 = .ok (.goto 8, 3) := by decide +kernel
theorem dX7_told_19 : decode cX7_told 19 = .ok (.aload_n 0, 1) := by decide +kernel
theorem dX7_told_20 : decode cX7_told 20 = .ok (.iconst 1, 1) := by decide +kernel
theorem dX7_told_21 : decode cX7_told 21 = .ok (.invokevirtual 64, 3) := by decide +kernel
theorem dX7_told_24 : decode cX7_told 24 = .ok (.ireturn, 1) := by decide +kernel
theorem dJ11_isValidCodePoint_9a6ad_0 : decode cJ11_isValidCodePoint_9a6ad 0 = .ok (.iload_n 0, 1) := by decide +kernel
theorem dJ11_isValidCodePoint_9a6ad_1 : decode cJ11_isValidCodePoint_9a6ad 1 = .ok (.bipush 16, 2) := by decide +kernel
theorem dJ11_isValidCodePoint_9a6ad_3 : decode cJ11_isValidCodePoint_9a6ad 3 = .ok (.iushr, 1) := by decide +kernel
theorem dJ11_isValidCodePoint_9a6ad_4 : decode cJ11_isValidCodePoint_9a6ad 4 = .ok (.istore_n 1, 1) := by decide +kernel
theorem dJ11_isValidCodePoint_9a6ad_5 : decode cJ11_isValidCodePoint_9a6ad 5 = .ok (.iload_n 1, 1) := by decide +kernel
theorem dJ11_isValidCodePoint_9a6ad_6 : decode cJ11_isValidCodePoint_9a6ad 6 = .ok (.bipush 17, 2) := by decide +kernel
theorem dJ11_isValidCodePoint_9a6ad_8 : decode cJ11_isValidCodePoint_9a6ad 8 = .ok (.if_icmp .ge 7, 3) := by decide +kernel
theorem dJ11_isValidCodePoint_9a6ad_11 : decode cJ11_isValidCodePoint_9a6ad 11 = .ok (.iconst 1, 1) := by decide +kernel
theorem dJ11_isValidCodePoint_9a6ad_12 : decode cJ11_isValidCodePoint_9a6ad 12 = .ok (.goto 4, 3) := by decide +kernel
theorem dJ11_isValidCodePoint_9a6ad_15 : decode cJ11_isValidCodePoint_9a6ad 15 = .ok (.iconst 0, 1) := by decide +kernel
theorem dJ11_isValidCodePoint_9a6ad_16 : decode cJ11_isValidCodePoint_9a6ad 16 = .ok (.ireturn, 1) := by decide +kernel
theorem dJ11_highSurrogate_5068e_0 : decode cJ11_highSurrogate_5068e 0 = .ok (.iload_n 0, 1) := by decide +kernel
theorem dJ11_highSurrogate_5068e_1 : decode cJ11_highSurrogate_5068e 1 = .ok (.bipush 10, 2) := by decide +kernel
theorem dJ11_highSurrogate_5068e_3 : decode cJ11_highSurrogate_5068e 3 = .ok (.iushr, 1) := by decide +kernel
theorem dJ11_highSurrogate_5068e_4 : decode cJ11_highSurrogate_5068e 4 = .ok (.ldc 110, 2) := by decide +kernel
theorem dJ11_highSurrogate_5068e_6 : decode cJ11_highSurrogate_5068e 6 = .ok (.iadd, 1) := by decide +kernel
theorem dJ11_highSurrogate_5068e_7 : decode cJ11_highSurrogate_5068e 7 = .ok (.i2c, 1) := by decide +kernel
theorem dJ11_highSurrogate_5068e_8 : decode cJ11_highSurrogate_5068e 8 = .ok (.ireturn, 1) := by decide +kernel
theorem dJ11_lowSurrogate_5068e_0 : decode cJ11_lowSurrogate_5068e 0 = .ok (.iload_n 0, 1) := by decide +kernel
theorem dJ11_lowSurrogate_5068e_1 : decode cJ11_lowSurrogate_5068e 1 = .ok (.sipush 1023, 3) := by decide +kernel
theorem dJ11_lowSurrogate_5068e_4 : decode cJ11_lowSurrogate_5068e 4 = .ok (.iand, 1) := by decide +kernel
theorem dJ11_lowSurrogate_5068e_5 : decode cJ11_lowSurrogate_5068e 5 = .ok (.ldc 76, 2) := by decide +kernel
theorem dJ11_lowSurrogate_5068e_7 : decode cJ11_lowSurrogate_5068e 7 = .ok (.iadd, 1) := by decide +kernel
theorem dJ11_lowSurrogate_5068e_8 : decode cJ11_lowSurrogate_5068e 8 = .ok (.i2c, 1) := by decide +kernel
theorem dJ11_lowSurrogate_5068e_9 : decode cJ11_lowSurrogate_5068e 9 = .ok (.ireturn, 1) := by decide +kernel
theorem dJ9_max_7cf53_0 : decode cJ9_max_7cf53 0 = .ok (.iload_n 0, 1) := by decide +kernel
theorem dJ9_max_7cf53_1 : decode cJ9_max_7cf53 1 = .ok (.iload_n 1, 1) := by decide +kernel
theorem dJ9_max_7cf53_2 : decode cJ9_max_7cf53 2 = .ok (.if_icmp .lt 7, 3) := by decide +kernel
theorem dJ9_max_7cf53_5 : decode cJ9_max_7cf53 5 = .ok (.iload_n 0, 1) := by decide +kernel
theorem dJ9_max_7cf53_6 : decode cJ9_max_7cf53 6 = .ok (.goto 4, 3) := by decide +kernel
theorem dJ9_max_7cf53_9 : decode cJ9_max_7cf53 9 = .ok (.iload_n 1, 1) := by decide +kernel
theorem dJ9_max_7cf53_10 : decode cJ9_max_7cf53 10 = .ok (.ireturn, 1) := by decide +kernel
theorem dJ9_min_7cf53_0 : decode cJ9_min_7cf53 0 = .ok (.iload_n 0, 1) := by decide +kernel
theorem dJ9_min_7cf53_1 : decode cJ9_min_7cf53 1 = .ok (.iload_n 1, 1) := by decide +kernel
theorem dJ9_min_7cf53_2 : decode cJ9_min_7cf53 2 = .ok (.if_icmp .gt 7, 3) := by decide +kernel
theorem dJ9_min_7cf53_5 : decode cJ9_min_7cf53 5 = .ok (.iload_n 0, 1) := by decide +kernel
theorem dJ9_min_7cf53_6 : decode cJ9_min_7cf53 6 = .ok (.goto 4, 3) := by decide +kernel
theorem dJ9_min_7cf53_9 : decode cJ9_min_7cf53 9 = .ok (.iload_n 1, 1) := by decide +kernel
theorem dJ9_min_7cf53_10 : decode cJ9_min_7cf53 10 = .ok (.ireturn, 1) := by decide +kernel
set_option maxRecDepth 20000 in
theorem ggJ0_length_8abf5_J0_coder_7d493 : GoodIn wsJ0_length_8abf5 wsJ0_coder_7d493 := goodIn_r _ [6, 7, 8] rfl (by decide +kernel)
set_option maxRecDepth 20000 in
theorem gJ0_length_8abf5_J0_coder_7d493 : GoodIn wsJ0_length_8abf5 (wsV RJ0 335 RJ0 yJ0_coder_7d493 wsJ0_coder_7d493) := goodIn_app (goodIn_r _ [2, 3, 4, 5] rfl (by decide +kernel)) ggJ0_length_8abf5_J0_coder_7d493
theorem dJ0_length_8abf5_0 : decode cJ0_length_8abf5 0 = .ok (.aload_n 0, 1) := by decide +kernel
theorem dJ0_length_8abf5_1 : decode cJ0_length_8abf5 1 = .ok (.getfield 9, 3) := by decide +kernel
theorem dJ0_length_8abf5_4 : decode cJ0_length_8abf5 4 = .ok (.arraylength, 1) := by decide +kernel
theorem dJ0_length_8abf5_5 : decode cJ0_length_8abf5 5 = .ok (.aload_n 0, 1) := by decide +kernel
theorem dJ0_length_8abf5_6 : decode cJ0_length_8abf5 6 = .ok (.invokevirtual 335, 3) := by decide +kernel
theorem dJ0_length_8abf5_9 : decode cJ0_length_8abf5 9 = .ok (.ishr, 1) := by decide +kernel
theorem dJ0_length_8abf5_10 : decode cJ0_length_8abf5 10 = .ok (.ireturn, 1) := by decide +kernel
set_option maxRecDepth 20000 in
theorem ggJ0_indexOf_0f7a4_J0_indexOf_7cf53 : GoodIn wsJ0_indexOf_0f7a4 wsJ0_indexOf_7cf53 := goodIn_r _ [5, 6, 7, 8, 9, 4, 10, 11, 12, 13, 14, 15, 16, 17, 18, 19, 20, 21, 22, 23, 24, 25, 26, 27, 28, 29, 30, 31, 32, 33, 34, 35, 36, 37, 38, 39, 40, 41, 42, 43, 44, 45, 46, 47, 48, 49, 50, 51, 52, 53, 54, 55, 56, 57, 58, 59, 60, 61, 62, 63, 64, 65, 66, 67, 68, 69, 70, 71, 72, 73, 74, 75, 76, 77, 78, 79, 80, 81, 82, 83, 84, 85] rfl (by decide +kernel)
set_option maxRecDepth 20000 in
theorem gJ0_indexOf_0f7a4_J0_indexOf_7cf53 : GoodIn wsJ0_indexOf_0f7a4 (wsV RJ0 633 RJ0 yJ0_indexOf_7cf53 wsJ0_indexOf_7cf53) := goodIn_app (goodIn_r _ [1, 2, 3, 4] rfl (by decide +kernel)) ggJ0_indexOf_0f7a4_J0_indexOf_7cf53
theorem dJ0_indexOf_0f7a4_0 : decode cJ0_indexOf_0f7a4 0 = .ok (.aload_n 0, 1) := by decide +kernel
theorem dJ0_indexOf_0f7a4_1 : decode cJ0_indexOf_0f7a4 1 = .ok (.iload_n 1, 1) := by decide +kernel
theorem dJ0_indexOf_0f7a4_2 : decode cJ0_indexOf_0f7a4 2 = .ok (.iconst 0, 1) := by decide +kernel
theorem dJ0_indexOf_0f7a4_3 : decode cJ0_indexOf_0f7a4 3 = .ok (.invokevirtual 633, 3) := by decide +kernel
theorem dJ0_indexOf_0f7a4_6 : decode cJ0_indexOf_0f7a4 6 = .ok (.ireturn, 1) := by decide +kernel
set_option maxRecDepth 20000 in
theorem ggJ0_indexOf_7cf53_J0_isLatin1_aae02 : GoodIn wsJ0_indexOf_7cf53 wsJ0_isLatin1_aae02 := goodIn_r _ [6, 7, 8] rfl (by decide +kernel)
set_option maxRecDepth 20000 in
theorem gJ0_indexOf_7cf53_J0_isLatin1_aae02 : GoodIn wsJ0_indexOf_7cf53 (wsV RJ0 492 RJ0 yJ0_isLatin1_aae02 wsJ0_isLatin1_aae02) := goodIn_app (goodIn_r _ [2, 3, 4, 5] rfl (by decide +kernel)) ggJ0_indexOf_7cf53_J0_isLatin1_aae02
set_option maxRecDepth 20000 in
theorem ggJ0_indexOf_7cf53_J0_length_8abf5 : GoodIn wsJ0_indexOf_7cf53 wsJ0_length_8abf5 := goodIn_r _ [12, 1, 13, 14, 15, 5, 16, 7, 8] rfl (by decide +kernel)
set_option maxRecDepth 20000 in
theorem gJ0_indexOf_7cf53_J0_length_8abf5 : GoodIn wsJ0_indexOf_7cf53 (wsV RJ0 505 RJ0 yJ0_length_8abf5 wsJ0_length_8abf5) := goodIn_app (goodIn_r _ [9, 10, 11, 5] rfl (by decide +kernel)) ggJ0_indexOf_7cf53_J0_length_8abf5
set_option maxRecDepth 20000 in
theorem ggJ0_indexOf_7cf53_J1_indexOf_4cfef : GoodIn wsJ0_indexOf_7cf53 wsJ1_indexOf_4cfef := goodIn_r _ [20, 21, 22, 23, 24, 25, 26, 27, 28, 29, 19, 30, 31, 32, 33] rfl (by decide +kernel)
set_option maxRecDepth 20000 in
theorem gJ0_indexOf_7cf53_J1_indexOf_4cfef : GoodIn wsJ0_indexOf_7cf53 (va_wsS RJ0 637 yJ1_indexOf_4cfef wsJ1_indexOf_4cfef) := goodIn_app (goodIn_r _ [17, 18, 19] rfl (by decide +kernel)) ggJ0_indexOf_7cf53_J1_indexOf_4cfef
set_option maxRecDepth 20000 in
theorem ggJ0_indexOf_7cf53_J2_indexOf_4cfef : GoodIn wsJ0_indexOf_7cf53 wsJ2_indexOf_4cfef := goodIn_r _ [37, 38, 22, 23, 24, 39, 26, 27, 40, 41, 42, 36, 43, 44, 45, 46, 47, 48, 49, 50, 51, 5, 52, 53, 54, 55, 56, 57, 58, 59, 60, 61, 62, 63, 64, 65, 66, 67, 68, 69, 70, 71, 72, 73, 74, 75, 76, 77, 78, 79, 80, 81] rfl (by decide +kernel)
set_option maxRecDepth 20000 in
theorem gJ0_indexOf_7cf53_J2_indexOf_4cfef : GoodIn wsJ0_indexOf_7cf53 (va_wsS RJ0 640 yJ2_indexOf_4cfef wsJ2_indexOf_4cfef) := goodIn_app (goodIn_r _ [34, 35, 36] rfl (by decide +kernel)) ggJ0_indexOf_7cf53_J2_indexOf_4cfef
theorem dJ0_indexOf_7cf53_0 : decode cJ0_indexOf_7cf53 0 = .ok (.aload_n 0, 1) := by decide +kernel
theorem dJ0_indexOf_7cf53_1 : decode cJ0_indexOf_7cf53 1 = .ok (.invokevirtual 492, 3) := by decide +kernel
theorem dJ0_indexOf_7cf53_4 : decode cJ0_indexOf_7cf53 4 = .ok (.ifCond .eq 19, 3) := by decide +kernel
theorem dJ0_indexOf_7cf53_7 : decode cJ0_indexOf_7cf53 7 = .ok (.aload_n 0, 1) := by decide +kernel
theorem dJ0_indexOf_7cf53_8 : decode cJ0_indexOf_7cf53 8 = .ok (.getfield 9, 3) := by decide +kernel
theorem dJ0_indexOf_7cf53_11 : decode cJ0_indexOf_7cf53 11 = .ok (.iload_n 1, 1) := by decide +kernel
theorem dJ0_indexOf_7cf53_12 : decode cJ0_indexOf_7cf53 12 = .ok (.iload_n 2, 1) := by decide +kernel
theorem dJ0_indexOf_7cf53_13 : decode cJ0_indexOf_7cf53 13 = .ok (.aload_n 0, 1) := by decide +kernel
theorem dJ0_indexOf_7cf53_14 : decode cJ0_indexOf_7cf53 14 = .ok (.invokevirtual 505, 3) := by decide +kernel
theorem dJ0_indexOf_7cf53_17 : decode cJ0_indexOf_7cf53 17 = .ok (.invokestatic 637, 3) := by decide +kernel
theorem dJ0_indexOf_7cf53_20 : decode cJ0_indexOf_7cf53 20 = .ok (.goto 16, 3) := by decide +kernel
theorem dJ0_indexOf_7cf53_23 : decode cJ0_indexOf_7cf53 23 = .ok (.aload_n 0, 1) := by decide +kernel
theorem dJ0_indexOf_7cf53_24 : decode cJ0_indexOf_7cf53 24 = .ok (.getfield 9, 3) := by decide +kernel
theorem dJ0_indexOf_7cf53_27 : decode cJ0_indexOf_7cf53 27 = .ok (.iload_n 1, 1) := by decide +kernel
theorem dJ0_indexOf_7cf53_28 : decode cJ0_indexOf_7cf53 28 = .ok (.iload_n 2, 1) := by decide +kernel
theorem dJ0_indexOf_7cf53_29 : decode cJ0_indexOf_7cf53 29 = .ok (.aload_n 0, 1) := by decide +kernel
theorem dJ0_indexOf_7cf53_30 : decode cJ0_indexOf_7cf53 30 = .ok (.invokevirtual 505, 3) := by decide +kernel
theorem dJ0_indexOf_7cf53_33 : decode cJ0_indexOf_7cf53 33 = .ok (.invokestatic 640, 3) := by decide +kernel
theorem dJ0_indexOf_7cf53_36 : decode cJ0_indexOf_7cf53 36 = .ok (.ireturn, 1) := by decide +kernel
theorem dJ0_coder_7d493_0 : decode cJ0_coder_7d493 0 = .ok (.getstatic 38, 3) := by decide +kernel
theorem dJ0_coder_7d493_3 : decode cJ0_coder_7d493 3 = .ok (.ifCond .eq 10, 3) := by decide +kernel
theorem dJ0_coder_7d493_6 : decode cJ0_coder_7d493 6 = .ok (.aload_n 0, 1) := by decide +kernel
theorem dJ0_coder_7d493_7 : decode cJ0_coder_7d493 7 = .ok (.getfield 15, 3) := by decide +kernel
theorem dJ0_coder_7d493_10 : decode cJ0_coder_7d493 10 = .ok (.goto 4, 3) := by decide +kernel
theorem dJ0_coder_7d493_13 : decode cJ0_coder_7d493 13 = .ok (.iconst 1, 1) := by decide +kernel
theorem dJ0_coder_7d493_14 : decode cJ0_coder_7d493 14 = .ok (.ireturn, 1) := by decide +kernel
theorem dJ0_isLatin1_aae02_0 : decode cJ0_isLatin1_aae02 0 = .ok (.getstatic 38, 3) := by decide +kernel
theorem dJ0_isLatin1_aae02_3 : decode cJ0_isLatin1_aae02 3 = .ok (.ifCond .eq 14, 3) := by decide +kernel
theorem dJ0_isLatin1_aae02_6 : decode cJ0_isLatin1_aae02 6 = .ok (.aload_n 0, 1) := by decide +kernel
theorem dJ0_isLatin1_aae02_7 : decode cJ0_isLatin1_aae02 7 = .ok (.getfield 15, 3) := by decide +kernel
theorem dJ0_isLatin1_aae02_10 : decode cJ0_isLatin1_aae02 10 = .ok (.ifCond .ne 7, 3) := by decide +kernel
theorem dJ0_isLatin1_aae02_13 : decode cJ0_isLatin1_aae02 13 = .ok (.iconst 1, 1) := by decide +kernel
theorem dJ0_isLatin1_aae02_14 : decode cJ0_isLatin1_aae02 14 = .ok (.goto 4, 3) := by decide +kernel
theorem dJ0_isLatin1_aae02_17 : decode cJ0_isLatin1_aae02 17 = .ok (.iconst 0, 1) := by decide +kernel
theorem dJ0_isLatin1_aae02_18 : decode cJ0_isLatin1_aae02 18 = .ok (.ireturn, 1) := by decide +kernel
set_option maxRecDepth 20000 in
theorem ggJ0_checkBoundsBeginEnd_23922_J3_checkFromToIndex_8c36e : GoodIn wsJ0_checkBoundsBeginEnd_23922 wsJ3_checkFromToIndex_8c36e := goodIn_r _ [5] rfl (by decide +kernel)
set_option maxRecDepth 20000 in
theorem gJ0_checkBoundsBeginEnd_23922_J3_checkFromToIndex_8c36e : GoodIn wsJ0_checkBoundsBeginEnd_23922 (va_wsS RJ0 1062 yJ3_checkFromToIndex_8c36e wsJ3_checkFromToIndex_8c36e) := goodIn_app (goodIn_r _ [2, 3, 4] rfl (by decide +kernel)) ggJ0_checkBoundsBeginEnd_23922_J3_checkFromToIndex_8c36e
theorem dJ0_checkBoundsBeginEnd_23922_0 : decode cJ0_checkBoundsBeginEnd_23922 0 = .ok (.iload_n 0, 1) := by decide +kernel
theorem dJ0_checkBoundsBeginEnd_23922_1 : decode cJ0_checkBoundsBeginEnd_23922 1 = .ok (.iload_n 1, 1) := by decide +kernel
theorem dJ0_checkBoundsBeginEnd_23922_2 : decode cJ0_checkBoundsBeginEnd_23922 2 = .ok (.iload_n 2, 1) := by decide +kernel
theorem dJ0_checkBoundsBeginEnd_23922_3 : decode cJ0_checkBoundsBeginEnd_23922 3 = .ok (.getstatic 1053, 3) := by decide +kernel
theorem dJ0_checkBoundsBeginEnd_23922_6 : decode cJ0_checkBoundsBeginEnd_23922 6 = .ok (.invokestatic 1062, 3) := by decide +kernel
theorem dJ0_checkBoundsBeginEnd_23922_9 : decode cJ0_checkBoundsBeginEnd_23922 9 = .ok (.pop, 1) := by decide +kernel
theorem dJ0_checkBoundsBeginEnd_23922_10 : decode cJ0_checkBoundsBeginEnd_23922 10 = .ok (.return_, 1) := by decide +kernel
theorem dJ1_canEncode_9a6ad_0 : decode cJ1_canEncode_9a6ad 0 = .ok (.iload_n 0, 1) := by decide +kernel
theorem dJ1_canEncode_9a6ad_1 : decode cJ1_canEncode_9a6ad 1 = .ok (.ifCond .lt 14, 3) := by decide +kernel
theorem dJ1_canEncode_9a6ad_4 : decode cJ1_canEncode_9a6ad 4 = .ok (.iload_n 0, 1) := by decide +kernel
theorem dJ1_canEncode_9a6ad_5 : decode cJ1_canEncode_9a6ad 5 = .ok (.sipush 255, 3) := by decide +kernel
theorem dJ1_canEncode_9a6ad_8 : decode cJ1_canEncode_9a6ad 8 = .ok (.if_icmp .gt 7, 3) := by decide +kernel
theorem dJ1_canEncode_9a6ad_11 : decode cJ1_canEncode_9a6ad 11 = .ok (.iconst 1, 1) := by decide +kernel
theorem dJ1_canEncode_9a6ad_12 : decode cJ1_canEncode_9a6ad 12 = .ok (.goto 4, 3) := by decide +kernel
theorem dJ1_canEncode_9a6ad_15 : decode cJ1_canEncode_9a6ad 15 = .ok (.iconst 0, 1) := by decide +kernel
theorem dJ1_canEncode_9a6ad_16 : decode cJ1_canEncode_9a6ad 16 = .ok (.ireturn, 1) := by decide +kernel
set_option maxRecDepth 20000 in
theorem ggJ1_indexOf_4cfef_J1_canEncode_9a6ad : GoodIn wsJ1_indexOf_4cfef wsJ1_canEncode_9a6ad := goodIn_r _ [11] rfl (by decide +kernel)
set_option maxRecDepth 20000 in
theorem gJ1_indexOf_4cfef_J1_canEncode_9a6ad : GoodIn wsJ1_indexOf_4cfef (va_wsS RJ1 88 yJ1_canEncode_9a6ad wsJ1_canEncode_9a6ad) := goodIn_app (goodIn_r _ [8, 9, 10] rfl (by decide +kernel)) ggJ1_indexOf_4cfef_J1_canEncode_9a6ad
set_option maxRecDepth 20000 in
theorem ggJ1_indexOf_4cfef_J1_indexOfChar_4cfef : GoodIn wsJ1_indexOf_4cfef wsJ1_indexOfChar_4cfef := goodIn_r _ [14] rfl (by decide +kernel)
set_option maxRecDepth 20000 in
theorem gJ1_indexOf_4cfef_J1_indexOfChar_4cfef : GoodIn wsJ1_indexOf_4cfef (va_wsS RJ1 95 yJ1_indexOfChar_4cfef wsJ1_indexOfChar_4cfef) := goodIn_app (goodIn_r _ [12, 13, 10] rfl (by decide +kernel)) ggJ1_indexOf_4cfef_J1_indexOfChar_4cfef
theorem dJ1_indexOf_4cfef_0 : decode cJ1_indexOf_4cfef 0 = .ok (.iload_n 1, 1) := by decide +kernel
theorem dJ1_indexOf_4cfef_1 : decode cJ1_indexOf_4cfef 1 = .ok (.invokestatic 88, 3) := by decide +kernel
theorem dJ1_indexOf_4cfef_4 : decode cJ1_indexOf_4cfef 4 = .ok (.ifCond .ne 5, 3) := by decide +kernel
theorem dJ1_indexOf_4cfef_7 : decode cJ1_indexOf_4cfef 7 = .ok (.iconst (-1), 1) := by decide +kernel
theorem dJ1_indexOf_4cfef_8 : decode cJ1_indexOf_4cfef 8 = .ok (.ireturn, 1) := by decide +kernel
theorem dJ1_indexOf_4cfef_9 : decode cJ1_indexOf_4cfef 9 = .ok (.iload_n 2, 1) := by decide +kernel
theorem dJ1_indexOf_4cfef_10 : decode cJ1_indexOf_4cfef 10 = .ok (.iconst 0, 1) := by decide +kernel
theorem dJ1_indexOf_4cfef_11 : decode cJ1_indexOf_4cfef 11 = .ok (.invokestatic 92, 3) := by decide +kernel
theorem dJ1_indexOf_4cfef_14 : decode cJ1_indexOf_4cfef 14 = .ok (.istore_n 2, 1) := by decide +kernel
theorem dJ1_indexOf_4cfef_15 : decode cJ1_indexOf_4cfef 15 = .ok (.iload_n 3, 1) := by decide +kernel
theorem dJ1_indexOf_4cfef_16 : decode cJ1_indexOf_4cfef 16 = .ok (.aload_n 0, 1) := by decide +kernel
theorem dJ1_indexOf_4cfef_17 : decode cJ1_indexOf_4cfef 17 = .ok (.arraylength, 1) := by decide +kernel
theorem dJ1_indexOf_4cfef_18 : decode cJ1_indexOf_4cfef 18 = .ok (.invokestatic 38, 3) := by decide +kernel
theorem dJ1_indexOf_4cfef_21 : decode cJ1_indexOf_4cfef 21 = .ok (.istore_n 3, 1) := by decide +kernel
theorem dJ1_indexOf_4cfef_22 : decode cJ1_indexOf_4cfef 22 = .ok (.iload_n 2, 1) := by decide +kernel
theorem dJ1_indexOf_4cfef_23 : decode cJ1_indexOf_4cfef 23 = .ok (.iload_n 3, 1) := by decide +kernel
theorem dJ1_indexOf_4cfef_24 : decode cJ1_indexOf_4cfef 24 = .ok (.if_icmp .lt 5, 3) := by decide +kernel
theorem dJ1_indexOf_4cfef_27 : decode cJ1_indexOf_4cfef 27 = .ok (.iconst (-1), 1) := by decide +kernel
theorem dJ1_indexOf_4cfef_28 : decode cJ1_indexOf_4cfef 28 = .ok (.ireturn, 1) := by decide +kernel
theorem dJ1_indexOf_4cfef_29 : decode cJ1_indexOf_4cfef 29 = .ok (.aload_n 0, 1) := by decide +kernel
theorem dJ1_indexOf_4cfef_30 : decode cJ1_indexOf_4cfef 30 = .ok (.iload_n 1, 1) := by decide +kernel
theorem dJ1_indexOf_4cfef_31 : decode cJ1_indexOf_4cfef 31 = .ok (.iload_n 2, 1) := by decide +kernel
theorem dJ1_indexOf_4cfef_32 : decode cJ1_indexOf_4cfef 32 = .ok (.iload_n 3, 1) := by decide +kernel
theorem dJ1_indexOf_4cfef_33 : decode cJ1_indexOf_4cfef 33 = .ok (.invokestatic 95, 3) := by decide +kernel
theorem dJ1_indexOf_4cfef_36 : decode cJ1_indexOf_4cfef 36 = .ok (.ireturn, 1) := by decide +kernel
theorem dJ1_indexOfChar_4cfef_0 : decode cJ1_indexOfChar_4cfef 0 = .ok (.iload_n 1, 1) := by decide +kernel
theorem dJ1_indexOfChar_4cfef_1 : decode cJ1_indexOfChar_4cfef 1 = .ok (.i2b, 1) := by decide +kernel
theorem dJ1_indexOfChar_4cfef_2 : decode cJ1_indexOfChar_4cfef 2 = .ok (.istore 4, 2) := by decide +kernel
theorem dJ1_indexOfChar_4cfef_4 : decode cJ1_indexOfChar_4cfef 4 = .ok (.iload_n 2, 1) := by decide +kernel
theorem dJ1_indexOfChar_4cfef_5 : decode cJ1_indexOfChar_4cfef 5 = .ok (.istore 5, 2) := by decide +kernel
theorem dJ1_indexOfChar_4cfef_7 : decode cJ1_indexOfChar_4cfef 7 = .ok (.iload 5, 2) := by decide +kernel
theorem dJ1_indexOfChar_4cfef_9 : decode cJ1_indexOfChar_4cfef 9 = .ok (.iload_n 3, 1) := by decide +kernel
theorem dJ1_indexOfChar_4cfef_10 : decode cJ1_indexOfChar_4cfef 10 = .ok (.if_icmp .ge 21, 3) := by decide +kernel
theorem dJ1_indexOfChar_4cfef_13 : decode cJ1_indexOfChar_4cfef 13 = .ok (.aload_n 0, 1) := by decide +kernel
theorem dJ1_indexOfChar_4cfef_14 : decode cJ1_indexOfChar_4cfef 14 = .ok (.iload 5, 2) := by decide +kernel
theorem dJ1_indexOfChar_4cfef_16 : decode cJ1_indexOfChar_4cfef 16 = .ok (.baload, 1) := by decide +kernel
theorem dJ1_indexOfChar_4cfef_17 : decode cJ1_indexOfChar_4cfef 17 = .ok (.iload 4, 2) := by decide +kernel
theorem dJ1_indexOfChar_4cfef_19 : decode cJ1_indexOfChar_4cfef 19 = .ok (.if_icmp .ne 6, 3) := by decide +kernel
theorem dJ1_indexOfChar_4cfef_22 : decode cJ1_indexOfChar_4cfef 22 = .ok (.iload 5, 2) := by decide +kernel
theorem dJ1_indexOfChar_4cfef_24 : decode cJ1_indexOfChar_4cfef 24 = .ok (.ireturn, 1) := by decide +kernel
theorem dJ1_indexOfChar_4cfef_25 : decode cJ1_indexOfChar_4cfef 25 = .ok (.iinc 5 1, 3) := by decide +kernel
theorem dJ1_indexOfChar_4cfef_28 : decode cJ1_indexOfChar_4cfef 28 = .ok (.goto (-21), 3) := by decide +kernel
theorem dJ1_indexOfChar_4cfef_31 : decode cJ1_indexOfChar_4cfef 31 = .ok (.iconst (-1), 1) := by decide +kernel
theorem dJ1_indexOfChar_4cfef_32 : decode cJ1_indexOfChar_4cfef 32 = .ok (.ireturn, 1) := by decide +kernel
set_option maxRecDepth 20000 in
theorem ggJ2_getChar_3b067_J2_length_9d52b : GoodIn wsJ2_getChar_3b067 wsJ2_length_9d52b := goodIn_r _ [7] rfl (by decide +kernel)
set_option maxRecDepth 20000 in
theorem gJ2_getChar_3b067_J2_length_9d52b : GoodIn wsJ2_getChar_3b067 (va_wsS RJ2 48 yJ2_length_9d52b wsJ2_length_9d52b) := goodIn_app (goodIn_r _ [4, 5, 6] rfl (by decide +kernel)) ggJ2_getChar_3b067_J2_length_9d52b
theorem dJ2_getChar_3b067_0 : decode cJ2_getChar_3b067 0 = .ok (.getstatic 44, 3) := by decide +kernel
theorem dJ2_getChar_3b067_3 : decode cJ2_getChar_3b067 3 = .ok (.ifCond .ne 25, 3) := by decide +kernel
theorem dJ2_getChar_3b067_6 : decode cJ2_getChar_3b067 6 = .ok (.iload_n 1, 1) := by decide +kernel
theorem dJ2_getChar_3b067_7 : decode cJ2_getChar_3b067 7 = .ok (.ifCond .lt 11, 3) := by decide +kernel
theorem dJ2_getChar_3b067_10 : decode cJ2_getChar_3b067 10 = .ok (.iload_n 1, 1) := by decide +kernel
theorem dJ2_getChar_3b067_11 : decode cJ2_getChar_3b067 11 = .ok (.aload_n 0, 1) := by decide +kernel
theorem dJ2_getChar_3b067_12 : decode cJ2_getChar_3b067 12 = .ok (.invokestatic 48, 3) := by decide +kernel
theorem dJ2_getChar_3b067_15 : decode cJ2_getChar_3b067 15 = .ok (.if_icmp .lt 13, 3) := by decide +kernel
theorem dJ2_getChar_3b067_18 : decode cJ2_getChar_3b067 18 = .ok (.new 52, 3) := by decide +kernel
theorem dJ2_getChar_3b067_21 : decode cJ2_getChar_3b067 21 = .ok (.dup, 1) := by decide +kernel
theorem dJ2_getChar_3b067_22 : decode cJ2_getChar_3b067 22 = .ok (.ldc 54, 2) := by decide +kernel
theorem dJ2_getChar_3b067_24 : decode cJ2_getChar_3b067 24 = .ok (.invokespecial 56, 3) := by decide +kernel
theorem dJ2_getChar_3b067_27 : decode cJ2_getChar_3b067 27 = .ok (.athrow, 1) := by decide +kernel
theorem dJ2_getChar_3b067_28 : decode cJ2_getChar_3b067 28 = .ok (.iload_n 1, 1) := by decide +kernel
theorem dJ2_getChar_3b067_29 : decode cJ2_getChar_3b067 29 = .ok (.iconst 1, 1) := by decide +kernel
theorem dJ2_getChar_3b067_30 : decode cJ2_getChar_3b067 30 = .ok (.ishl, 1) := by decide +kernel
theorem dJ2_getChar_3b067_31 : decode cJ2_getChar_3b067 31 = .ok (.istore_n 1, 1) := by decide +kernel
theorem dJ2_getChar_3b067_32 : decode cJ2_getChar_3b067 32 = .ok (.aload_n 0, 1) := by decide +kernel
theorem dJ2_getChar_3b067_33 : decode cJ2_getChar_3b067 33 = .ok (.iload_n 1, 1) := by decide +kernel
theorem dJ2_getChar_3b067_34 : decode cJ2_getChar_3b067 34 = .ok (.iinc 1 1, 3) := by decide +kernel
theorem dJ2_getChar_3b067_37 : decode cJ2_getChar_3b067 37 = .ok (.baload, 1) := by decide +kernel
theorem dJ2_getChar_3b067_38 : decode cJ2_getChar_3b067 38 = .ok (.sipush 255, 3) := by decide +kernel
theorem dJ2_getChar_3b067_41 : decode cJ2_getChar_3b067 41 = .ok (.iand, 1) := by decide +kernel
theorem dJ2_getChar_3b067_42 : decode cJ2_getChar_3b067 42 = .ok (.getstatic 59, 3) := by decide +kernel
theorem dJ2_getChar_3b067_45 : decode cJ2_getChar_3b067 45 = .ok (.ishl, 1) := by decide +kernel
theorem dJ2_getChar_3b067_46 : decode cJ2_getChar_3b067 46 = .ok (.aload_n 0, 1) := by decide +kernel
theorem dJ2_getChar_3b067_47 : decode cJ2_getChar_3b067 47 = .ok (.iload_n 1, 1) := by decide +kernel
theorem dJ2_getChar_3b067_48 : decode cJ2_getChar_3b067 48 = .ok (.baload, 1) := by decide +kernel
theorem dJ2_getChar_3b067_49 : decode cJ2_getChar_3b067 49 = .ok (.sipush 255, 3) := by decide +kernel
theorem dJ2_getChar_3b067_52 : decode cJ2_getChar_3b067 52 = .ok (.iand, 1) := by decide +kernel
theorem dJ2_getChar_3b067_53 : decode cJ2_getChar_3b067 53 = .ok (.getstatic 63, 3) := by decide +kernel
theorem dJ2_getChar_3b067_56 : decode cJ2_getChar_3b067 56 = .ok (.ishl, 1) := by decide +kernel
theorem dJ2_getChar_3b067_57 : decode cJ2_getChar_3b067 57 = .ok (.ior, 1) := by decide +kernel
theorem dJ2_getChar_3b067_58 : decode cJ2_getChar_3b067 58 = .ok (.i2c, 1) := by decide +kernel
theorem dJ2_getChar_3b067_59 : decode cJ2_getChar_3b067 59 = .ok (.ireturn, 1) := by decide +kernel
theorem dJ2_length_9d52b_0 : decode cJ2_length_9d52b 0 = .ok (.aload_n 0, 1) := by decide +kernel
theorem dJ2_length_9d52b_1 : decode cJ2_length_9d52b 1 = .ok (.arraylength, 1) := by decide +kernel
theorem dJ2_length_9d52b_2 : decode cJ2_length_9d52b 2 = .ok (.iconst 1, 1) := by decide +kernel
theorem dJ2_length_9d52b_3 : decode cJ2_length_9d52b 3 = .ok (.ishr, 1) := by decide +kernel
theorem dJ2_length_9d52b_4 : decode cJ2_length_9d52b 4 = .ok (.ireturn, 1) := by decide +kernel
set_option maxRecDepth 20000 in
theorem ggJ2_indexOf_4cfef_J2_indexOfChar_4cfef : GoodIn wsJ2_indexOf_4cfef wsJ2_indexOfChar_4cfef := goodIn_r _ [12, 13, 14, 11, 15, 16, 17, 18, 19, 20, 21, 22, 23, 24, 25, 26, 27, 28, 29, 30, 31, 32, 33, 34, 35, 36] rfl (by decide +kernel)
set_option maxRecDepth 20000 in
theorem gJ2_indexOf_4cfef_J2_indexOfChar_4cfef : GoodIn wsJ2_indexOf_4cfef (va_wsS RJ2 228 yJ2_indexOfChar_4cfef wsJ2_indexOfChar_4cfef) := goodIn_app (goodIn_r _ [9, 10, 11] rfl (by decide +kernel)) ggJ2_indexOf_4cfef_J2_indexOfChar_4cfef
set_option maxRecDepth 20000 in
theorem ggJ2_indexOf_4cfef_J2_indexOfSupplementary_4cfef : GoodIn wsJ2_indexOf_4cfef wsJ2_indexOfSupplementary_4cfef := goodIn_r _ [39, 40, 41, 42, 43, 44, 45, 46, 47, 48, 49, 50, 51, 13, 14, 11, 15, 16, 17, 18, 19, 20, 21, 22, 23, 24, 25, 26, 27, 31, 32, 33, 34, 35, 36] rfl (by decide +kernel)
set_option maxRecDepth 20000 in
theorem gJ2_indexOf_4cfef_J2_indexOfSupplementary_4cfef : GoodIn wsJ2_indexOf_4cfef (va_wsS RJ2 232 yJ2_indexOfSupplementary_4cfef wsJ2_indexOfSupplementary_4cfef) := goodIn_app (goodIn_r _ [37, 38, 11] rfl (by decide +kernel)) ggJ2_indexOf_4cfef_J2_indexOfSupplementary_4cfef
theorem dJ2_indexOf_4cfef_0 : decode cJ2_indexOf_4cfef 0 = .ok (.iload_n 2, 1) := by decide +kernel
theorem dJ2_indexOf_4cfef_1 : decode cJ2_indexOf_4cfef 1 = .ok (.iconst 0, 1) := by decide +kernel
theorem dJ2_indexOf_4cfef_2 : decode cJ2_indexOf_4cfef 2 = .ok (.invokestatic 224, 3) := by decide +kernel
theorem dJ2_indexOf_4cfef_5 : decode cJ2_indexOf_4cfef 5 = .ok (.istore_n 2, 1) := by decide +kernel
theorem dJ2_indexOf_4cfef_6 : decode cJ2_indexOf_4cfef 6 = .ok (.iload_n 3, 1) := by decide +kernel
theorem dJ2_indexOf_4cfef_7 : decode cJ2_indexOf_4cfef 7 = .ok (.aload_n 0, 1) := by decide +kernel
theorem dJ2_indexOf_4cfef_8 : decode cJ2_indexOf_4cfef 8 = .ok (.arraylength, 1) := by decide +kernel
theorem dJ2_indexOf_4cfef_9 : decode cJ2_indexOf_4cfef 9 = .ok (.iconst 1, 1) := by decide +kernel
theorem dJ2_indexOf_4cfef_10 : decode cJ2_indexOf_4cfef 10 = .ok (.ishr, 1) := by decide +kernel
theorem dJ2_indexOf_4cfef_11 : decode cJ2_indexOf_4cfef 11 = .ok (.invokestatic 183, 3) := by decide +kernel
theorem dJ2_indexOf_4cfef_14 : decode cJ2_indexOf_4cfef 14 = .ok (.istore_n 3, 1) := by decide +kernel
theorem dJ2_indexOf_4cfef_15 : decode cJ2_indexOf_4cfef 15 = .ok (.iload_n 2, 1) := by decide +kernel
theorem dJ2_indexOf_4cfef_16 : decode cJ2_indexOf_4cfef 16 = .ok (.iload_n 3, 1) := by decide +kernel
theorem dJ2_indexOf_4cfef_17 : decode cJ2_indexOf_4cfef 17 = .ok (.if_icmp .lt 5, 3) := by decide +kernel
theorem dJ2_indexOf_4cfef_20 : decode cJ2_indexOf_4cfef 20 = .ok (.iconst (-1), 1) := by decide +kernel
theorem dJ2_indexOf_4cfef_21 : decode cJ2_indexOf_4cfef 21 = .ok (.ireturn, 1) := by decide +kernel
theorem dJ2_indexOf_4cfef_22 : decode cJ2_indexOf_4cfef 22 = .ok (.iload_n 1, 1) := by decide +kernel
theorem dJ2_indexOf_4cfef_23 : decode cJ2_indexOf_4cfef 23 = .ok (.ldc 227, 2) := by decide +kernel
theorem dJ2_indexOf_4cfef_25 : decode cJ2_indexOf_4cfef 25 = .ok (.if_icmp .ge 11, 3) := by decide +kernel
theorem dJ2_indexOf_4cfef_28 : decode cJ2_indexOf_4cfef 28 = .ok (.aload_n 0, 1) := by decide +kernel
theorem dJ2_indexOf_4cfef_29 : decode cJ2_indexOf_4cfef 29 = .ok (.iload_n 1, 1) := by decide +kernel
theorem dJ2_indexOf_4cfef_30 : decode cJ2_indexOf_4cfef 30 = .ok (.iload_n 2, 1) := by decide +kernel
theorem dJ2_indexOf_4cfef_31 : decode cJ2_indexOf_4cfef 31 = .ok (.iload_n 3, 1) := by decide +kernel
theorem dJ2_indexOf_4cfef_32 : decode cJ2_indexOf_4cfef 32 = .ok (.invokestatic 228, 3) := by decide +kernel
theorem dJ2_indexOf_4cfef_35 : decode cJ2_indexOf_4cfef 35 = .ok (.ireturn, 1) := by decide +kernel
theorem dJ2_indexOf_4cfef_36 : decode cJ2_indexOf_4cfef 36 = .ok (.aload_n 0, 1) := by decide +kernel
theorem dJ2_indexOf_4cfef_37 : decode cJ2_indexOf_4cfef 37 = .ok (.iload_n 1, 1) := by decide +kernel
theorem dJ2_indexOf_4cfef_38 : decode cJ2_indexOf_4cfef 38 = .ok (.iload_n 2, 1) := by decide +kernel
theorem dJ2_indexOf_4cfef_39 : decode cJ2_indexOf_4cfef 39 = .ok (.iload_n 3, 1) := by decide +kernel
theorem dJ2_indexOf_4cfef_40 : decode cJ2_indexOf_4cfef 40 = .ok (.invokestatic 232, 3) := by decide +kernel
theorem dJ2_indexOf_4cfef_43 : decode cJ2_indexOf_4cfef 43 = .ok (.ireturn, 1) := by decide +kernel
set_option maxRecDepth 20000 in
theorem ggJ2_indexOfChar_4cfef_J2_checkBoundsBeginEnd_d044e : GoodIn wsJ2_indexOfChar_4cfef wsJ2_checkBoundsBeginEnd_d044e := goodIn_r _ [4, 5, 6, 3, 7, 8, 9, 10, 11, 12, 13, 14, 15, 16] rfl (by decide +kernel)
set_option maxRecDepth 20000 in
theorem gJ2_indexOfChar_4cfef_J2_checkBoundsBeginEnd_d044e : GoodIn wsJ2_indexOfChar_4cfef (va_wsS RJ2 96 yJ2_checkBoundsBeginEnd_d044e wsJ2_checkBoundsBeginEnd_d044e) := goodIn_app (goodIn_r _ [1, 2, 3] rfl (by decide +kernel)) ggJ2_indexOfChar_4cfef_J2_checkBoundsBeginEnd_d044e
set_option maxRecDepth 20000 in
theorem ggJ2_indexOfChar_4cfef_J2_indexOfCharUnsafe_4cfef : GoodIn wsJ2_indexOfChar_4cfef wsJ2_indexOfCharUnsafe_4cfef := goodIn_r _ [19, 20, 21, 3, 22, 23, 24, 25, 5, 6, 7] rfl (by decide +kernel)
set_option maxRecDepth 20000 in
theorem gJ2_indexOfChar_4cfef_J2_indexOfCharUnsafe_4cfef : GoodIn wsJ2_indexOfChar_4cfef (va_wsS RJ2 244 yJ2_indexOfCharUnsafe_4cfef wsJ2_indexOfCharUnsafe_4cfef) := goodIn_app (goodIn_r _ [17, 18, 3] rfl (by decide +kernel)) ggJ2_indexOfChar_4cfef_J2_indexOfCharUnsafe_4cfef
theorem dJ2_indexOfChar_4cfef_0 : decode cJ2_indexOfChar_4cfef 0 = .ok (.iload_n 2, 1) := by decide +kernel
theorem dJ2_indexOfChar_4cfef_1 : decode cJ2_indexOfChar_4cfef 1 = .ok (.iload_n 3, 1) := by decide +kernel
theorem dJ2_indexOfChar_4cfef_2 : decode cJ2_indexOfChar_4cfef 2 = .ok (.aload_n 0, 1) := by decide +kernel
theorem dJ2_indexOfChar_4cfef_3 : decode cJ2_indexOfChar_4cfef 3 = .ok (.invokestatic 96, 3) := by decide +kernel
theorem dJ2_indexOfChar_4cfef_6 : decode cJ2_indexOfChar_4cfef 6 = .ok (.aload_n 0, 1) := by decide +kernel
theorem dJ2_indexOfChar_4cfef_7 : decode cJ2_indexOfChar_4cfef 7 = .ok (.iload_n 1, 1) := by decide +kernel
theorem dJ2_indexOfChar_4cfef_8 : decode cJ2_indexOfChar_4cfef 8 = .ok (.iload_n 2, 1) := by decide +kernel
theorem dJ2_indexOfChar_4cfef_9 : decode cJ2_indexOfChar_4cfef 9 = .ok (.iload_n 3, 1) := by decide +kernel
theorem dJ2_indexOfChar_4cfef_10 : decode cJ2_indexOfChar_4cfef 10 = .ok (.invokestatic 244, 3) := by decide +kernel
theorem dJ2_indexOfChar_4cfef_13 : decode cJ2_indexOfChar_4cfef 13 = .ok (.ireturn, 1) := by decide +kernel
set_option maxRecDepth 20000 in
theorem ggJ2_indexOfCharUnsafe_4cfef_J2_getChar_3b067 : GoodIn wsJ2_indexOfCharUnsafe_4cfef wsJ2_getChar_3b067 := goodIn_r _ [4, 5, 6, 7, 8, 9, 3, 10] rfl (by decide +kernel)
set_option maxRecDepth 20000 in
theorem gJ2_indexOfCharUnsafe_4cfef_J2_getChar_3b067 : GoodIn wsJ2_indexOfCharUnsafe_4cfef (va_wsS RJ2 71 yJ2_getChar_3b067 wsJ2_getChar_3b067) := goodIn_app (goodIn_r _ [1, 2, 3] rfl (by decide +kernel)) ggJ2_indexOfCharUnsafe_4cfef_J2_getChar_3b067
theorem dJ2_indexOfCharUnsafe_4cfef_0 : decode cJ2_indexOfCharUnsafe_4cfef 0 = .ok (.iload_n 2, 1) := by decide +kernel
theorem dJ2_indexOfCharUnsafe_4cfef_1 : decode cJ2_indexOfCharUnsafe_4cfef 1 = .ok (.istore 4, 2) := by decide +kernel
theorem dJ2_indexOfCharUnsafe_4cfef_3 : decode cJ2_indexOfCharUnsafe_4cfef 3 = .ok (.iload 4, 2) := by decide +kernel
theorem dJ2_indexOfCharUnsafe_4cfef_5 : decode cJ2_indexOfCharUnsafe_4cfef 5 = .ok (.iload_n 3, 1) := by decide +kernel
theorem dJ2_indexOfCharUnsafe_4cfef_6 : decode cJ2_indexOfCharUnsafe_4cfef 6 = .ok (.if_icmp .ge 22, 3) := by decide +kernel
theorem dJ2_indexOfCharUnsafe_4cfef_9 : decode cJ2_indexOfCharUnsafe_4cfef 9 = .ok (.aload_n 0, 1) := by decide +kernel
theorem dJ2_indexOfCharUnsafe_4cfef_10 : decode cJ2_indexOfCharUnsafe_4cfef 10 = .ok (.iload 4, 2) := by decide +kernel
theorem dJ2_indexOfCharUnsafe_4cfef_12 : decode cJ2_indexOfCharUnsafe_4cfef 12 = .ok (.invokestatic 71, 3) := by decide +kernel
theorem dJ2_indexOfCharUnsafe_4cfef_15 : decode cJ2_indexOfCharUnsafe_4cfef 15 = .ok (.iload_n 1, 1) := by decide +kernel
theorem dJ2_indexOfCharUnsafe_4cfef_16 : decode cJ2_indexOfCharUnsafe_4cfef 16 = .ok (.if_icmp .ne 6, 3) := by decide +kernel
theorem dJ2_indexOfCharUnsafe_4cfef_19 : decode cJ2_indexOfCharUnsafe_4cfef 19 = .ok (.iload 4, 2) := by decide +kernel
theorem dJ2_indexOfCharUnsafe_4cfef_21 : decode cJ2_indexOfCharUnsafe_4cfef 21 = .ok (.ireturn, 1) := by decide +kernel
theorem dJ2_indexOfCharUnsafe_4cfef_22 : decode cJ2_indexOfCharUnsafe_4cfef 22 = .ok (.iinc 4 1, 3) := by decide +kernel
theorem dJ2_indexOfCharUnsafe_4cfef_25 : decode cJ2_indexOfCharUnsafe_4cfef 25 = .ok (.goto (-22), 3) := by decide +kernel
theorem dJ2_indexOfCharUnsafe_4cfef_28 : decode cJ2_indexOfCharUnsafe_4cfef 28 = .ok (.iconst (-1), 1) := by decide +kernel
theorem dJ2_indexOfCharUnsafe_4cfef_29 : decode cJ2_indexOfCharUnsafe_4cfef 29 = .ok (.ireturn, 1) := by decide +kernel
set_option maxRecDepth 20000 in
theorem ggJ2_indexOfSupplementary_4cfef_J11_isValidCodePoint_9a6ad : GoodIn wsJ2_indexOfSupplementary_4cfef wsJ11_isValidCodePoint_9a6ad := goodIn_r _ [4] rfl (by decide +kernel)
set_option maxRecDepth 20000 in
theorem gJ2_indexOfSupplementary_4cfef_J11_isValidCodePoint_9a6ad : GoodIn wsJ2_indexOfSupplementary_4cfef (va_wsS RJ2 164 yJ11_isValidCodePoint_9a6ad wsJ11_isValidCodePoint_9a6ad) := goodIn_app (goodIn_r _ [1, 2, 3] rfl (by decide +kernel)) ggJ2_indexOfSupplementary_4cfef_J11_isValidCodePoint_9a6ad
set_option maxRecDepth 20000 in
theorem ggJ2_indexOfSupplementary_4cfef_J11_highSurrogate_5068e : GoodIn wsJ2_indexOfSupplementary_4cfef wsJ11_highSurrogate_5068e := goodIn_r _ [7, 8] rfl (by decide +kernel)
set_option maxRecDepth 20000 in
theorem gJ2_indexOfSupplementary_4cfef_J11_highSurrogate_5068e : GoodIn wsJ2_indexOfSupplementary_4cfef (va_wsS RJ2 157 yJ11_highSurrogate_5068e wsJ11_highSurrogate_5068e) := goodIn_app (goodIn_r _ [5, 6, 3] rfl (by decide +kernel)) ggJ2_indexOfSupplementary_4cfef_J11_highSurrogate_5068e
set_option maxRecDepth 20000 in
theorem ggJ2_indexOfSupplementary_4cfef_J11_lowSurrogate_5068e : GoodIn wsJ2_indexOfSupplementary_4cfef wsJ11_lowSurrogate_5068e := goodIn_r _ [11, 12] rfl (by decide +kernel)
set_option maxRecDepth 20000 in
theorem gJ2_indexOfSupplementary_4cfef_J11_lowSurrogate_5068e : GoodIn wsJ2_indexOfSupplementary_4cfef (va_wsS RJ2 161 yJ11_lowSurrogate_5068e wsJ11_lowSurrogate_5068e) := goodIn_app (goodIn_r _ [9, 10, 3] rfl (by decide +kernel)) ggJ2_indexOfSupplementary_4cfef_J11_lowSurrogate_5068e
set_option maxRecDepth 20000 in
theorem ggJ2_indexOfSupplementary_4cfef_J2_checkBoundsBeginEnd_d044e : GoodIn wsJ2_indexOfSupplementary_4cfef wsJ2_checkBoundsBeginEnd_d044e := goodIn_r _ [16, 17, 18, 15, 19, 20, 21, 22, 23, 24, 25, 26, 27, 28] rfl (by decide +kernel)
set_option maxRecDepth 20000 in
theorem gJ2_indexOfSupplementary_4cfef_J2_checkBoundsBeginEnd_d044e : GoodIn wsJ2_indexOfSupplementary_4cfef (va_wsS RJ2 96 yJ2_checkBoundsBeginEnd_d044e wsJ2_checkBoundsBeginEnd_d044e) := goodIn_app (goodIn_r _ [13, 14, 15] rfl (by decide +kernel)) ggJ2_indexOfSupplementary_4cfef_J2_checkBoundsBeginEnd_d044e
set_option maxRecDepth 20000 in
theorem ggJ2_indexOfSupplementary_4cfef_J2_getChar_3b067 : GoodIn wsJ2_indexOfSupplementary_4cfef wsJ2_getChar_3b067 := goodIn_r _ [31, 32, 33, 34, 17, 18, 15, 19] rfl (by decide +kernel)
set_option maxRecDepth 20000 in
theorem gJ2_indexOfSupplementary_4cfef_J2_getChar_3b067 : GoodIn wsJ2_indexOfSupplementary_4cfef (va_wsS RJ2 71 yJ2_getChar_3b067 wsJ2_getChar_3b067) := goodIn_app (goodIn_r _ [29, 30, 15] rfl (by decide +kernel)) ggJ2_indexOfSupplementary_4cfef_J2_getChar_3b067
theorem dJ2_indexOfSupplementary_4cfef_0 : decode cJ2_indexOfSupplementary_4cfef 0 = .ok (.iload_n 1, 1) := by decide +kernel
theorem dJ2_indexOfSupplementary_4cfef_1 : decode cJ2_indexOfSupplementary_4cfef 1 = .ok (.invokestatic 164, 3) := by decide +kernel
theorem dJ2_indexOfSupplementary_4cfef_4 : decode cJ2_indexOfSupplementary_4cfef 4 = .ok (.ifCond .eq 65, 3) := by decide +kernel
theorem dJ2_indexOfSupplementary_4cfef_7 : decode cJ2_indexOfSupplementary_4cfef 7 = .ok (.iload_n 1, 1) := by decide +kernel
theorem dJ2_indexOfSupplementary_4cfef_8 : decode cJ2_indexOfSupplementary_4cfef 8 = .ok (.invokestatic 157, 3) := by decide +kernel
theorem dJ2_indexOfSupplementary_4cfef_11 : decode cJ2_indexOfSupplementary_4cfef 11 = .ok (.istore 4, 2) := by decide +kernel
theorem dJ2_indexOfSupplementary_4cfef_13 : decode cJ2_indexOfSupplementary_4cfef 13 = .ok (.iload_n 1, 1) := by decide +kernel
theorem dJ2_indexOfSupplementary_4cfef_14 : decode cJ2_indexOfSupplementary_4cfef 14 = .ok (.invokestatic 161, 3) := by decide +kernel
theorem dJ2_indexOfSupplementary_4cfef_17 : decode cJ2_indexOfSupplementary_4cfef 17 = .ok (.istore 5, 2) := by decide +kernel
theorem dJ2_indexOfSupplementary_4cfef_19 : decode cJ2_indexOfSupplementary_4cfef 19 = .ok (.iload_n 2, 1) := by decide +kernel
theorem dJ2_indexOfSupplementary_4cfef_20 : decode cJ2_indexOfSupplementary_4cfef 20 = .ok (.iload_n 3, 1) := by decide +kernel
theorem dJ2_indexOfSupplementary_4cfef_21 : decode cJ2_indexOfSupplementary_4cfef 21 = .ok (.aload_n 0, 1) := by decide +kernel
theorem dJ2_indexOfSupplementary_4cfef_22 : decode cJ2_indexOfSupplementary_4cfef 22 = .ok (.invokestatic 96, 3) := by decide +kernel
theorem dJ2_indexOfSupplementary_4cfef_25 : decode cJ2_indexOfSupplementary_4cfef 25 = .ok (.iload_n 2, 1) := by decide +kernel
theorem dJ2_indexOfSupplementary_4cfef_26 : decode cJ2_indexOfSupplementary_4cfef 26 = .ok (.istore 6, 2) := by decide +kernel
theorem dJ2_indexOfSupplementary_4cfef_28 : decode cJ2_indexOfSupplementary_4cfef 28 = .ok (.iload 6, 2) := by decide +kernel
theorem dJ2_indexOfSupplementary_4cfef_30 : decode cJ2_indexOfSupplementary_4cfef 30 = .ok (.iload_n 3, 1) := by decide +kernel
theorem dJ2_indexOfSupplementary_4cfef_31 : decode cJ2_indexOfSupplementary_4cfef 31 = .ok (.iconst 1, 1) := by decide +kernel
theorem dJ2_indexOfSupplementary_4cfef_32 : decode cJ2_indexOfSupplementary_4cfef 32 = .ok (.isub, 1) := by decide +kernel
theorem dJ2_indexOfSupplementary_4cfef_33 : decode cJ2_indexOfSupplementary_4cfef 33 = .ok (.if_icmp .ge 36, 3) := by decide +kernel
theorem dJ2_indexOfSupplementary_4cfef_36 : decode cJ2_indexOfSupplementary_4cfef 36 = .ok (.aload_n 0, 1) := by decide +kernel
theorem dJ2_indexOfSupplementary_4cfef_37 : decode cJ2_indexOfSupplementary_4cfef 37 = .ok (.iload 6, 2) := by decide +kernel
theorem dJ2_indexOfSupplementary_4cfef_39 : decode cJ2_indexOfSupplementary_4cfef 39 = .ok (.invokestatic 71, 3) := by decide +kernel
theorem dJ2_indexOfSupplementary_4cfef_42 : decode cJ2_indexOfSupplementary_4cfef 42 = .ok (.iload 4, 2) := by decide +kernel
theorem dJ2_indexOfSupplementary_4cfef_44 : decode cJ2_indexOfSupplementary_4cfef 44 = .ok (.if_icmp .ne 19, 3) := by decide +kernel
theorem dJ2_indexOfSupplementary_4cfef_47 : decode cJ2_indexOfSupplementary_4cfef 47 = .ok (.aload_n 0, 1) := by decide +kernel
theorem dJ2_indexOfSupplementary_4cfef_48 : decode cJ2_indexOfSupplementary_4cfef 48 = .ok (.iload 6, 2) := by decide +kernel
theorem dJ2_indexOfSupplementary_4cfef_50 : decode cJ2_indexOfSupplementary_4cfef 50 = .ok (.iconst 1, 1) := by decide +kernel
theorem dJ2_indexOfSupplementary_4cfef_51 : decode cJ2_indexOfSupplementary_4cfef 51 = .ok (.iadd, 1) := by decide +kernel
theorem dJ2_indexOfSupplementary_4cfef_52 : decode cJ2_indexOfSupplementary_4cfef 52 = .ok (.invokestatic 71, 3) := by decide +kernel
theorem dJ2_indexOfSupplementary_4cfef_55 : decode cJ2_indexOfSupplementary_4cfef 55 = .ok (.iload 5, 2) := by decide +kernel
theorem dJ2_indexOfSupplementary_4cfef_57 : decode cJ2_indexOfSupplementary_4cfef 57 = .ok (.if_icmp .ne 6, 3) := by decide +kernel
theorem dJ2_indexOfSupplementary_4cfef_60 : decode cJ2_indexOfSupplementary_4cfef 60 = .ok (.iload 6, 2) := by decide +kernel
theorem dJ2_indexOfSupplementary_4cfef_62 : decode cJ2_indexOfSupplementary_4cfef 62 = .ok (.ireturn, 1) := by decide +kernel
theorem dJ2_indexOfSupplementary_4cfef_63 : decode cJ2_indexOfSupplementary_4cfef 63 = .ok (.iinc 6 1, 3) := by decide +kernel
theorem dJ2_indexOfSupplementary_4cfef_66 : decode cJ2_indexOfSupplementary_4cfef 66 = .ok (.goto (-38), 3) := by decide +kernel
theorem dJ2_indexOfSupplementary_4cfef_69 : decode cJ2_indexOfSupplementary_4cfef 69 = .ok (.iconst (-1), 1) := by decide +kernel
theorem dJ2_indexOfSupplementary_4cfef_70 : decode cJ2_indexOfSupplementary_4cfef 70 = .ok (.ireturn, 1) := by decide +kernel
set_option maxRecDepth 20000 in
theorem ggJ2_checkBoundsBeginEnd_d044e_J2_length_9d52b : GoodIn wsJ2_checkBoundsBeginEnd_d044e wsJ2_length_9d52b := goodIn_r _ [4] rfl (by decide +kernel)
set_option maxRecDepth 20000 in
theorem gJ2_checkBoundsBeginEnd_d044e_J2_length_9d52b : GoodIn wsJ2_checkBoundsBeginEnd_d044e (va_wsS RJ2 48 yJ2_length_9d52b wsJ2_length_9d52b) := goodIn_app (goodIn_r _ [1, 2, 3] rfl (by decide +kernel)) ggJ2_checkBoundsBeginEnd_d044e_J2_length_9d52b
set_option maxRecDepth 20000 in
theorem ggJ2_checkBoundsBeginEnd_d044e_J0_checkBoundsBeginEnd_23922 : GoodIn wsJ2_checkBoundsBeginEnd_d044e wsJ0_checkBoundsBeginEnd_23922 := goodIn_r _ [8, 9, 10, 11, 12, 13] rfl (by decide +kernel)
set_option maxRecDepth 20000 in
theorem gJ2_checkBoundsBeginEnd_d044e_J0_checkBoundsBeginEnd_23922 : GoodIn wsJ2_checkBoundsBeginEnd_d044e (va_wsS RJ2 241 yJ0_checkBoundsBeginEnd_23922 wsJ0_checkBoundsBeginEnd_23922) := goodIn_app (goodIn_r _ [5, 6, 7] rfl (by decide +kernel)) ggJ2_checkBoundsBeginEnd_d044e_J0_checkBoundsBeginEnd_23922
theorem dJ2_checkBoundsBeginEnd_d044e_0 : decode cJ2_checkBoundsBeginEnd_d044e 0 = .ok (.iload_n 0, 1) := by decide +kernel
theorem dJ2_checkBoundsBeginEnd_d044e_1 : decode cJ2_checkBoundsBeginEnd_d044e 1 = .ok (.iload_n 1, 1) := by decide +kernel
theorem dJ2_checkBoundsBeginEnd_d044e_2 : decode cJ2_checkBoundsBeginEnd_d044e 2 = .ok (.aload_n 2, 1) := by decide +kernel
theorem dJ2_checkBoundsBeginEnd_d044e_3 : decode cJ2_checkBoundsBeginEnd_d044e 3 = .ok (.invokestatic 48, 3) := by decide +kernel
theorem dJ2_checkBoundsBeginEnd_d044e_6 : decode cJ2_checkBoundsBeginEnd_d044e 6 = .ok (.invokestatic 241, 3) := by decide +kernel
theorem dJ2_checkBoundsBeginEnd_d044e_9 : decode cJ2_checkBoundsBeginEnd_d044e 9 = .ok (.return_, 1) := by decide +kernel
theorem dJ3_checkFromToIndex_8c36e_0 : decode cJ3_checkFromToIndex_8c36e 0 = .ok (.iload_n 0, 1) := by decide +kernel
theorem dJ3_checkFromToIndex_8c36e_1 : decode cJ3_checkFromToIndex_8c36e 1 = .ok (.ifCond .lt 13, 3) := by decide +kernel
theorem dJ3_checkFromToIndex_8c36e_4 : decode cJ3_checkFromToIndex_8c36e 4 = .ok (.iload_n 0, 1) := by decide +kernel
theorem dJ3_checkFromToIndex_8c36e_5 : decode cJ3_checkFromToIndex_8c36e 5 = .ok (.iload_n 1, 1) := by decide +kernel
theorem dJ3_checkFromToIndex_8c36e_6 : decode cJ3_checkFromToIndex_8c36e 6 = .ok (.if_icmp .gt 8, 3) := by decide +kernel
theorem dJ3_checkFromToIndex_8c36e_9 : decode cJ3_checkFromToIndex_8c36e 9 = .ok (.iload_n 1, 1) := by decide +kernel
theorem dJ3_checkFromToIndex_8c36e_10 : decode cJ3_checkFromToIndex_8c36e 10 = .ok (.iload_n 2, 1) := by decide +kernel
theorem dJ3_checkFromToIndex_8c36e_11 : decode cJ3_checkFromToIndex_8c36e 11 = .ok (.if_icmp .le 11, 3) := by decide +kernel
theorem dJ3_checkFromToIndex_8c36e_14 : decode cJ3_checkFromToIndex_8c36e 14 = .ok (.aload_n 3, 1) := by decide +kernel
theorem dJ3_checkFromToIndex_8c36e_15 : decode cJ3_checkFromToIndex_8c36e 15 = .ok (.iload_n 0, 1) := by decide +kernel
theorem dJ3_checkFromToIndex_8c36e_16 : decode cJ3_checkFromToIndex_8c36e 16 = .ok (.iload_n 1, 1) := by decide +kernel
theorem dJ3_checkFromToIndex_8c36e_17 : decode cJ3_checkFromToIndex_8c36e 17 = .ok (.iload_n 2, 1) := by decide +kernel
theorem dJ3_checkFromToIndex_8c36e_18 : decode cJ3_checkFromToIndex_8c36e 18 = .ok (.invokestatic 99, 3) := by decide +kernel
theorem dJ3_checkFromToIndex_8c36e_21 : decode cJ3_checkFromToIndex_8c36e 21 = .ok (.athrow, 1) := by decide +kernel
theorem dJ3_checkFromToIndex_8c36e_22 : decode cJ3_checkFromToIndex_8c36e 22 = .ok (.iload_n 0, 1) := by decide +kernel
theorem dJ3_checkFromToIndex_8c36e_23 : decode cJ3_checkFromToIndex_8c36e 23 = .ok (.ireturn, 1) := by decide +kernel
