theorem dX0_init_0 : decode cX0_init 0 = .ok (.aload_n 0, 1) := by decide +kernel
theorem dX0_init_1 : decode cX0_init 1 = .ok (.invokespecial 3, 3) := by decide +kernel
theorem dX0_init_4 : decode cX0_init 4 = .ok (.aload_n 0, 1) := by decide +kernel
theorem dX0_init_5 : decode cX0_init 5 = .ok (.bipush 60, 2) := by decide +kernel
theorem dX0_init_7 : decode cX0_init 7 = .ok (.newarray .int, 2) := by decide +kernel
theorem dX0_init_9 : decode cX0_init 9 = .ok (.putfield 9, 3) := by decide +kernel
theorem dX0_init_12 : decode cX0_init 12 = .ok (.aload_n 0, 1) := by decide +kernel
theorem dX0_init_13 : decode cX0_init 13 = .ok (.bipush 60, 2) := by decide +kernel
theorem dX0_init_15 : decode cX0_init 15 = .ok (.newarray .int, 2) := by decide +kernel
theorem dX0_init_17 : decode cX0_init 17 = .ok (.putfield 15, 3) := by decide +kernel
theorem dX0_init_20 : decode cX0_init 20 = .ok (.aload_n 0, 1) := by decide +kernel
theorem dX0_init_21 : decode cX0_init 21 = .ok (.bipush 60, 2) := by decide +kernel
theorem dX0_init_23 : decode cX0_init 23 = .ok (.newarray .int, 2) := by decide +kernel
theorem dX0_init_25 : decode cX0_init 25 = .ok (.putfield 18, 3) := by decide +kernel
theorem dX0_init_28 : decode cX0_init 28 = .ok (.aload_n 0, 1) := by decide +kernel
theorem dX0_init_29 : decode cX0_init 29 = .ok (.bipush 60, 2) := by decide +kernel
theorem dX0_init_31 : decode cX0_init 31 = .ok (.newarray .int, 2) := by decide +kernel
theorem dX0_init_33 : decode cX0_init 33 = .ok (.putfield 21, 3) := by decide +kernel
theorem dX0_init_36 : decode cX0_init 36 = .ok (.aload_n 0, 1) := by decide +kernel
theorem dX0_init_37 : decode cX0_init 37 = .ok (.bipush 60, 2) := by decide +kernel
theorem dX0_init_39 : decode cX0_init 39 = .ok (.newarray .int, 2) := by decide +kernel
theorem dX0_init_41 : decode cX0_init 41 = .ok (.putfield 24, 3) := by decide +kernel
theorem dX0_init_44 : decode cX0_init 44 = .ok (.aload_n 0, 1) := by decide +kernel
theorem dX0_init_45 : decode cX0_init 45 = .ok (.bipush 60, 2) := by decide +kernel
theorem dX0_init_47 : decode cX0_init 47 = .ok (.newarray .int, 2) := by decide +kernel
theorem dX0_init_49 : decode cX0_init 49 = .ok (.putfield 27, 3) := by decide +kernel
theorem dX0_init_52 : decode cX0_init 52 = .ok (.aload_n 0, 1) := by decide +kernel
theorem dX0_init_53 : decode cX0_init 53 = .ok (.bipush 61, 2) := by decide +kernel
theorem dX0_init_55 : decode cX0_init 55 = .ok (.newarray .int, 2) := by decide +kernel
theorem dX0_init_57 : decode cX0_init 57 = .ok (.putfield 30, 3) := by decide +kernel
theorem dX0_init_60 : decode cX0_init 60 = .ok (.aload_n 0, 1) := by decide +kernel
theorem dX0_init_61 : decode cX0_init 61 = .ok (.sipush 1220, 3) := by decide +kernel
theorem dX0_init_64 : decode cX0_init 64 = .ok (.newarray .int, 2) := by decide +kernel
theorem dX0_init_66 : decode cX0_init 66 = .ok (.putfield 33, 3) := by decide +kernel
theorem dX0_init_69 : decode cX0_init 69 = .ok (.aload_n 0, 1) := by decide +kernel
theorem dX0_init_70 : decode cX0_init 70 = .ok (.bipush 21, 2) := by decide +kernel
theorem dX0_init_72 : decode cX0_init 72 = .ok (.newarray .int, 2) := by decide +kernel
theorem dX0_init_74 : decode cX0_init 74 = .ok (.putfield 36, 3) := by decide +kernel
theorem dX0_init_77 : decode cX0_init 77 = .ok (.return_, 1) := by decide +kernel
theorem dX0_becomes_0 : decode cX0_becomes 0 = .ok (.aload_n 0, 1) := by decide +kernel
theorem dX0_becomes_1 : decode cX0_becomes 1 = .ok (.aload_n 1, 1) := by decide +kernel
theorem dX0_becomes_2 : decode cX0_becomes 2 = .ok (.getfield 39, 3) := by decide +kernel
theorem dX0_becomes_5 : decode cX0_becomes 5 = .ok (.putfield 39, 3) := by decide +kernel
theorem dX0_becomes_8 : decode cX0_becomes 8 = .ok (.aload_n 1, 1) := by decide +kernel
theorem dX0_becomes_9 : decode cX0_becomes 9 = .ok (.getfield 9, 3) := by decide +kernel
theorem dX0_becomes_12 : decode cX0_becomes 12 = .ok (.iconst 0, 1) := by decide +kernel
theorem dX0_becomes_13 : decode cX0_becomes 13 = .ok (.aload_n 0, 1) := by decide +kernel
theorem dX0_becomes_14 : decode cX0_becomes 14 = .ok (.getfield 9, 3) := by decide +kernel
theorem dX0_becomes_17 : decode cX0_becomes 17 = .ok (.iconst 0, 1) := by decide +kernel
theorem dX0_becomes_18 : decode cX0_becomes 18 = .ok (.aload_n 0, 1) := by decide +kernel
theorem dX0_becomes_19 : decode cX0_becomes 19 = .ok (.getfield 39, 3) := by decide +kernel
theorem dX0_becomes_22 : decode cX0_becomes 22 = .ok (.invokestatic 43, 3) := by decide +kernel
theorem dX0_becomes_25 : decode cX0_becomes 25 = .ok (.aload_n 1, 1) := by decide +kernel
theorem dX0_becomes_26 : decode cX0_becomes 26 = .ok (.getfield 15, 3) := by decide +kernel
theorem dX0_becomes_29 : decode cX0_becomes 29 = .ok (.iconst 0, 1) := by decide +kernel
theorem dX0_becomes_30 : decode cX0_becomes 30 = .ok (.aload_n 0, 1) := by decide +kernel
theorem dX0_becomes_31 : decode cX0_becomes 31 = .ok (.getfield 15, 3) := by decide +kernel
theorem dX0_becomes_34 : decode cX0_becomes 34 = .ok (.iconst 0, 1) := by decide +kernel
theorem dX0_becomes_35 : decode cX0_becomes 35 = .ok (.aload_n 0, 1) := by decide +kernel
theorem dX0_becomes_36 : decode cX0_becomes 36 = .ok (.getfield 39, 3) := by decide +kernel
theorem dX0_becomes_39 : decode cX0_becomes 39 = .ok (.invokestatic 43, 3) := by decide +kernel
theorem dX0_becomes_42 : decode cX0_becomes 42 = .ok (.aload_n 1, 1) := by decide +kernel
theorem dX0_becomes_43 : decode cX0_becomes 43 = .ok (.getfield 18, 3) := by decide +kernel
theorem dX0_becomes_46 : decode cX0_becomes 46 = .ok (.iconst 0, 1) := by decide +kernel
theorem dX0_becomes_47 : decode cX0_becomes 47 = .ok (.aload_n 0, 1) := by decide +kernel
theorem dX0_becomes_48 : decode cX0_becomes 48 = .ok (.getfield 18, 3) := by decide +kernel
theorem dX0_becomes_51 : decode cX0_becomes 51 = .ok (.iconst 0, 1) := by decide +kernel
theorem dX0_becomes_52 : decode cX0_becomes 52 = .ok (.aload_n 0, 1) := by decide +kernel
theorem dX0_becomes_53 : decode cX0_becomes 53 = .ok (.getfield 39, 3) := by decide +kernel
theorem dX0_becomes_56 : decode cX0_becomes 56 = .ok (.invokestatic 43, 3) := by decide +kernel
theorem dX0_becomes_59 : decode cX0_becomes 59 = .ok (.aload_n 1, 1) := by decide +kernel
theorem dX0_becomes_60 : decode cX0_becomes 60 = .ok (.getfield 21, 3) := by decide +kernel
theorem dX0_becomes_63 : decode cX0_becomes 63 = .ok (.iconst 0, 1) := by decide +kernel
theorem dX0_becomes_64 : decode cX0_becomes 64 = .ok (.aload_n 0, 1) := by decide +kernel
theorem dX0_becomes_65 : decode cX0_becomes 65 = .ok (.getfield 21, 3) := by decide +kernel
theorem dX0_becomes_68 : decode cX0_becomes 68 = .ok (.iconst 0, 1) := by decide +kernel
theorem dX0_becomes_69 : decode cX0_becomes 69 = .ok (.aload_n 0, 1) := by decide +kernel
theorem dX0_becomes_70 : decode cX0_becomes 70 = .ok (.getfield 39, 3) := by decide +kernel
theorem dX0_becomes_73 : decode cX0_becomes 73 = .ok (.invokestatic 43, 3) := by decide +kernel
theorem dX0_becomes_76 : decode cX0_becomes 76 = .ok (.aload_n 1, 1) := by decide +kernel
theorem dX0_becomes_77 : decode cX0_becomes 77 = .ok (.getfield 24, 3) := by decide +kernel
theorem dX0_becomes_80 : decode cX0_becomes 80 = .ok (.iconst 0, 1) := by decide +kernel
theorem dX0_becomes_81 : decode cX0_becomes 81 = .ok (.aload_n 0, 1) := by decide +kernel
theorem dX0_becomes_82 : decode cX0_becomes 82 = .ok (.getfield 24, 3) := by decide +kernel
theorem dX0_becomes_85 : decode cX0_becomes 85 = .ok (.iconst 0, 1) := by decide +kernel
theorem dX0_becomes_86 : decode cX0_becomes 86 = .ok (.aload_n 0, 1) := by decide +kernel
theorem dX0_becomes_87 : decode cX0_becomes 87 = .ok (.getfield 39, 3) := by decide +kernel
theorem dX0_becomes_90 : decode cX0_becomes 90 = .ok (.invokestatic 43, 3) := by decide +kernel
theorem dX0_becomes_93 : decode cX0_becomes 93 = .ok (.aload_n 1, 1) := by decide +kernel
theorem dX0_becomes_94 : decode cX0_becomes 94 = .ok (.getfield 27, 3) := by decide +kernel
theorem dX0_becomes_97 : decode cX0_becomes 97 = .ok (.iconst 0, 1) := by decide +kernel
theorem dX0_becomes_98 : decode cX0_becomes 98 = .ok (.aload_n 0, 1) := by decide +kernel
theorem dX0_becomes_99 : decode cX0_becomes 99 = .ok (.getfield 27, 3) := by decide +kernel
theorem dX0_becomes_102 : decode cX0_becomes 102 = .ok (.iconst 0, 1) := by decide +kernel
theorem dX0_becomes_103 : decode cX0_becomes 103 = .ok (.aload_n 0, 1) := by decide +kernel
theorem dX0_becomes_104 : decode cX0_becomes 104 = .ok (.getfield 39, 3) := by decide +kernel
theorem dX0_becomes_107 : decode cX0_becomes 107 = .ok (.invokestatic 43, 3) := by decide +kernel
theorem dX0_becomes_110 : decode cX0_becomes 110 = .ok (.aload_n 1, 1) := by decide +kernel
theorem dX0_becomes_111 : decode cX0_becomes 111 = .ok (.getfield 30, 3) := by decide +kernel
theorem dX0_becomes_114 : decode cX0_becomes 114 = .ok (.iconst 0, 1) := by decide +kernel
theorem dX0_becomes_115 : decode cX0_becomes 115 = .ok (.aload_n 0, 1) := by decide +kernel
theorem dX0_becomes_116 : decode cX0_becomes 116 = .ok (.getfield 30, 3) := by decide +kernel
theorem dX0_becomes_119 : decode cX0_becomes 119 = .ok (.iconst 0, 1) := by decide +kernel
theorem dX0_becomes_120 : decode cX0_becomes 120 = .ok (.aload_n 0, 1) := by decide +kernel
theorem dX0_becomes_121 : decode cX0_becomes 121 = .ok (.getfield 39, 3) := by decide +kernel
theorem dX0_becomes_124 : decode cX0_becomes 124 = .ok (.iconst 1, 1) := by decide +kernel
theorem dX0_becomes_125 : decode cX0_becomes 125 = .ok (.iadd, 1) := by decide +kernel
theorem dX0_becomes_126 : decode cX0_becomes 126 = .ok (.invokestatic 43, 3) := by decide +kernel
theorem dX0_becomes_129 : decode cX0_becomes 129 = .ok (.aload_n 1, 1) := by decide +kernel
theorem dX0_becomes_130 : decode cX0_becomes 130 = .ok (.getfield 33, 3) := by decide +kernel
theorem dX0_becomes_133 : decode cX0_becomes 133 = .ok (.iconst 0, 1) := by decide +kernel
theorem dX0_becomes_134 : decode cX0_becomes 134 = .ok (.aload_n 0, 1) := by decide +kernel
theorem dX0_becomes_135 : decode cX0_becomes 135 = .ok (.getfield 33, 3) := by decide +kernel
theorem dX0_becomes_138 : decode cX0_becomes 138 = .ok (.iconst 0, 1) := by decide +kernel
theorem dX0_becomes_139 : decode cX0_becomes 139 = .ok (.aload_n 0, 1) := by decide +kernel
theorem dX0_becomes_140 : decode cX0_becomes 140 = .ok (.getfield 39, 3) := by decide +kernel
theorem dX0_becomes_143 : decode cX0_becomes 143 = .ok (.iconst 1, 1) := by decide +kernel
theorem dX0_becomes_144 : decode cX0_becomes 144 = .ok (.iadd, 1) := by decide +kernel
theorem dX0_becomes_145 : decode cX0_becomes 145 = .ok (.bipush 20, 2) := by decide +kernel
theorem dX0_becomes_147 : decode cX0_becomes 147 = .ok (.imul, 1) := by decide +kernel
theorem dX0_becomes_148 : decode cX0_becomes 148 = .ok (.invokestatic 43, 3) := by decide +kernel
theorem dX0_becomes_151 : decode cX0_becomes 151 = .ok (.return_, 1) := by decide +kernel
theorem dX0_hasRoom_0 : decode cX0_hasRoom 0 = .ok (.aload_n 0, 1) := by decide +kernel
theorem dX0_hasRoom_1 : decode cX0_hasRoom 1 = .ok (.getfield 39, 3) := by decide +kernel
theorem dX0_hasRoom_4 : decode cX0_hasRoom 4 = .ok (.bipush 60, 2) := by decide +kernel
theorem dX0_hasRoom_6 : decode cX0_hasRoom 6 = .ok (.if_icmp .ge 7, 3) := by decide +kernel
theorem dX0_hasRoom_9 : decode cX0_hasRoom 9 = .ok (.iconst 1, 1) := by decide +kernel
theorem dX0_hasRoom_10 : decode cX0_hasRoom 10 = .ok (.goto 4, 3) := by decide +kernel
theorem dX0_hasRoom_13 : decode cX0_hasRoom 13 = .ok (.iconst 0, 1) := by decide +kernel
theorem dX0_hasRoom_14 : decode cX0_hasRoom 14 = .ok (.ireturn, 1) := by decide +kernel
theorem dX0_pageSize_0 : decode cX0_pageSize 0 = .ok (.aload_n 0, 1) := by decide +kernel
theorem dX0_pageSize_1 : decode cX0_pageSize 1 = .ok (.getfield 30, 3) := by decide +kernel
theorem dX0_pageSize_4 : decode cX0_pageSize 4 = .ok (.aload_n 0, 1) := by decide +kernel
theorem dX0_pageSize_5 : decode cX0_pageSize 5 = .ok (.getfield 39, 3) := by decide +kernel
theorem dX0_pageSize_8 : decode cX0_pageSize 8 = .ok (.iaload, 1) := by decide +kernel
theorem dX0_pageSize_9 : decode cX0_pageSize 9 = .ok (.ireturn, 1) := by decide +kernel
theorem dX0_wordAt_0 : decode cX0_wordAt 0 = .ok (.aload_n 0, 1) := by decide +kernel
theorem dX0_wordAt_1 : decode cX0_wordAt 1 = .ok (.getfield 33, 3) := by decide +kernel
theorem dX0_wordAt_4 : decode cX0_wordAt 4 = .ok (.iload_n 1, 1) := by decide +kernel
theorem dX0_wordAt_5 : decode cX0_wordAt 5 = .ok (.bipush 20, 2) := by decide +kernel
theorem dX0_wordAt_7 : decode cX0_wordAt 7 = .ok (.imul, 1) := by decide +kernel
theorem dX0_wordAt_8 : decode cX0_wordAt 8 = .ok (.iload_n 2, 1) := by decide +kernel
theorem dX0_wordAt_9 : decode cX0_wordAt 9 = .ok (.iadd, 1) := by decide +kernel
theorem dX0_wordAt_10 : decode cX0_wordAt 10 = .ok (.iaload, 1) := by decide +kernel
theorem dX0_wordAt_11 : decode cX0_wordAt 11 = .ok (.bipush 63, 2) := by decide +kernel
theorem dX0_wordAt_13 : decode cX0_wordAt 13 = .ok (.iand, 1) := by decide +kernel
theorem dX0_wordAt_14 : decode cX0_wordAt 14 = .ok (.ireturn, 1) := by decide +kernel
theorem dX0_originAt_0 : decode cX0_originAt 0 = .ok (.aload_n 0, 1) := by decide +kernel
theorem dX0_originAt_1 : decode cX0_originAt 1 = .ok (.getfield 33, 3) := by decide +kernel
theorem dX0_originAt_4 : decode cX0_originAt 4 = .ok (.iload_n 1, 1) := by decide +kernel
theorem dX0_originAt_5 : decode cX0_originAt 5 = .ok (.bipush 20, 2) := by decide +kernel
theorem dX0_originAt_7 : decode cX0_originAt 7 = .ok (.imul, 1) := by decide +kernel
theorem dX0_originAt_8 : decode cX0_originAt 8 = .ok (.iload_n 2, 1) := by decide +kernel
theorem dX0_originAt_9 : decode cX0_originAt 9 = .ok (.iadd, 1) := by decide +kernel
theorem dX0_originAt_10 : decode cX0_originAt 10 = .ok (.iaload, 1) := by decide +kernel
theorem dX0_originAt_11 : decode cX0_originAt 11 = .ok (.bipush 6, 2) := by decide +kernel
theorem dX0_originAt_13 : decode cX0_originAt 13 = .ok (.ishr, 1) := by decide +kernel
theorem dX0_originAt_14 : decode cX0_originAt 14 = .ok (.ireturn, 1) := by decide +kernel
set_option maxRecDepth 20000 in
theorem ggX0_draftsSame_X0_draftsHalf : GoodIn wsX0_draftsSame wsX0_draftsHalf := goodIn_r _ [6, 1, 7, 8, 9, 10, 11, 12, 13, 14, 15, 16, 17, 18, 19, 20, 21, 22, 23, 24, 25, 26, 27, 28, 29] rfl (by decide +kernel)
set_option maxRecDepth 20000 in
theorem gX0_draftsSame_X0_draftsHalf : GoodIn wsX0_draftsSame (wsV RX0 49 RX0 yX0_draftsHalf wsX0_draftsHalf) := goodIn_app (goodIn_r _ [2, 3, 4, 5] rfl (by decide +kernel)) ggX0_draftsSame_X0_draftsHalf
theorem dX0_draftsSame_0 : decode cX0_draftsSame 0 = .ok (.aload_n 0, 1) := by decide +kernel
theorem dX0_draftsSame_1 : decode cX0_draftsSame 1 = .ok (.aload_n 0, 1) := by decide +kernel
theorem dX0_draftsSame_2 : decode cX0_draftsSame 2 = .ok (.getfield 39, 3) := by decide +kernel
theorem dX0_draftsSame_5 : decode cX0_draftsSame 5 = .ok (.bipush 20, 2) := by decide +kernel
theorem dX0_draftsSame_7 : decode cX0_draftsSame 7 = .ok (.invokevirtual 49, 3) := by decide +kernel
theorem dX0_draftsSame_10 : decode cX0_draftsSame 10 = .ok (.return_, 1) := by decide +kernel
theorem dX0_draftsPutting_0 : decode cX0_draftsPutting 0 = .ok (.aload_n 0, 1) := by decide +kernel
theorem dX0_draftsPutting_1 : decode cX0_draftsPutting 1 = .ok (.getfield 39, 3) := by decide +kernel
theorem dX0_draftsPutting_4 : decode cX0_draftsPutting 4 = .ok (.bipush 20, 2) := by decide +kernel
theorem dX0_draftsPutting_6 : decode cX0_draftsPutting 6 = .ok (.imul, 1) := by decide +kernel
theorem dX0_draftsPutting_7 : decode cX0_draftsPutting 7 = .ok (.istore_n 3, 1) := by decide +kernel
theorem dX0_draftsPutting_8 : decode cX0_draftsPutting 8 = .ok (.iload_n 3, 1) := by decide +kernel
theorem dX0_draftsPutting_9 : decode cX0_draftsPutting 9 = .ok (.bipush 20, 2) := by decide +kernel
theorem dX0_draftsPutting_11 : decode cX0_draftsPutting 11 = .ok (.iadd, 1) := by decide +kernel
theorem dX0_draftsPutting_12 : decode cX0_draftsPutting 12 = .ok (.istore 4, 2) := by decide +kernel
theorem dX0_draftsPutting_14 : decode cX0_draftsPutting 14 = .ok (.aload_n 0, 1) := by decide +kernel
theorem dX0_draftsPutting_15 : decode cX0_draftsPutting 15 = .ok (.getfield 30, 3) := by decide +kernel
theorem dX0_draftsPutting_18 : decode cX0_draftsPutting 18 = .ok (.aload_n 0, 1) := by decide +kernel
theorem dX0_draftsPutting_19 : decode cX0_draftsPutting 19 = .ok (.getfield 39, 3) := by decide +kernel
theorem dX0_draftsPutting_22 : decode cX0_draftsPutting 22 = .ok (.iaload, 1) := by decide +kernel
theorem dX0_draftsPutting_23 : decode cX0_draftsPutting 23 = .ok (.istore 5, 2) := by decide +kernel
theorem dX0_draftsPutting_25 : decode cX0_draftsPutting 25 = .ok (.aload_n 0, 1) := by decide +kernel
theorem dX0_draftsPutting_26 : decode cX0_draftsPutting 26 = .ok (.getfield 33, 3) := by decide +kernel
theorem dX0_draftsPutting_29 : decode cX0_draftsPutting 29 = .ok (.iload_n 3, 1) := by decide +kernel
theorem dX0_draftsPutting_30 : decode cX0_draftsPutting 30 = .ok (.aload_n 0, 1) := by decide +kernel
theorem dX0_draftsPutting_31 : decode cX0_draftsPutting 31 = .ok (.getfield 33, 3) := by decide +kernel
theorem dX0_draftsPutting_34 : decode cX0_draftsPutting 34 = .ok (.iload 4, 2) := by decide +kernel
theorem dX0_draftsPutting_36 : decode cX0_draftsPutting 36 = .ok (.iload_n 1, 1) := by decide +kernel
theorem dX0_draftsPutting_37 : decode cX0_draftsPutting 37 = .ok (.invokestatic 43, 3) := by decide +kernel
theorem dX0_draftsPutting_40 : decode cX0_draftsPutting 40 = .ok (.aload_n 0, 1) := by decide +kernel
theorem dX0_draftsPutting_41 : decode cX0_draftsPutting 41 = .ok (.getfield 33, 3) := by decide +kernel
theorem dX0_draftsPutting_44 : decode cX0_draftsPutting 44 = .ok (.iload_n 3, 1) := by decide +kernel
theorem dX0_draftsPutting_45 : decode cX0_draftsPutting 45 = .ok (.iload_n 1, 1) := by decide +kernel
theorem dX0_draftsPutting_46 : decode cX0_draftsPutting 46 = .ok (.iadd, 1) := by decide +kernel
theorem dX0_draftsPutting_47 : decode cX0_draftsPutting 47 = .ok (.aload_n 0, 1) := by decide +kernel
theorem dX0_draftsPutting_48 : decode cX0_draftsPutting 48 = .ok (.getfield 33, 3) := by decide +kernel
theorem dX0_draftsPutting_51 : decode cX0_draftsPutting 51 = .ok (.iload 4, 2) := by decide +kernel
theorem dX0_draftsPutting_53 : decode cX0_draftsPutting 53 = .ok (.iload_n 1, 1) := by decide +kernel
theorem dX0_draftsPutting_54 : decode cX0_draftsPutting 54 = .ok (.iadd, 1) := by decide +kernel
theorem dX0_draftsPutting_55 : decode cX0_draftsPutting 55 = .ok (.iconst 1, 1) := by decide +kernel
theorem dX0_draftsPutting_56 : decode cX0_draftsPutting 56 = .ok (.iadd, 1) := by decide +kernel
theorem dX0_draftsPutting_57 : decode cX0_draftsPutting 57 = .ok (.iload 5, 2) := by decide +kernel
theorem dX0_draftsPutting_59 : decode cX0_draftsPutting 59 = .ok (.iload_n 1, 1) := by decide +kernel
theorem dX0_draftsPutting_60 : decode cX0_draftsPutting 60 = .ok (.isub, 1) := by decide +kernel
theorem dX0_draftsPutting_61 : decode cX0_draftsPutting 61 = .ok (.invokestatic 43, 3) := by decide +kernel
theorem dX0_draftsPutting_64 : decode cX0_draftsPutting 64 = .ok (.aload_n 0, 1) := by decide +kernel
theorem dX0_draftsPutting_65 : decode cX0_draftsPutting 65 = .ok (.getfield 33, 3) := by decide +kernel
theorem dX0_draftsPutting_68 : decode cX0_draftsPutting 68 = .ok (.iload 4, 2) := by decide +kernel
theorem dX0_draftsPutting_70 : decode cX0_draftsPutting 70 = .ok (.iload_n 1, 1) := by decide +kernel
theorem dX0_draftsPutting_71 : decode cX0_draftsPutting 71 = .ok (.iadd, 1) := by decide +kernel
theorem dX0_draftsPutting_72 : decode cX0_draftsPutting 72 = .ok (.aload_n 0, 1) := by decide +kernel
theorem dX0_draftsPutting_73 : decode cX0_draftsPutting 73 = .ok (.getfield 39, 3) := by decide +kernel
theorem dX0_draftsPutting_76 : decode cX0_draftsPutting 76 = .ok (.bipush 6, 2) := by decide +kernel
theorem dX0_draftsPutting_78 : decode cX0_draftsPutting 78 = .ok (.ishl, 1) := by decide +kernel
theorem dX0_draftsPutting_79 : decode cX0_draftsPutting 79 = .ok (.iload_n 2, 1) := by decide +kernel
theorem dX0_draftsPutting_80 : decode cX0_draftsPutting 80 = .ok (.ior, 1) := by decide +kernel
theorem dX0_draftsPutting_81 : decode cX0_draftsPutting 81 = .ok (.iastore, 1) := by decide +kernel
theorem dX0_draftsPutting_82 : decode cX0_draftsPutting 82 = .ok (.aload_n 0, 1) := by decide +kernel
theorem dX0_draftsPutting_83 : decode cX0_draftsPutting 83 = .ok (.getfield 30, 3) := by decide +kernel
theorem dX0_draftsPutting_86 : decode cX0_draftsPutting 86 = .ok (.aload_n 0, 1) := by decide +kernel
theorem dX0_draftsPutting_87 : decode cX0_draftsPutting 87 = .ok (.getfield 39, 3) := by decide +kernel
theorem dX0_draftsPutting_90 : decode cX0_draftsPutting 90 = .ok (.iconst 1, 1) := by decide +kernel
theorem dX0_draftsPutting_91 : decode cX0_draftsPutting 91 = .ok (.iadd, 1) := by decide +kernel
theorem dX0_draftsPutting_92 : decode cX0_draftsPutting 92 = .ok (.iload 5, 2) := by decide +kernel
theorem dX0_draftsPutting_94 : decode cX0_draftsPutting 94 = .ok (.iconst 1, 1) := by decide +kernel
theorem dX0_draftsPutting_95 : decode cX0_draftsPutting 95 = .ok (.iadd, 1) := by decide +kernel
theorem dX0_draftsPutting_96 : decode cX0_draftsPutting 96 = .ok (.iastore, 1) := by decide +kernel
theorem dX0_draftsPutting_97 : decode cX0_draftsPutting 97 = .ok (.return_, 1) := by decide +kernel
set_option maxRecDepth 20000 in
theorem ggX0_draftsMending_X0_draftsHalf : GoodIn wsX0_draftsMending wsX0_draftsHalf := goodIn_r _ [7, 1, 8, 9, 10, 11, 12, 13, 14, 15, 2, 16, 17, 18, 19, 20, 21, 22, 23, 24, 25, 26, 27, 28, 29] rfl (by decide +kernel)
set_option maxRecDepth 20000 in
theorem gX0_draftsMending_X0_draftsHalf : GoodIn wsX0_draftsMending (wsV RX0 49 RX0 yX0_draftsHalf wsX0_draftsHalf) := goodIn_app (goodIn_r _ [3, 4, 5, 6] rfl (by decide +kernel)) ggX0_draftsMending_X0_draftsHalf
theorem dX0_draftsMending_0 : decode cX0_draftsMending 0 = .ok (.aload_n 0, 1) := by decide +kernel
theorem dX0_draftsMending_1 : decode cX0_draftsMending 1 = .ok (.aload_n 0, 1) := by decide +kernel
theorem dX0_draftsMending_2 : decode cX0_draftsMending 2 = .ok (.getfield 39, 3) := by decide +kernel
theorem dX0_draftsMending_5 : decode cX0_draftsMending 5 = .ok (.bipush 20, 2) := by decide +kernel
theorem dX0_draftsMending_7 : decode cX0_draftsMending 7 = .ok (.invokevirtual 49, 3) := by decide +kernel
theorem dX0_draftsMending_10 : decode cX0_draftsMending 10 = .ok (.aload_n 0, 1) := by decide +kernel
theorem dX0_draftsMending_11 : decode cX0_draftsMending 11 = .ok (.getfield 33, 3) := by decide +kernel
theorem dX0_draftsMending_14 : decode cX0_draftsMending 14 = .ok (.aload_n 0, 1) := by decide +kernel
theorem dX0_draftsMending_15 : decode cX0_draftsMending 15 = .ok (.getfield 39, 3) := by decide +kernel
theorem dX0_draftsMending_18 : decode cX0_draftsMending 18 = .ok (.iconst 1, 1) := by decide +kernel
theorem dX0_draftsMending_19 : decode cX0_draftsMending 19 = .ok (.iadd, 1) := by decide +kernel
theorem dX0_draftsMending_20 : decode cX0_draftsMending 20 = .ok (.bipush 20, 2) := by decide +kernel
theorem dX0_draftsMending_22 : decode cX0_draftsMending 22 = .ok (.imul, 1) := by decide +kernel
theorem dX0_draftsMending_23 : decode cX0_draftsMending 23 = .ok (.iload_n 1, 1) := by decide +kernel
theorem dX0_draftsMending_24 : decode cX0_draftsMending 24 = .ok (.iadd, 1) := by decide +kernel
theorem dX0_draftsMending_25 : decode cX0_draftsMending 25 = .ok (.aload_n 0, 1) := by decide +kernel
theorem dX0_draftsMending_26 : decode cX0_draftsMending 26 = .ok (.getfield 39, 3) := by decide +kernel
theorem dX0_draftsMending_29 : decode cX0_draftsMending 29 = .ok (.bipush 6, 2) := by decide +kernel
theorem dX0_draftsMending_31 : decode cX0_draftsMending 31 = .ok (.ishl, 1) := by decide +kernel
theorem dX0_draftsMending_32 : decode cX0_draftsMending 32 = .ok (.iload_n 2, 1) := by decide +kernel
theorem dX0_draftsMending_33 : decode cX0_draftsMending 33 = .ok (.ior, 1) := by decide +kernel
theorem dX0_draftsMending_34 : decode cX0_draftsMending 34 = .ok (.iastore, 1) := by decide +kernel
theorem dX0_draftsMending_35 : decode cX0_draftsMending 35 = .ok (.return_, 1) := by decide +kernel
theorem dX0_draftsTakingOut_0 : decode cX0_draftsTakingOut 0 = .ok (.aload_n 0, 1) := by decide +kernel
theorem dX0_draftsTakingOut_1 : decode cX0_draftsTakingOut 1 = .ok (.getfield 39, 3) := by decide +kernel
theorem dX0_draftsTakingOut_4 : decode cX0_draftsTakingOut 4 = .ok (.bipush 20, 2) := by decide +kernel
theorem dX0_draftsTakingOut_6 : decode cX0_draftsTakingOut 6 = .ok (.imul, 1) := by decide +kernel
theorem dX0_draftsTakingOut_7 : decode cX0_draftsTakingOut 7 = .ok (.istore_n 2, 1) := by decide +kernel
theorem dX0_draftsTakingOut_8 : decode cX0_draftsTakingOut 8 = .ok (.iload_n 2, 1) := by decide +kernel
theorem dX0_draftsTakingOut_9 : decode cX0_draftsTakingOut 9 = .ok (.bipush 20, 2) := by decide +kernel
theorem dX0_draftsTakingOut_11 : decode cX0_draftsTakingOut 11 = .ok (.iadd, 1) := by decide +kernel
theorem dX0_draftsTakingOut_12 : decode cX0_draftsTakingOut 12 = .ok (.istore_n 3, 1) := by decide +kernel
theorem dX0_draftsTakingOut_13 : decode cX0_draftsTakingOut 13 = .ok (.aload_n 0, 1) := by decide +kernel
theorem dX0_draftsTakingOut_14 : decode cX0_draftsTakingOut 14 = .ok (.getfield 30, 3) := by decide +kernel
theorem dX0_draftsTakingOut_17 : decode cX0_draftsTakingOut 17 = .ok (.aload_n 0, 1) := by decide +kernel
theorem dX0_draftsTakingOut_18 : decode cX0_draftsTakingOut 18 = .ok (.getfield 39, 3) := by decide +kernel
theorem dX0_draftsTakingOut_21 : decode cX0_draftsTakingOut 21 = .ok (.iaload, 1) := by decide +kernel
theorem dX0_draftsTakingOut_22 : decode cX0_draftsTakingOut 22 = .ok (.istore 4, 2) := by decide +kernel
theorem dX0_draftsTakingOut_24 : decode cX0_draftsTakingOut 24 = .ok (.aload_n 0, 1) := by decide +kernel
theorem dX0_draftsTakingOut_25 : decode cX0_draftsTakingOut 25 = .ok (.getfield 33, 3) := by decide +kernel
theorem dX0_draftsTakingOut_28 : decode cX0_draftsTakingOut 28 = .ok (.iload_n 2, 1) := by decide +kernel
theorem dX0_draftsTakingOut_29 : decode cX0_draftsTakingOut 29 = .ok (.aload_n 0, 1) := by decide +kernel
theorem dX0_draftsTakingOut_30 : decode cX0_draftsTakingOut 30 = .ok (.getfield 33, 3) := by decide +kernel
theorem dX0_draftsTakingOut_33 : decode cX0_draftsTakingOut 33 = .ok (.iload_n 3, 1) := by decide +kernel
theorem dX0_draftsTakingOut_34 : decode cX0_draftsTakingOut 34 = .ok (.iload_n 1, 1) := by decide +kernel
theorem dX0_draftsTakingOut_35 : decode cX0_draftsTakingOut 35 = .ok (.invokestatic 43, 3) := by decide +kernel
theorem dX0_draftsTakingOut_38 : decode cX0_draftsTakingOut 38 = .ok (.aload_n 0, 1) := by decide +kernel
theorem dX0_draftsTakingOut_39 : decode cX0_draftsTakingOut 39 = .ok (.getfield 33, 3) := by decide +kernel
theorem dX0_draftsTakingOut_42 : decode cX0_draftsTakingOut 42 = .ok (.iload_n 2, 1) := by decide +kernel
theorem dX0_draftsTakingOut_43 : decode cX0_draftsTakingOut 43 = .ok (.iload_n 1, 1) := by decide +kernel
theorem dX0_draftsTakingOut_44 : decode cX0_draftsTakingOut 44 = .ok (.iadd, 1) := by decide +kernel
theorem dX0_draftsTakingOut_45 : decode cX0_draftsTakingOut 45 = .ok (.iconst 1, 1) := by decide +kernel
theorem dX0_draftsTakingOut_46 : decode cX0_draftsTakingOut 46 = .ok (.iadd, 1) := by decide +kernel
theorem dX0_draftsTakingOut_47 : decode cX0_draftsTakingOut 47 = .ok (.aload_n 0, 1) := by decide +kernel
theorem dX0_draftsTakingOut_48 : decode cX0_draftsTakingOut 48 = .ok (.getfield 33, 3) := by decide +kernel
theorem dX0_draftsTakingOut_51 : decode cX0_draftsTakingOut 51 = .ok (.iload_n 3, 1) := by decide +kernel
theorem dX0_draftsTakingOut_52 : decode cX0_draftsTakingOut 52 = .ok (.iload_n 1, 1) := by decide +kernel
theorem dX0_draftsTakingOut_53 : decode cX0_draftsTakingOut 53 = .ok (.iadd, 1) := by decide +kernel
theorem dX0_draftsTakingOut_54 : decode cX0_draftsTakingOut 54 = .ok (.iload 4, 2) := by decide +kernel
theorem dX0_draftsTakingOut_56 : decode cX0_draftsTakingOut 56 = .ok (.iload_n 1, 1) := by decide +kernel
theorem dX0_draftsTakingOut_57 : decode cX0_draftsTakingOut 57 = .ok (.isub, 1) := by decide +kernel
theorem dX0_draftsTakingOut_58 : decode cX0_draftsTakingOut 58 = .ok (.iconst 1, 1) := by decide +kernel
theorem dX0_draftsTakingOut_59 : decode cX0_draftsTakingOut 59 = .ok (.isub, 1) := by decide +kernel
theorem dX0_draftsTakingOut_60 : decode cX0_draftsTakingOut 60 = .ok (.invokestatic 43, 3) := by decide +kernel
theorem dX0_draftsTakingOut_63 : decode cX0_draftsTakingOut 63 = .ok (.aload_n 0, 1) := by decide +kernel
theorem dX0_draftsTakingOut_64 : decode cX0_draftsTakingOut 64 = .ok (.getfield 30, 3) := by decide +kernel
theorem dX0_draftsTakingOut_67 : decode cX0_draftsTakingOut 67 = .ok (.aload_n 0, 1) := by decide +kernel
theorem dX0_draftsTakingOut_68 : decode cX0_draftsTakingOut 68 = .ok (.getfield 39, 3) := by decide +kernel
theorem dX0_draftsTakingOut_71 : decode cX0_draftsTakingOut 71 = .ok (.iconst 1, 1) := by decide +kernel
theorem dX0_draftsTakingOut_72 : decode cX0_draftsTakingOut 72 = .ok (.iadd, 1) := by decide +kernel
theorem dX0_draftsTakingOut_73 : decode cX0_draftsTakingOut 73 = .ok (.iload 4, 2) := by decide +kernel
theorem dX0_draftsTakingOut_75 : decode cX0_draftsTakingOut 75 = .ok (.iconst 1, 1) := by decide +kernel
theorem dX0_draftsTakingOut_76 : decode cX0_draftsTakingOut 76 = .ok (.isub, 1) := by decide +kernel
theorem dX0_draftsTakingOut_77 : decode cX0_draftsTakingOut 77 = .ok (.iastore, 1) := by decide +kernel
theorem dX0_draftsTakingOut_78 : decode cX0_draftsTakingOut 78 = .ok (.return_, 1) := by decide +kernel
theorem dX0_draftsHalf_0 : decode cX0_draftsHalf 0 = .ok (.aload_n 0, 1) := by decide +kernel
theorem dX0_draftsHalf_1 : decode cX0_draftsHalf 1 = .ok (.getfield 39, 3) := by decide +kernel
theorem dX0_draftsHalf_4 : decode cX0_draftsHalf 4 = .ok (.iconst 1, 1) := by decide +kernel
theorem dX0_draftsHalf_5 : decode cX0_draftsHalf 5 = .ok (.iadd, 1) := by decide +kernel
theorem dX0_draftsHalf_6 : decode cX0_draftsHalf 6 = .ok (.bipush 20, 2) := by decide +kernel
theorem dX0_draftsHalf_8 : decode cX0_draftsHalf 8 = .ok (.imul, 1) := by decide +kernel
theorem dX0_draftsHalf_9 : decode cX0_draftsHalf 9 = .ok (.istore_n 3, 1) := by decide +kernel
theorem dX0_draftsHalf_10 : decode cX0_draftsHalf 10 = .ok (.iload_n 2, 1) := by decide +kernel
theorem dX0_draftsHalf_11 : decode cX0_draftsHalf 11 = .ok (.aload_n 0, 1) := by decide +kernel
theorem dX0_draftsHalf_12 : decode cX0_draftsHalf 12 = .ok (.getfield 30, 3) := by decide +kernel
theorem dX0_draftsHalf_15 : decode cX0_draftsHalf 15 = .ok (.iload_n 1, 1) := by decide +kernel
theorem dX0_draftsHalf_16 : decode cX0_draftsHalf 16 = .ok (.iaload, 1) := by decide +kernel
theorem dX0_draftsHalf_17 : decode cX0_draftsHalf 17 = .ok (.invokestatic 53, 3) := by decide +kernel
theorem dX0_draftsHalf_20 : decode cX0_draftsHalf 20 = .ok (.istore 4, 2) := by decide +kernel
theorem dX0_draftsHalf_22 : decode cX0_draftsHalf 22 = .ok (.iconst 0, 1) := by decide +kernel
theorem dX0_draftsHalf_23 : decode cX0_draftsHalf 23 = .ok (.aload_n 0, 1) := by decide +kernel
theorem dX0_draftsHalf_24 : decode cX0_draftsHalf 24 = .ok (.getfield 30, 3) := by decide +kernel
theorem dX0_draftsHalf_27 : decode cX0_draftsHalf 27 = .ok (.aload_n 0, 1) := by decide +kernel
theorem dX0_draftsHalf_28 : decode cX0_draftsHalf 28 = .ok (.getfield 39, 3) := by decide +kernel
theorem dX0_draftsHalf_31 : decode cX0_draftsHalf 31 = .ok (.iaload, 1) := by decide +kernel
theorem dX0_draftsHalf_32 : decode cX0_draftsHalf 32 = .ok (.iload_n 2, 1) := by decide +kernel
theorem dX0_draftsHalf_33 : decode cX0_draftsHalf 33 = .ok (.isub, 1) := by decide +kernel
theorem dX0_draftsHalf_34 : decode cX0_draftsHalf 34 = .ok (.invokestatic 59, 3) := by decide +kernel
theorem dX0_draftsHalf_37 : decode cX0_draftsHalf 37 = .ok (.istore 5, 2) := by decide +kernel
theorem dX0_draftsHalf_39 : decode cX0_draftsHalf 39 = .ok (.aload_n 0, 1) := by decide +kernel
theorem dX0_draftsHalf_40 : decode cX0_draftsHalf 40 = .ok (.getfield 33, 3) := by decide +kernel
theorem dX0_draftsHalf_43 : decode cX0_draftsHalf 43 = .ok (.iload_n 1, 1) := by decide +kernel
theorem dX0_draftsHalf_44 : decode cX0_draftsHalf 44 = .ok (.bipush 20, 2) := by decide +kernel
theorem dX0_draftsHalf_46 : decode cX0_draftsHalf 46 = .ok (.imul, 1) := by decide +kernel
theorem dX0_draftsHalf_47 : decode cX0_draftsHalf 47 = .ok (.aload_n 0, 1) := by decide +kernel
theorem dX0_draftsHalf_48 : decode cX0_draftsHalf 48 = .ok (.getfield 33, 3) := by decide +kernel
theorem dX0_draftsHalf_51 : decode cX0_draftsHalf 51 = .ok (.iload_n 3, 1) := by decide +kernel
theorem dX0_draftsHalf_52 : decode cX0_draftsHalf 52 = .ok (.iload 4, 2) := by decide +kernel
theorem dX0_draftsHalf_54 : decode cX0_draftsHalf 54 = .ok (.invokestatic 43, 3) := by decide +kernel
theorem dX0_draftsHalf_57 : decode cX0_draftsHalf 57 = .ok (.iload 5, 2) := by decide +kernel
theorem dX0_draftsHalf_59 : decode cX0_draftsHalf 59 = .ok (.ifCond .le 29, 3) := by decide +kernel
theorem dX0_draftsHalf_62 : decode cX0_draftsHalf 62 = .ok (.aload_n 0, 1) := by decide +kernel
theorem dX0_draftsHalf_63 : decode cX0_draftsHalf 63 = .ok (.getfield 33, 3) := by decide +kernel
theorem dX0_draftsHalf_66 : decode cX0_draftsHalf 66 = .ok (.aload_n 0, 1) := by decide +kernel
theorem dX0_draftsHalf_67 : decode cX0_draftsHalf 67 = .ok (.getfield 39, 3) := by decide +kernel
theorem dX0_draftsHalf_70 : decode cX0_draftsHalf 70 = .ok (.bipush 20, 2) := by decide +kernel
theorem dX0_draftsHalf_72 : decode cX0_draftsHalf 72 = .ok (.imul, 1) := by decide +kernel
theorem dX0_draftsHalf_73 : decode cX0_draftsHalf 73 = .ok (.iload_n 2, 1) := by decide +kernel
theorem dX0_draftsHalf_74 : decode cX0_draftsHalf 74 = .ok (.iadd, 1) := by decide +kernel
theorem dX0_draftsHalf_75 : decode cX0_draftsHalf 75 = .ok (.aload_n 0, 1) := by decide +kernel
theorem dX0_draftsHalf_76 : decode cX0_draftsHalf 76 = .ok (.getfield 33, 3) := by decide +kernel
theorem dX0_draftsHalf_79 : decode cX0_draftsHalf 79 = .ok (.iload_n 3, 1) := by decide +kernel
theorem dX0_draftsHalf_80 : decode cX0_draftsHalf 80 = .ok (.iload 4, 2) := by decide +kernel
theorem dX0_draftsHalf_82 : decode cX0_draftsHalf 82 = .ok (.iadd, 1) := by decide +kernel
theorem dX0_draftsHalf_83 : decode cX0_draftsHalf 83 = .ok (.iload 5, 2) := by decide +kernel
theorem dX0_draftsHalf_85 : decode cX0_draftsHalf 85 = .ok (.invokestatic 43, 3) := by decide +kernel
theorem dX0_draftsHalf_88 : decode cX0_draftsHalf 88 = .ok (.aload_n 0, 1) := by decide +kernel
theorem dX0_draftsHalf_89 : decode cX0_draftsHalf 89 = .ok (.getfield 30, 3) := by decide +kernel
theorem dX0_draftsHalf_92 : decode cX0_draftsHalf 92 = .ok (.aload_n 0, 1) := by decide +kernel
theorem dX0_draftsHalf_93 : decode cX0_draftsHalf 93 = .ok (.getfield 39, 3) := by decide +kernel
theorem dX0_draftsHalf_96 : decode cX0_draftsHalf 96 = .ok (.iconst 1, 1) := by decide +kernel
theorem dX0_draftsHalf_97 : decode cX0_draftsHalf 97 = .ok (.iadd, 1) := by decide +kernel
theorem dX0_draftsHalf_98 : decode cX0_draftsHalf 98 = .ok (.iload 4, 2) := by decide +kernel
theorem dX0_draftsHalf_100 : decode cX0_draftsHalf 100 = .ok (.iload 5, 2) := by decide +kernel
theorem dX0_draftsHalf_102 : decode cX0_draftsHalf 102 = .ok (.iadd, 1) := by decide +kernel
theorem dX0_draftsHalf_103 : decode cX0_draftsHalf 103 = .ok (.iastore, 1) := by decide +kernel
theorem dX0_draftsHalf_104 : decode cX0_draftsHalf 104 = .ok (.return_, 1) := by decide +kernel
theorem dX0_halfSize_0 : decode cX0_halfSize 0 = .ok (.iload_n 2, 1) := by decide +kernel
theorem dX0_halfSize_1 : decode cX0_halfSize 1 = .ok (.aload_n 0, 1) := by decide +kernel
theorem dX0_halfSize_2 : decode cX0_halfSize 2 = .ok (.getfield 30, 3) := by decide +kernel
theorem dX0_halfSize_5 : decode cX0_halfSize 5 = .ok (.iload_n 1, 1) := by decide +kernel
theorem dX0_halfSize_6 : decode cX0_halfSize 6 = .ok (.iaload, 1) := by decide +kernel
theorem dX0_halfSize_7 : decode cX0_halfSize 7 = .ok (.invokestatic 53, 3) := by decide +kernel
theorem dX0_halfSize_10 : decode cX0_halfSize 10 = .ok (.iconst 0, 1) := by decide +kernel
theorem dX0_halfSize_11 : decode cX0_halfSize 11 = .ok (.aload_n 0, 1) := by decide +kernel
theorem dX0_halfSize_12 : decode cX0_halfSize 12 = .ok (.getfield 30, 3) := by decide +kernel
theorem dX0_halfSize_15 : decode cX0_halfSize 15 = .ok (.aload_n 0, 1) := by decide +kernel
theorem dX0_halfSize_16 : decode cX0_halfSize 16 = .ok (.getfield 39, 3) := by decide +kernel
theorem dX0_halfSize_19 : decode cX0_halfSize 19 = .ok (.iaload, 1) := by decide +kernel
theorem dX0_halfSize_20 : decode cX0_halfSize 20 = .ok (.iload_n 2, 1) := by decide +kernel
theorem dX0_halfSize_21 : decode cX0_halfSize 21 = .ok (.isub, 1) := by decide +kernel
theorem dX0_halfSize_22 : decode cX0_halfSize 22 = .ok (.invokestatic 59, 3) := by decide +kernel
theorem dX0_halfSize_25 : decode cX0_halfSize 25 = .ok (.iadd, 1) := by decide +kernel
theorem dX0_halfSize_26 : decode cX0_halfSize 26 = .ok (.ireturn, 1) := by decide +kernel
set_option maxRecDepth 20000 in
theorem ggX0_records_X0_areAlike : GoodIn wsX0_records wsX0_areAlike := goodIn_r _ [12, 13, 14, 15, 16, 11, 17, 18, 19, 20, 21, 22, 23, 24, 25, 26, 27, 28] rfl (by decide +kernel)
set_option maxRecDepth 20000 in
theorem gX0_records_X0_areAlike : GoodIn wsX0_records (wsV RX0 62 RX0 yX0_areAlike wsX0_areAlike) := goodIn_app (goodIn_r _ [8, 9, 10, 11] rfl (by decide +kernel)) ggX0_records_X0_areAlike
theorem dX0_records_0 : decode cX0_records 0 = .ok (.aload_n 0, 1) := by decide +kernel
theorem dX0_records_1 : decode cX0_records 1 = .ok (.getfield 39, 3) := by decide +kernel
theorem dX0_records_4 : decode cX0_records 4 = .ok (.istore 5, 2) := by decide +kernel
theorem dX0_records_6 : decode cX0_records 6 = .ok (.aload_n 0, 1) := by decide +kernel
theorem dX0_records_7 : decode cX0_records 7 = .ok (.getfield 9, 3) := by decide +kernel
theorem dX0_records_10 : decode cX0_records 10 = .ok (.iload 5, 2) := by decide +kernel
theorem dX0_records_12 : decode cX0_records 12 = .ok (.iload_n 1, 1) := by decide +kernel
theorem dX0_records_13 : decode cX0_records 13 = .ok (.iastore, 1) := by decide +kernel
theorem dX0_records_14 : decode cX0_records 14 = .ok (.aload_n 0, 1) := by decide +kernel
theorem dX0_records_15 : decode cX0_records 15 = .ok (.getfield 15, 3) := by decide +kernel
theorem dX0_records_18 : decode cX0_records 18 = .ok (.iload 5, 2) := by decide +kernel
theorem dX0_records_20 : decode cX0_records 20 = .ok (.iload_n 2, 1) := by decide +kernel
theorem dX0_records_21 : decode cX0_records 21 = .ok (.iastore, 1) := by decide +kernel
theorem dX0_records_22 : decode cX0_records 22 = .ok (.aload_n 0, 1) := by decide +kernel
theorem dX0_records_23 : decode cX0_records 23 = .ok (.getfield 18, 3) := by decide +kernel
theorem dX0_records_26 : decode cX0_records 26 = .ok (.iload 5, 2) := by decide +kernel
theorem dX0_records_28 : decode cX0_records 28 = .ok (.iload_n 3, 1) := by decide +kernel
theorem dX0_records_29 : decode cX0_records 29 = .ok (.iastore, 1) := by decide +kernel
theorem dX0_records_30 : decode cX0_records 30 = .ok (.aload_n 0, 1) := by decide +kernel
theorem dX0_records_31 : decode cX0_records 31 = .ok (.getfield 21, 3) := by decide +kernel
theorem dX0_records_34 : decode cX0_records 34 = .ok (.iload 5, 2) := by decide +kernel
theorem dX0_records_36 : decode cX0_records 36 = .ok (.iload 4, 2) := by decide +kernel
theorem dX0_records_38 : decode cX0_records 38 = .ok (.iastore, 1) := by decide +kernel
theorem dX0_records_39 : decode cX0_records 39 = .ok (.aload_n 0, 1) := by decide +kernel
theorem dX0_records_40 : decode cX0_records 40 = .ok (.getfield 24, 3) := by decide +kernel
theorem dX0_records_43 : decode cX0_records 43 = .ok (.iload 5, 2) := by decide +kernel
theorem dX0_records_45 : decode cX0_records 45 = .ok (.iconst (-1), 1) := by decide +kernel
theorem dX0_records_46 : decode cX0_records 46 = .ok (.iastore, 1) := by decide +kernel
theorem dX0_records_47 : decode cX0_records 47 = .ok (.aload_n 0, 1) := by decide +kernel
theorem dX0_records_48 : decode cX0_records 48 = .ok (.getfield 27, 3) := by decide +kernel
theorem dX0_records_51 : decode cX0_records 51 = .ok (.iload 5, 2) := by decide +kernel
theorem dX0_records_53 : decode cX0_records 53 = .ok (.iconst (-1), 1) := by decide +kernel
theorem dX0_records_54 : decode cX0_records 54 = .ok (.iastore, 1) := by decide +kernel
theorem dX0_records_55 : decode cX0_records 55 = .ok (.aload_n 0, 1) := by decide +kernel
theorem dX0_records_56 : decode cX0_records 56 = .ok (.iload 5, 2) := by decide +kernel
theorem dX0_records_58 : decode cX0_records 58 = .ok (.iconst 1, 1) := by decide +kernel
theorem dX0_records_59 : decode cX0_records 59 = .ok (.iadd, 1) := by decide +kernel
theorem dX0_records_60 : decode cX0_records 60 = .ok (.putfield 39, 3) := by decide +kernel
theorem dX0_records_63 : decode cX0_records 63 = .ok (.iconst 0, 1) := by decide +kernel
theorem dX0_records_64 : decode cX0_records 64 = .ok (.istore 6, 2) := by decide +kernel
theorem dX0_records_66 : decode cX0_records 66 = .ok (.iload 6, 2) := by decide +kernel
theorem dX0_records_68 : decode cX0_records 68 = .ok (.iload 5, 2) := by decide +kernel
theorem dX0_records_70 : decode cX0_records 70 = .ok (.if_icmp .ge 54, 3) := by decide +kernel
theorem dX0_records_73 : decode cX0_records 73 = .ok (.aload_n 0, 1) := by decide +kernel
theorem dX0_records_74 : decode cX0_records 74 = .ok (.getfield 24, 3) := by decide +kernel
theorem dX0_records_77 : decode cX0_records 77 = .ok (.iload 6, 2) := by decide +kernel
theorem dX0_records_79 : decode cX0_records 79 = .ok (.iaload, 1) := by decide +kernel
theorem dX0_records_80 : decode cX0_records 80 = .ok (.ifCond .ge 38, 3) := by decide +kernel
theorem dX0_records_83 : decode cX0_records 83 = .ok (.aload_n 0, 1) := by decide +kernel
theorem dX0_records_84 : decode cX0_records 84 = .ok (.iload 6, 2) := by decide +kernel
theorem dX0_records_86 : decode cX0_records 86 = .ok (.iload 6, 2) := by decide +kernel
theorem dX0_records_88 : decode cX0_records 88 = .ok (.iconst 1, 1) := by decide +kernel
theorem dX0_records_89 : decode cX0_records 89 = .ok (.iadd, 1) := by decide +kernel
theorem dX0_records_90 : decode cX0_records 90 = .ok (.invokevirtual 62, 3) := by decide +kernel
theorem dX0_records_93 : decode cX0_records 93 = .ok (.ifCond .ne 25, 3) := by decide +kernel
theorem dX0_records_96 : decode cX0_records 96 = .ok (.aload_n 0, 1) := by decide +kernel
theorem dX0_records_97 : decode cX0_records 97 = .ok (.iload 6, 2) := by decide +kernel
theorem dX0_records_99 : decode cX0_records 99 = .ok (.aload_n 0, 1) := by decide +kernel
theorem dX0_records_100 : decode cX0_records 100 = .ok (.getfield 39, 3) := by decide +kernel
theorem dX0_records_103 : decode cX0_records 103 = .ok (.invokevirtual 62, 3) := by decide +kernel
theorem dX0_records_106 : decode cX0_records 106 = .ok (.ifCond .eq 12, 3) := by decide +kernel
theorem dX0_records_109 : decode cX0_records 109 = .ok (.aload_n 0, 1) := by decide +kernel
theorem dX0_records_110 : decode cX0_records 110 = .ok (.getfield 24, 3) := by decide +kernel
theorem dX0_records_113 : decode cX0_records 113 = .ok (.iload 6, 2) := by decide +kernel
theorem dX0_records_115 : decode cX0_records 115 = .ok (.iload 5, 2) := by decide +kernel
theorem dX0_records_117 : decode cX0_records 117 = .ok (.iastore, 1) := by decide +kernel
theorem dX0_records_118 : decode cX0_records 118 = .ok (.iinc 6 1, 3) := by decide +kernel
theorem dX0_records_121 : decode cX0_records 121 = .ok (.goto (-55), 3) := by decide +kernel
theorem dX0_records_124 : decode cX0_records 124 = .ok (.iload 5, 2) := by decide +kernel
theorem dX0_records_126 : decode cX0_records 126 = .ok (.ireturn, 1) := by decide +kernel
theorem dX0_isUnder_0 : decode cX0_isUnder 0 = .ok (.iload_n 0, 1) := by decide +kernel
theorem dX0_isUnder_1 : decode cX0_isUnder 1 = .ok (.istore_n 2, 1) := by decide +kernel
theorem dX0_isUnder_2 : decode cX0_isUnder 2 = .ok (.iconst 0, 1) := by decide +kernel
theorem dX0_isUnder_3 : decode cX0_isUnder 3 = .ok (.istore_n 3, 1) := by decide +kernel
theorem dX0_isUnder_4 : decode cX0_isUnder 4 = .ok (.iload_n 3, 1) := by decide +kernel
theorem dX0_isUnder_5 : decode cX0_isUnder 5 = .ok (.bipush 8, 2) := by decide +kernel
theorem dX0_isUnder_7 : decode cX0_isUnder 7 = .ok (.if_icmp .ge 24, 3) := by decide +kernel
theorem dX0_isUnder_10 : decode cX0_isUnder 10 = .ok (.iload_n 2, 1) := by decide +kernel
theorem dX0_isUnder_11 : decode cX0_isUnder 11 = .ok (.ifCond .le 20, 3) := by decide +kernel
theorem dX0_isUnder_14 : decode cX0_isUnder 14 = .ok (.iload_n 2, 1) := by decide +kernel
theorem dX0_isUnder_15 : decode cX0_isUnder 15 = .ok (.iload_n 1, 1) := by decide +kernel
theorem dX0_isUnder_16 : decode cX0_isUnder 16 = .ok (.if_icmp .eq 15, 3) := by decide +kernel
theorem dX0_isUnder_19 : decode cX0_isUnder 19 = .ok (.getstatic 66, 3) := by decide +kernel
theorem dX0_isUnder_22 : decode cX0_isUnder 22 = .ok (.iload_n 2, 1) := by decide +kernel
theorem dX0_isUnder_23 : decode cX0_isUnder 23 = .ok (.iaload, 1) := by decide +kernel
theorem dX0_isUnder_24 : decode cX0_isUnder 24 = .ok (.istore_n 2, 1) := by decide +kernel
theorem dX0_isUnder_25 : decode cX0_isUnder 25 = .ok (.iinc 3 1, 3) := by decide +kernel
theorem dX0_isUnder_28 : decode cX0_isUnder 28 = .ok (.goto (-24), 3) := by decide +kernel
theorem dX0_isUnder_31 : decode cX0_isUnder 31 = .ok (.iload_n 2, 1) := by decide +kernel
theorem dX0_isUnder_32 : decode cX0_isUnder 32 = .ok (.iload_n 1, 1) := by decide +kernel
theorem dX0_isUnder_33 : decode cX0_isUnder 33 = .ok (.if_icmp .ne 7, 3) := by decide +kernel
theorem dX0_isUnder_36 : decode cX0_isUnder 36 = .ok (.iconst 1, 1) := by decide +kernel
theorem dX0_isUnder_37 : decode cX0_isUnder 37 = .ok (.goto 4, 3) := by decide +kernel
theorem dX0_isUnder_40 : decode cX0_isUnder 40 = .ok (.iconst 0, 1) := by decide +kernel
theorem dX0_isUnder_41 : decode cX0_isUnder 41 = .ok (.ireturn, 1) := by decide +kernel
set_option maxRecDepth 20000 in
theorem ggX0_areAlike_X0_wordAt : GoodIn wsX0_areAlike wsX0_wordAt := goodIn_r _ [6, 7, 8, 9, 10, 11, 12, 13, 14, 15, 16, 17] rfl (by decide +kernel)
set_option maxRecDepth 20000 in
theorem gX0_areAlike_X0_wordAt : GoodIn wsX0_areAlike (wsV RX0 69 RX0 yX0_wordAt wsX0_wordAt) := goodIn_app (goodIn_r _ [2, 3, 4, 5] rfl (by decide +kernel)) ggX0_areAlike_X0_wordAt
theorem dX0_areAlike_0 : decode cX0_areAlike 0 = .ok (.aload_n 0, 1) := by decide +kernel
theorem dX0_areAlike_1 : decode cX0_areAlike 1 = .ok (.getfield 30, 3) := by decide +kernel
theorem dX0_areAlike_4 : decode cX0_areAlike 4 = .ok (.iload_n 1, 1) := by decide +kernel
theorem dX0_areAlike_5 : decode cX0_areAlike 5 = .ok (.iaload, 1) := by decide +kernel
theorem dX0_areAlike_6 : decode cX0_areAlike 6 = .ok (.aload_n 0, 1) := by decide +kernel
theorem dX0_areAlike_7 : decode cX0_areAlike 7 = .ok (.getfield 30, 3) := by decide +kernel
theorem dX0_areAlike_10 : decode cX0_areAlike 10 = .ok (.iload_n 2, 1) := by decide +kernel
theorem dX0_areAlike_11 : decode cX0_areAlike 11 = .ok (.iaload, 1) := by decide +kernel
theorem dX0_areAlike_12 : decode cX0_areAlike 12 = .ok (.if_icmp .eq 5, 3) := by decide +kernel
theorem dX0_areAlike_15 : decode cX0_areAlike 15 = .ok (.iconst 0, 1) := by decide +kernel
theorem dX0_areAlike_16 : decode cX0_areAlike 16 = .ok (.ireturn, 1) := by decide +kernel
theorem dX0_areAlike_17 : decode cX0_areAlike 17 = .ok (.iconst 0, 1) := by decide +kernel
theorem dX0_areAlike_18 : decode cX0_areAlike 18 = .ok (.istore_n 3, 1) := by decide +kernel
theorem dX0_areAlike_19 : decode cX0_areAlike 19 = .ok (.iload_n 3, 1) := by decide +kernel
theorem dX0_areAlike_20 : decode cX0_areAlike 20 = .ok (.aload_n 0, 1) := by decide +kernel
theorem dX0_areAlike_21 : decode cX0_areAlike 21 = .ok (.getfield 30, 3) := by decide +kernel
theorem dX0_areAlike_24 : decode cX0_areAlike 24 = .ok (.iload_n 1, 1) := by decide +kernel
theorem dX0_areAlike_25 : decode cX0_areAlike 25 = .ok (.iaload, 1) := by decide +kernel
theorem dX0_areAlike_26 : decode cX0_areAlike 26 = .ok (.if_icmp .ge 26, 3) := by decide +kernel
theorem dX0_areAlike_29 : decode cX0_areAlike 29 = .ok (.aload_n 0, 1) := by decide +kernel
theorem dX0_areAlike_30 : decode cX0_areAlike 30 = .ok (.iload_n 1, 1) := by decide +kernel
theorem dX0_areAlike_31 : decode cX0_areAlike 31 = .ok (.iload_n 3, 1) := by decide +kernel
theorem dX0_areAlike_32 : decode cX0_areAlike 32 = .ok (.invokevirtual 69, 3) := by decide +kernel
theorem dX0_areAlike_35 : decode cX0_areAlike 35 = .ok (.aload_n 0, 1) := by decide +kernel
theorem dX0_areAlike_36 : decode cX0_areAlike 36 = .ok (.iload_n 2, 1) := by decide +kernel
theorem dX0_areAlike_37 : decode cX0_areAlike 37 = .ok (.iload_n 3, 1) := by decide +kernel
theorem dX0_areAlike_38 : decode cX0_areAlike 38 = .ok (.invokevirtual 69, 3) := by decide +kernel
theorem dX0_areAlike_41 : decode cX0_areAlike 41 = .ok (.if_icmp .eq 5, 3) := by decide +kernel
theorem dX0_areAlike_44 : decode cX0_areAlike 44 = .ok (.iconst 0, 1) := by decide +kernel
theorem dX0_areAlike_45 : decode cX0_areAlike 45 = .ok (.ireturn, 1) := by decide +kernel
theorem dX0_areAlike_46 : decode cX0_areAlike 46 = .ok (.iinc 3 1, 3) := by decide +kernel
theorem dX0_areAlike_49 : decode cX0_areAlike 49 = .ok (.goto (-30), 3) := by decide +kernel
theorem dX0_areAlike_52 : decode cX0_areAlike 52 = .ok (.iconst 1, 1) := by decide +kernel
theorem dX0_areAlike_53 : decode cX0_areAlike 53 = .ok (.ireturn, 1) := by decide +kernel
set_option maxRecDepth 20000 in
theorem ggX0_likenessOf_X0_wordAt : GoodIn wsX0_likenessOf wsX0_wordAt := goodIn_r _ [11, 12, 13, 14, 15, 16, 17, 18, 19, 20, 21, 22] rfl (by decide +kernel)
set_option maxRecDepth 20000 in
theorem gX0_likenessOf_X0_wordAt : GoodIn wsX0_likenessOf (wsV RX0 69 RX0 yX0_wordAt wsX0_wordAt) := goodIn_app (goodIn_r _ [7, 8, 9, 10] rfl (by decide +kernel)) ggX0_likenessOf_X0_wordAt
theorem dX0_likenessOf_0 : decode cX0_likenessOf 0 = .ok (.aload_n 0, 1) := by decide +kernel
theorem dX0_likenessOf_1 : decode cX0_likenessOf 1 = .ok (.getfield 30, 3) := by decide +kernel
theorem dX0_likenessOf_4 : decode cX0_likenessOf 4 = .ok (.iload_n 1, 1) := by decide +kernel
theorem dX0_likenessOf_5 : decode cX0_likenessOf 5 = .ok (.iaload, 1) := by decide +kernel
theorem dX0_likenessOf_6 : decode cX0_likenessOf 6 = .ok (.aload_n 0, 1) := by decide +kernel
theorem dX0_likenessOf_7 : decode cX0_likenessOf 7 = .ok (.getfield 30, 3) := by decide +kernel
theorem dX0_likenessOf_10 : decode cX0_likenessOf 10 = .ok (.iload_n 2, 1) := by decide +kernel
theorem dX0_likenessOf_11 : decode cX0_likenessOf 11 = .ok (.iaload, 1) := by decide +kernel
theorem dX0_likenessOf_12 : decode cX0_likenessOf 12 = .ok (.invokestatic 59, 3) := by decide +kernel
theorem dX0_likenessOf_15 : decode cX0_likenessOf 15 = .ok (.istore_n 3, 1) := by decide +kernel
theorem dX0_likenessOf_16 : decode cX0_likenessOf 16 = .ok (.iload_n 3, 1) := by decide +kernel
theorem dX0_likenessOf_17 : decode cX0_likenessOf 17 = .ok (.ifCond .ne 6, 3) := by decide +kernel
theorem dX0_likenessOf_20 : decode cX0_likenessOf 20 = .ok (.bipush 100, 2) := by decide +kernel
theorem dX0_likenessOf_22 : decode cX0_likenessOf 22 = .ok (.ireturn, 1) := by decide +kernel
theorem dX0_likenessOf_23 : decode cX0_likenessOf 23 = .ok (.iconst 0, 1) := by decide +kernel
theorem dX0_likenessOf_24 : decode cX0_likenessOf 24 = .ok (.istore 4, 2) := by decide +kernel
theorem dX0_likenessOf_26 : decode cX0_likenessOf 26 = .ok (.iload 4, 2) := by decide +kernel
theorem dX0_likenessOf_28 : decode cX0_likenessOf 28 = .ok (.aload_n 0, 1) := by decide +kernel
theorem dX0_likenessOf_29 : decode cX0_likenessOf 29 = .ok (.getfield 36, 3) := by decide +kernel
theorem dX0_likenessOf_32 : decode cX0_likenessOf 32 = .ok (.arraylength, 1) := by decide +kernel
theorem dX0_likenessOf_33 : decode cX0_likenessOf 33 = .ok (.if_icmp .ge 17, 3) := by decide +kernel
theorem dX0_likenessOf_36 : decode cX0_likenessOf 36 = .ok (.aload_n 0, 1) := by decide +kernel
theorem dX0_likenessOf_37 : decode cX0_likenessOf 37 = .ok (.getfield 36, 3) := by decide +kernel
theorem dX0_likenessOf_40 : decode cX0_likenessOf 40 = .ok (.iload 4, 2) := by decide +kernel
theorem dX0_likenessOf_42 : decode cX0_likenessOf 42 = .ok (.iconst 0, 1) := by decide +kernel
theorem dX0_likenessOf_43 : decode cX0_likenessOf 43 = .ok (.iastore, 1) := by decide +kernel
theorem dX0_likenessOf_44 : decode cX0_likenessOf 44 = .ok (.iinc 4 1, 3) := by decide +kernel
theorem dX0_likenessOf_47 : decode cX0_likenessOf 47 = .ok (.goto (-21), 3) := by decide +kernel
theorem dX0_likenessOf_50 : decode cX0_likenessOf 50 = .ok (.iconst 0, 1) := by decide +kernel
theorem dX0_likenessOf_51 : decode cX0_likenessOf 51 = .ok (.istore 4, 2) := by decide +kernel
theorem dX0_likenessOf_53 : decode cX0_likenessOf 53 = .ok (.iload 4, 2) := by decide +kernel
theorem dX0_likenessOf_55 : decode cX0_likenessOf 55 = .ok (.aload_n 0, 1) := by decide +kernel
theorem dX0_likenessOf_56 : decode cX0_likenessOf 56 = .ok (.getfield 30, 3) := by decide +kernel
theorem dX0_likenessOf_59 : decode cX0_likenessOf 59 = .ok (.iload_n 1, 1) := by decide +kernel
theorem dX0_likenessOf_60 : decode cX0_likenessOf 60 = .ok (.iaload, 1) := by decide +kernel
theorem dX0_likenessOf_61 : decode cX0_likenessOf 61 = .ok (.if_icmp .ge 96, 3) := by decide +kernel
theorem dX0_likenessOf_64 : decode cX0_likenessOf 64 = .ok (.aload_n 0, 1) := by decide +kernel
theorem dX0_likenessOf_65 : decode cX0_likenessOf 65 = .ok (.iload_n 1, 1) := by decide +kernel
theorem dX0_likenessOf_66 : decode cX0_likenessOf 66 = .ok (.iload 4, 2) := by decide +kernel
theorem dX0_likenessOf_68 : decode cX0_likenessOf 68 = .ok (.invokevirtual 69, 3) := by decide +kernel
theorem dX0_likenessOf_71 : decode cX0_likenessOf 71 = .ok (.istore 5, 2) := by decide +kernel
theorem dX0_likenessOf_73 : decode cX0_likenessOf 73 = .ok (.iconst 0, 1) := by decide +kernel
theorem dX0_likenessOf_74 : decode cX0_likenessOf 74 = .ok (.istore 6, 2) := by decide +kernel
theorem dX0_likenessOf_76 : decode cX0_likenessOf 76 = .ok (.iconst 0, 1) := by decide +kernel
theorem dX0_likenessOf_77 : decode cX0_likenessOf 77 = .ok (.istore 7, 2) := by decide +kernel
theorem dX0_likenessOf_79 : decode cX0_likenessOf 79 = .ok (.iload 7, 2) := by decide +kernel
theorem dX0_likenessOf_81 : decode cX0_likenessOf 81 = .ok (.aload_n 0, 1) := by decide +kernel
theorem dX0_likenessOf_82 : decode cX0_likenessOf 82 = .ok (.getfield 30, 3) := by decide +kernel
theorem dX0_likenessOf_85 : decode cX0_likenessOf 85 = .ok (.iload_n 2, 1) := by decide +kernel
theorem dX0_likenessOf_86 : decode cX0_likenessOf 86 = .ok (.iaload, 1) := by decide +kernel
theorem dX0_likenessOf_87 : decode cX0_likenessOf 87 = .ok (.if_icmp .ge 64, 3) := by decide +kernel
theorem dX0_likenessOf_90 : decode cX0_likenessOf 90 = .ok (.aload_n 0, 1) := by decide +kernel
theorem dX0_likenessOf_91 : decode cX0_likenessOf 91 = .ok (.getfield 36, 3) := by decide +kernel
theorem dX0_likenessOf_94 : decode cX0_likenessOf 94 = .ok (.iload 7, 2) := by decide +kernel
theorem dX0_likenessOf_96 : decode cX0_likenessOf 96 = .ok (.iconst 1, 1) := by decide +kernel
theorem dX0_likenessOf_97 : decode cX0_likenessOf 97 = .ok (.iadd, 1) := by decide +kernel
theorem dX0_likenessOf_98 : decode cX0_likenessOf 98 = .ok (.iaload, 1) := by decide +kernel
theorem dX0_likenessOf_99 : decode cX0_likenessOf 99 = .ok (.istore 8, 2) := by decide +kernel
theorem dX0_likenessOf_101 : decode cX0_likenessOf 101 = .ok (.aload_n 0, 1) := by decide +kernel
theorem dX0_likenessOf_102 : decode cX0_likenessOf 102 = .ok (.getfield 36, 3) := by decide +kernel
theorem dX0_likenessOf_105 : decode cX0_likenessOf 105 = .ok (.iload 7, 2) := by decide +kernel
theorem dX0_likenessOf_107 : decode cX0_likenessOf 107 = .ok (.iconst 1, 1) := by decide +kernel
theorem dX0_likenessOf_108 : decode cX0_likenessOf 108 = .ok (.iadd, 1) := by decide +kernel
theorem dX0_likenessOf_109 : decode cX0_likenessOf 109 = .ok (.iload 5, 2) := by decide +kernel
theorem dX0_likenessOf_111 : decode cX0_likenessOf 111 = .ok (.aload_n 0, 1) := by decide +kernel
theorem dX0_likenessOf_112 : decode cX0_likenessOf 112 = .ok (.iload_n 2, 1) := by decide +kernel
theorem dX0_likenessOf_113 : decode cX0_likenessOf 113 = .ok (.iload 7, 2) := by decide +kernel
theorem dX0_likenessOf_115 : decode cX0_likenessOf 115 = .ok (.invokevirtual 69, 3) := by decide +kernel
theorem dX0_likenessOf_118 : decode cX0_likenessOf 118 = .ok (.if_icmp .ne 10, 3) := by decide +kernel
theorem dX0_likenessOf_121 : decode cX0_likenessOf 121 = .ok (.iload 6, 2) := by decide +kernel
theorem dX0_likenessOf_123 : decode cX0_likenessOf 123 = .ok (.iconst 1, 1) := by decide +kernel
theorem dX0_likenessOf_124 : decode cX0_likenessOf 124 = .ok (.iadd, 1) := by decide +kernel
theorem dX0_likenessOf_125 : decode cX0_likenessOf 125 = .ok (.goto 15, 3) := by decide +kernel
theorem dX0_likenessOf_128 : decode cX0_likenessOf 128 = .ok (.iload 8, 2) := by decide +kernel
theorem dX0_likenessOf_130 : decode cX0_likenessOf 130 = .ok (.aload_n 0, 1) := by decide +kernel
theorem dX0_likenessOf_131 : decode cX0_likenessOf 131 = .ok (.getfield 36, 3) := by decide +kernel
theorem dX0_likenessOf_134 : decode cX0_likenessOf 134 = .ok (.iload 7, 2) := by decide +kernel
theorem dX0_likenessOf_136 : decode cX0_likenessOf 136 = .ok (.iaload, 1) := by decide +kernel
theorem dX0_likenessOf_137 : decode cX0_likenessOf 137 = .ok (.invokestatic 59, 3) := by decide +kernel
theorem dX0_likenessOf_140 : decode cX0_likenessOf 140 = .ok (.iastore, 1) := by decide +kernel
theorem dX0_likenessOf_141 : decode cX0_likenessOf 141 = .ok (.iload 8, 2) := by decide +kernel
theorem dX0_likenessOf_143 : decode cX0_likenessOf 143 = .ok (.istore 6, 2) := by decide +kernel
theorem dX0_likenessOf_145 : decode cX0_likenessOf 145 = .ok (.iinc 7 1, 3) := by decide +kernel
theorem dX0_likenessOf_148 : decode cX0_likenessOf 148 = .ok (.goto (-69), 3) := by decide +kernel
theorem dX0_likenessOf_151 : decode cX0_likenessOf 151 = .ok (.iinc 4 1, 3) := by decide +kernel
theorem dX0_likenessOf_154 : decode cX0_likenessOf 154 = .ok (.goto (-101), 3) := by decide +kernel
theorem dX0_likenessOf_157 : decode cX0_likenessOf 157 = .ok (.bipush 100, 2) := by decide +kernel
theorem dX0_likenessOf_159 : decode cX0_likenessOf 159 = .ok (.aload_n 0, 1) := by decide +kernel
theorem dX0_likenessOf_160 : decode cX0_likenessOf 160 = .ok (.getfield 36, 3) := by decide +kernel
theorem dX0_likenessOf_163 : decode cX0_likenessOf 163 = .ok (.aload_n 0, 1) := by decide +kernel
theorem dX0_likenessOf_164 : decode cX0_likenessOf 164 = .ok (.getfield 30, 3) := by decide +kernel
theorem dX0_likenessOf_167 : decode cX0_likenessOf 167 = .ok (.iload_n 2, 1) := by decide +kernel
theorem dX0_likenessOf_168 : decode cX0_likenessOf 168 = .ok (.iaload, 1) := by decide +kernel
theorem dX0_likenessOf_169 : decode cX0_likenessOf 169 = .ok (.iaload, 1) := by decide +kernel
theorem dX0_likenessOf_170 : decode cX0_likenessOf 170 = .ok (.imul, 1) := by decide +kernel
theorem dX0_likenessOf_171 : decode cX0_likenessOf 171 = .ok (.iload_n 3, 1) := by decide +kernel
theorem dX0_likenessOf_172 : decode cX0_likenessOf 172 = .ok (.idiv, 1) := by decide +kernel
theorem dX0_likenessOf_173 : decode cX0_likenessOf 173 = .ok (.ireturn, 1) := by decide +kernel
set_option maxRecDepth 20000 in
theorem ggX0_likestBefore_X0_likenessOf : GoodIn wsX0_likestBefore wsX0_likenessOf := goodIn_r _ [5, 6, 7, 8, 9, 10, 11, 12, 13, 14, 4, 15, 16, 17, 18, 19, 20, 21, 22, 23, 24, 25, 26] rfl (by decide +kernel)
set_option maxRecDepth 20000 in
theorem gX0_likestBefore_X0_likenessOf : GoodIn wsX0_likestBefore (wsV RX0 72 RX0 yX0_likenessOf wsX0_likenessOf) := goodIn_app (goodIn_r _ [1, 2, 3, 4] rfl (by decide +kernel)) ggX0_likestBefore_X0_likenessOf
theorem dX0_likestBefore_0 : decode cX0_likestBefore 0 = .ok (.iconst 0, 1) := by decide +kernel
theorem dX0_likestBefore_1 : decode cX0_likestBefore 1 = .ok (.istore_n 2, 1) := by decide +kernel
theorem dX0_likestBefore_2 : decode cX0_likestBefore 2 = .ok (.iconst (-1), 1) := by decide +kernel
theorem dX0_likestBefore_3 : decode cX0_likestBefore 3 = .ok (.istore_n 3, 1) := by decide +kernel
theorem dX0_likestBefore_4 : decode cX0_likestBefore 4 = .ok (.iconst 0, 1) := by decide +kernel
theorem dX0_likestBefore_5 : decode cX0_likestBefore 5 = .ok (.istore 4, 2) := by decide +kernel
theorem dX0_likestBefore_7 : decode cX0_likestBefore 7 = .ok (.iload 4, 2) := by decide +kernel
theorem dX0_likestBefore_9 : decode cX0_likestBefore 9 = .ok (.iload_n 1, 1) := by decide +kernel
theorem dX0_likestBefore_10 : decode cX0_likestBefore 10 = .ok (.iconst 1, 1) := by decide +kernel
theorem dX0_likestBefore_11 : decode cX0_likestBefore 11 = .ok (.isub, 1) := by decide +kernel
theorem dX0_likestBefore_12 : decode cX0_likestBefore 12 = .ok (.if_icmp .ge 30, 3) := by decide +kernel
theorem dX0_likestBefore_15 : decode cX0_likestBefore 15 = .ok (.aload_n 0, 1) := by decide +kernel
theorem dX0_likestBefore_16 : decode cX0_likestBefore 16 = .ok (.iload 4, 2) := by decide +kernel
theorem dX0_likestBefore_18 : decode cX0_likestBefore 18 = .ok (.iload_n 1, 1) := by decide +kernel
theorem dX0_likestBefore_19 : decode cX0_likestBefore 19 = .ok (.invokevirtual 72, 3) := by decide +kernel
theorem dX0_likestBefore_22 : decode cX0_likestBefore 22 = .ok (.istore 5, 2) := by decide +kernel
theorem dX0_likestBefore_24 : decode cX0_likestBefore 24 = .ok (.iload 5, 2) := by decide +kernel
theorem dX0_likestBefore_26 : decode cX0_likestBefore 26 = .ok (.iload_n 3, 1) := by decide +kernel
theorem dX0_likestBefore_27 : decode cX0_likestBefore 27 = .ok (.if_icmp .lt 9, 3) := by decide +kernel
theorem dX0_likestBefore_30 : decode cX0_likestBefore 30 = .ok (.iload 5, 2) := by decide +kernel
theorem dX0_likestBefore_32 : decode cX0_likestBefore 32 = .ok (.istore_n 3, 1) := by decide +kernel
theorem dX0_likestBefore_33 : decode cX0_likestBefore 33 = .ok (.iload 4, 2) := by decide +kernel
theorem dX0_likestBefore_35 : decode cX0_likestBefore 35 = .ok (.istore_n 2, 1) := by decide +kernel
theorem dX0_likestBefore_36 : decode cX0_likestBefore 36 = .ok (.iinc 4 1, 3) := by decide +kernel
theorem dX0_likestBefore_39 : decode cX0_likestBefore 39 = .ok (.goto (-32), 3) := by decide +kernel
theorem dX0_likestBefore_42 : decode cX0_likestBefore 42 = .ok (.iload_n 2, 1) := by decide +kernel
theorem dX0_likestBefore_43 : decode cX0_likestBefore 43 = .ok (.ireturn, 1) := by decide +kernel
theorem dX0_warLength_0 : decode cX0_warLength 0 = .ok (.iconst 0, 1) := by decide +kernel
theorem dX0_warLength_1 : decode cX0_warLength 1 = .ok (.istore_n 2, 1) := by decide +kernel
theorem dX0_warLength_2 : decode cX0_warLength 2 = .ok (.iload_n 1, 1) := by decide +kernel
theorem dX0_warLength_3 : decode cX0_warLength 3 = .ok (.istore_n 3, 1) := by decide +kernel
theorem dX0_warLength_4 : decode cX0_warLength 4 = .ok (.iload_n 3, 1) := by decide +kernel
theorem dX0_warLength_5 : decode cX0_warLength 5 = .ok (.ifCond .lt 22, 3) := by decide +kernel
theorem dX0_warLength_8 : decode cX0_warLength 8 = .ok (.iload_n 2, 1) := by decide +kernel
theorem dX0_warLength_9 : decode cX0_warLength 9 = .ok (.bipush 60, 2) := by decide +kernel
theorem dX0_warLength_11 : decode cX0_warLength 11 = .ok (.if_icmp .ge 16, 3) := by decide +kernel
theorem dX0_warLength_14 : decode cX0_warLength 14 = .ok (.iinc 2 1, 3) := by decide +kernel
theorem dX0_warLength_17 : decode cX0_warLength 17 = .ok (.aload_n 0, 1) := by decide +kernel
theorem dX0_warLength_18 : decode cX0_warLength 18 = .ok (.getfield 24, 3) := by decide +kernel
theorem dX0_warLength_21 : decode cX0_warLength 21 = .ok (.iload_n 3, 1) := by decide +kernel
theorem dX0_warLength_22 : decode cX0_warLength 22 = .ok (.iaload, 1) := by decide +kernel
theorem dX0_warLength_23 : decode cX0_warLength 23 = .ok (.istore_n 3, 1) := by decide +kernel
theorem dX0_warLength_24 : decode cX0_warLength 24 = .ok (.goto (-20), 3) := by decide +kernel
theorem dX0_warLength_27 : decode cX0_warLength 27 = .ok (.iload_n 2, 1) := by decide +kernel
theorem dX0_warLength_28 : decode cX0_warLength 28 = .ok (.ireturn, 1) := by decide +kernel
theorem dX0_warEnd_0 : decode cX0_warEnd 0 = .ok (.iload_n 1, 1) := by decide +kernel
theorem dX0_warEnd_1 : decode cX0_warEnd 1 = .ok (.istore_n 2, 1) := by decide +kernel
theorem dX0_warEnd_2 : decode cX0_warEnd 2 = .ok (.iconst 0, 1) := by decide +kernel
theorem dX0_warEnd_3 : decode cX0_warEnd 3 = .ok (.istore_n 3, 1) := by decide +kernel
theorem dX0_warEnd_4 : decode cX0_warEnd 4 = .ok (.iload_n 3, 1) := by decide +kernel
theorem dX0_warEnd_5 : decode cX0_warEnd 5 = .ok (.bipush 60, 2) := by decide +kernel
theorem dX0_warEnd_7 : decode cX0_warEnd 7 = .ok (.if_icmp .ge 25, 3) := by decide +kernel
theorem dX0_warEnd_10 : decode cX0_warEnd 10 = .ok (.aload_n 0, 1) := by decide +kernel
theorem dX0_warEnd_11 : decode cX0_warEnd 11 = .ok (.getfield 24, 3) := by decide +kernel
theorem dX0_warEnd_14 : decode cX0_warEnd 14 = .ok (.iload_n 2, 1) := by decide +kernel
theorem dX0_warEnd_15 : decode cX0_warEnd 15 = .ok (.iaload, 1) := by decide +kernel
theorem dX0_warEnd_16 : decode cX0_warEnd 16 = .ok (.ifCond .lt 16, 3) := by decide +kernel
theorem dX0_warEnd_19 : decode cX0_warEnd 19 = .ok (.aload_n 0, 1) := by decide +kernel
theorem dX0_warEnd_20 : decode cX0_warEnd 20 = .ok (.getfield 24, 3) := by decide +kernel
theorem dX0_warEnd_23 : decode cX0_warEnd 23 = .ok (.iload_n 2, 1) := by decide +kernel
theorem dX0_warEnd_24 : decode cX0_warEnd 24 = .ok (.iaload, 1) := by decide +kernel
theorem dX0_warEnd_25 : decode cX0_warEnd 25 = .ok (.istore_n 2, 1) := by decide +kernel
theorem dX0_warEnd_26 : decode cX0_warEnd 26 = .ok (.iinc 3 1, 3) := by decide +kernel
theorem dX0_warEnd_29 : decode cX0_warEnd 29 = .ok (.goto (-25), 3) := by decide +kernel
theorem dX0_warEnd_32 : decode cX0_warEnd 32 = .ok (.iload_n 2, 1) := by decide +kernel
theorem dX0_warEnd_33 : decode cX0_warEnd 33 = .ok (.ireturn, 1) := by decide +kernel
theorem dX0_warSide_0 : decode cX0_warSide 0 = .ok (.iconst 0, 1) := by decide +kernel
theorem dX0_warSide_1 : decode cX0_warSide 1 = .ok (.istore_n 3, 1) := by decide +kernel
theorem dX0_warSide_2 : decode cX0_warSide 2 = .ok (.iload_n 1, 1) := by decide +kernel
theorem dX0_warSide_3 : decode cX0_warSide 3 = .ok (.istore 4, 2) := by decide +kernel
theorem dX0_warSide_5 : decode cX0_warSide 5 = .ok (.iconst 0, 1) := by decide +kernel
theorem dX0_warSide_6 : decode cX0_warSide 6 = .ok (.istore 5, 2) := by decide +kernel
theorem dX0_warSide_8 : decode cX0_warSide 8 = .ok (.iload 5, 2) := by decide +kernel
theorem dX0_warSide_10 : decode cX0_warSide 10 = .ok (.bipush 60, 2) := by decide +kernel
theorem dX0_warSide_12 : decode cX0_warSide 12 = .ok (.if_icmp .ge 43, 3) := by decide +kernel
theorem dX0_warSide_15 : decode cX0_warSide 15 = .ok (.iload 4, 2) := by decide +kernel
theorem dX0_warSide_17 : decode cX0_warSide 17 = .ok (.ifCond .lt 38, 3) := by decide +kernel
theorem dX0_warSide_20 : decode cX0_warSide 20 = .ok (.iload 5, 2) := by decide +kernel
theorem dX0_warSide_22 : decode cX0_warSide 22 = .ok (.iconst 2, 1) := by decide +kernel
theorem dX0_warSide_23 : decode cX0_warSide 23 = .ok (.irem, 1) := by decide +kernel
theorem dX0_warSide_24 : decode cX0_warSide 24 = .ok (.iload_n 2, 1) := by decide +kernel
theorem dX0_warSide_25 : decode cX0_warSide 25 = .ok (.if_icmp .ne 15, 3) := by decide +kernel
theorem dX0_warSide_28 : decode cX0_warSide 28 = .ok (.iload_n 3, 1) := by decide +kernel
theorem dX0_warSide_29 : decode cX0_warSide 29 = .ok (.iconst 1, 1) := by decide +kernel
theorem dX0_warSide_30 : decode cX0_warSide 30 = .ok (.aload_n 0, 1) := by decide +kernel
theorem dX0_warSide_31 : decode cX0_warSide 31 = .ok (.getfield 15, 3) := by decide +kernel
theorem dX0_warSide_34 : decode cX0_warSide 34 = .ok (.iload 4, 2) := by decide +kernel
theorem dX0_warSide_36 : decode cX0_warSide 36 = .ok (.iaload, 1) := by decide +kernel
theorem dX0_warSide_37 : decode cX0_warSide 37 = .ok (.ishl, 1) := by decide +kernel
theorem dX0_warSide_38 : decode cX0_warSide 38 = .ok (.ior, 1) := by decide +kernel
theorem dX0_warSide_39 : decode cX0_warSide 39 = .ok (.istore_n 3, 1) := by decide +kernel
theorem dX0_warSide_40 : decode cX0_warSide 40 = .ok (.aload_n 0, 1) := by decide +kernel
theorem dX0_warSide_41 : decode cX0_warSide 41 = .ok (.getfield 24, 3) := by decide +kernel
theorem dX0_warSide_44 : decode cX0_warSide 44 = .ok (.iload 4, 2) := by decide +kernel
theorem dX0_warSide_46 : decode cX0_warSide 46 = .ok (.iaload, 1) := by decide +kernel
theorem dX0_warSide_47 : decode cX0_warSide 47 = .ok (.istore 4, 2) := by decide +kernel
theorem dX0_warSide_49 : decode cX0_warSide 49 = .ok (.iinc 5 1, 3) := by decide +kernel
theorem dX0_warSide_52 : decode cX0_warSide 52 = .ok (.goto (-44), 3) := by decide +kernel
theorem dX0_warSide_55 : decode cX0_warSide 55 = .ok (.iload_n 3, 1) := by decide +kernel
theorem dX0_warSide_56 : decode cX0_warSide 56 = .ok (.ireturn, 1) := by decide +kernel
set_option maxRecDepth 20000 in
theorem ggX0_longestWar_X0_warLength : GoodIn wsX0_longestWar wsX0_warLength := goodIn_r _ [6, 7, 8, 9, 10, 11, 12, 13, 14, 15, 16, 17] rfl (by decide +kernel)
set_option maxRecDepth 20000 in
theorem gX0_longestWar_X0_warLength : GoodIn wsX0_longestWar (wsV RX0 75 RX0 yX0_warLength wsX0_warLength) := goodIn_app (goodIn_r _ [2, 3, 4, 5] rfl (by decide +kernel)) ggX0_longestWar_X0_warLength
theorem dX0_longestWar_0 : decode cX0_longestWar 0 = .ok (.iconst 0, 1) := by decide +kernel
theorem dX0_longestWar_1 : decode cX0_longestWar 1 = .ok (.istore_n 1, 1) := by decide +kernel
theorem dX0_longestWar_2 : decode cX0_longestWar 2 = .ok (.iconst 1, 1) := by decide +kernel
theorem dX0_longestWar_3 : decode cX0_longestWar 3 = .ok (.istore_n 2, 1) := by decide +kernel
theorem dX0_longestWar_4 : decode cX0_longestWar 4 = .ok (.iload_n 2, 1) := by decide +kernel
theorem dX0_longestWar_5 : decode cX0_longestWar 5 = .ok (.aload_n 0, 1) := by decide +kernel
theorem dX0_longestWar_6 : decode cX0_longestWar 6 = .ok (.getfield 39, 3) := by decide +kernel
theorem dX0_longestWar_9 : decode cX0_longestWar 9 = .ok (.if_icmp .ge 24, 3) := by decide +kernel
theorem dX0_longestWar_12 : decode cX0_longestWar 12 = .ok (.aload_n 0, 1) := by decide +kernel
theorem dX0_longestWar_13 : decode cX0_longestWar 13 = .ok (.iload_n 2, 1) := by decide +kernel
theorem dX0_longestWar_14 : decode cX0_longestWar 14 = .ok (.invokevirtual 75, 3) := by decide +kernel
theorem dX0_longestWar_17 : decode cX0_longestWar 17 = .ok (.aload_n 0, 1) := by decide +kernel
theorem dX0_longestWar_18 : decode cX0_longestWar 18 = .ok (.iload_n 1, 1) := by decide +kernel
theorem dX0_longestWar_19 : decode cX0_longestWar 19 = .ok (.invokevirtual 75, 3) := by decide +kernel
theorem dX0_longestWar_22 : decode cX0_longestWar 22 = .ok (.if_icmp .le 5, 3) := by decide +kernel
theorem dX0_longestWar_25 : decode cX0_longestWar 25 = .ok (.iload_n 2, 1) := by decide +kernel
theorem dX0_longestWar_26 : decode cX0_longestWar 26 = .ok (.istore_n 1, 1) := by decide +kernel
theorem dX0_longestWar_27 : decode cX0_longestWar 27 = .ok (.iinc 2 1, 3) := by decide +kernel
theorem dX0_longestWar_30 : decode cX0_longestWar 30 = .ok (.goto (-26), 3) := by decide +kernel
theorem dX0_longestWar_33 : decode cX0_longestWar 33 = .ok (.iload_n 1, 1) := by decide +kernel
theorem dX0_longestWar_34 : decode cX0_longestWar 34 = .ok (.ireturn, 1) := by decide +kernel
theorem dX0_thereAt_0 : decode cX0_thereAt 0 = .ok (.aload_n 0, 1) := by decide +kernel
theorem dX0_thereAt_1 : decode cX0_thereAt 1 = .ok (.getfield 39, 3) := by decide +kernel
theorem dX0_thereAt_4 : decode cX0_thereAt 4 = .ok (.istore_n 2, 1) := by decide +kernel
theorem dX0_thereAt_5 : decode cX0_thereAt 5 = .ok (.iload_n 2, 1) := by decide +kernel
theorem dX0_thereAt_6 : decode cX0_thereAt 6 = .ok (.ifCond .le 21, 3) := by decide +kernel
theorem dX0_thereAt_9 : decode cX0_thereAt 9 = .ok (.aload_n 0, 1) := by decide +kernel
theorem dX0_thereAt_10 : decode cX0_thereAt 10 = .ok (.getfield 18, 3) := by decide +kernel
theorem dX0_thereAt_13 : decode cX0_thereAt 13 = .ok (.iload_n 2, 1) := by decide +kernel
theorem dX0_thereAt_14 : decode cX0_thereAt 14 = .ok (.iconst 1, 1) := by decide +kernel
theorem dX0_thereAt_15 : decode cX0_thereAt 15 = .ok (.isub, 1) := by decide +kernel
theorem dX0_thereAt_16 : decode cX0_thereAt 16 = .ok (.iaload, 1) := by decide +kernel
theorem dX0_thereAt_17 : decode cX0_thereAt 17 = .ok (.iload_n 1, 1) := by decide +kernel
theorem dX0_thereAt_18 : decode cX0_thereAt 18 = .ok (.if_icmp .le 9, 3) := by decide +kernel
theorem dX0_thereAt_21 : decode cX0_thereAt 21 = .ok (.iinc 2 (-1), 3) := by decide +kernel
theorem dX0_thereAt_24 : decode cX0_thereAt 24 = .ok (.goto (-19), 3) := by decide +kernel
theorem dX0_thereAt_27 : decode cX0_thereAt 27 = .ok (.iload_n 2, 1) := by decide +kernel
theorem dX0_thereAt_28 : decode cX0_thereAt 28 = .ok (.ireturn, 1) := by decide +kernel
theorem dX0_minutesThere_0 : decode cX0_minutesThere 0 = .ok (.iload_n 1, 1) := by decide +kernel
theorem dX0_minutesThere_1 : decode cX0_minutesThere 1 = .ok (.ifCond .le 18, 3) := by decide +kernel
theorem dX0_minutesThere_4 : decode cX0_minutesThere 4 = .ok (.iload_n 2, 1) := by decide +kernel
theorem dX0_minutesThere_5 : decode cX0_minutesThere 5 = .ok (.aload_n 0, 1) := by decide +kernel
theorem dX0_minutesThere_6 : decode cX0_minutesThere 6 = .ok (.getfield 18, 3) := by decide +kernel
theorem dX0_minutesThere_9 : decode cX0_minutesThere 9 = .ok (.iload_n 1, 1) := by decide +kernel
theorem dX0_minutesThere_10 : decode cX0_minutesThere 10 = .ok (.iconst 1, 1) := by decide +kernel
theorem dX0_minutesThere_11 : decode cX0_minutesThere 11 = .ok (.isub, 1) := by decide +kernel
theorem dX0_minutesThere_12 : decode cX0_minutesThere 12 = .ok (.iaload, 1) := by decide +kernel
theorem dX0_minutesThere_13 : decode cX0_minutesThere 13 = .ok (.invokestatic 59, 3) := by decide +kernel
theorem dX0_minutesThere_16 : decode cX0_minutesThere 16 = .ok (.goto 4, 3) := by decide +kernel
theorem dX0_minutesThere_19 : decode cX0_minutesThere 19 = .ok (.iload_n 2, 1) := by decide +kernel
theorem dX0_minutesThere_20 : decode cX0_minutesThere 20 = .ok (.istore 4, 2) := by decide +kernel
theorem dX0_minutesThere_22 : decode cX0_minutesThere 22 = .ok (.iload_n 1, 1) := by decide +kernel
theorem dX0_minutesThere_23 : decode cX0_minutesThere 23 = .ok (.aload_n 0, 1) := by decide +kernel
theorem dX0_minutesThere_24 : decode cX0_minutesThere 24 = .ok (.getfield 39, 3) := by decide +kernel
theorem dX0_minutesThere_27 : decode cX0_minutesThere 27 = .ok (.if_icmp .ge 16, 3) := by decide +kernel
theorem dX0_minutesThere_30 : decode cX0_minutesThere 30 = .ok (.iload_n 3, 1) := by decide +kernel
theorem dX0_minutesThere_31 : decode cX0_minutesThere 31 = .ok (.aload_n 0, 1) := by decide +kernel
theorem dX0_minutesThere_32 : decode cX0_minutesThere 32 = .ok (.getfield 18, 3) := by decide +kernel
theorem dX0_minutesThere_35 : decode cX0_minutesThere 35 = .ok (.iload_n 1, 1) := by decide +kernel
theorem dX0_minutesThere_36 : decode cX0_minutesThere 36 = .ok (.iaload, 1) := by decide +kernel
theorem dX0_minutesThere_37 : decode cX0_minutesThere 37 = .ok (.invokestatic 53, 3) := by decide +kernel
theorem dX0_minutesThere_40 : decode cX0_minutesThere 40 = .ok (.goto 4, 3) := by decide +kernel
theorem dX0_minutesThere_43 : decode cX0_minutesThere 43 = .ok (.iload_n 3, 1) := by decide +kernel
theorem dX0_minutesThere_44 : decode cX0_minutesThere 44 = .ok (.istore 5, 2) := by decide +kernel
theorem dX0_minutesThere_46 : decode cX0_minutesThere 46 = .ok (.iconst 0, 1) := by decide +kernel
theorem dX0_minutesThere_47 : decode cX0_minutesThere 47 = .ok (.iload 5, 2) := by decide +kernel
theorem dX0_minutesThere_49 : decode cX0_minutesThere 49 = .ok (.iload 4, 2) := by decide +kernel
theorem dX0_minutesThere_51 : decode cX0_minutesThere 51 = .ok (.isub, 1) := by decide +kernel
theorem dX0_minutesThere_52 : decode cX0_minutesThere 52 = .ok (.invokestatic 59, 3) := by decide +kernel
theorem dX0_minutesThere_55 : decode cX0_minutesThere 55 = .ok (.ireturn, 1) := by decide +kernel
set_option maxRecDepth 20000 in
theorem ggX0_staysOf_X0_wordsOf : GoodIn wsX0_staysOf wsX0_wordsOf := goodIn_r _ [6, 7, 8, 9, 10, 5, 11, 12, 25, 26, 27, 28, 29, 30, 31, 32, 33, 34] rfl (by decide +kernel)
set_option maxRecDepth 20000 in
theorem gX0_staysOf_X0_wordsOf : GoodIn wsX0_staysOf (wsV RX0 79 RX0 yX0_wordsOf wsX0_wordsOf) := goodIn_app (goodIn_r _ [2, 3, 4, 5] rfl (by decide +kernel)) ggX0_staysOf_X0_wordsOf
set_option maxRecDepth 20000 in
theorem ggX0_staysOf_X0_minutesThere : GoodIn wsX0_staysOf wsX0_minutesThere := goodIn_r _ [16, 17, 18, 19, 20, 21, 1, 22, 23, 24, 25, 26, 27, 28, 29, 30, 31, 32, 33, 34] rfl (by decide +kernel)
set_option maxRecDepth 20000 in
theorem gX0_staysOf_X0_minutesThere : GoodIn wsX0_staysOf (wsV RX0 82 RX0 yX0_minutesThere wsX0_minutesThere) := goodIn_app (goodIn_r _ [13, 14, 15, 5] rfl (by decide +kernel)) ggX0_staysOf_X0_minutesThere
theorem dX0_staysOf_0 : decode cX0_staysOf 0 = .ok (.iconst 0, 1) := by decide +kernel
theorem dX0_staysOf_1 : decode cX0_staysOf 1 = .ok (.istore_n 3, 1) := by decide +kernel
theorem dX0_staysOf_2 : decode cX0_staysOf 2 = .ok (.iload_n 1, 1) := by decide +kernel
theorem dX0_staysOf_3 : decode cX0_staysOf 3 = .ok (.iconst 1, 1) := by decide +kernel
theorem dX0_staysOf_4 : decode cX0_staysOf 4 = .ok (.iadd, 1) := by decide +kernel
theorem dX0_staysOf_5 : decode cX0_staysOf 5 = .ok (.istore 4, 2) := by decide +kernel
theorem dX0_staysOf_7 : decode cX0_staysOf 7 = .ok (.iload 4, 2) := by decide +kernel
theorem dX0_staysOf_9 : decode cX0_staysOf 9 = .ok (.aload_n 0, 1) := by decide +kernel
theorem dX0_staysOf_10 : decode cX0_staysOf 10 = .ok (.getfield 39, 3) := by decide +kernel
theorem dX0_staysOf_13 : decode cX0_staysOf 13 = .ok (.if_icmp .gt 28, 3) := by decide +kernel
theorem dX0_staysOf_16 : decode cX0_staysOf 16 = .ok (.iload_n 3, 1) := by decide +kernel
theorem dX0_staysOf_17 : decode cX0_staysOf 17 = .ok (.aload_n 0, 1) := by decide +kernel
theorem dX0_staysOf_18 : decode cX0_staysOf 18 = .ok (.iload_n 1, 1) := by decide +kernel
theorem dX0_staysOf_19 : decode cX0_staysOf 19 = .ok (.iload 4, 2) := by decide +kernel
theorem dX0_staysOf_21 : decode cX0_staysOf 21 = .ok (.invokevirtual 79, 3) := by decide +kernel
theorem dX0_staysOf_24 : decode cX0_staysOf 24 = .ok (.aload_n 0, 1) := by decide +kernel
theorem dX0_staysOf_25 : decode cX0_staysOf 25 = .ok (.iload 4, 2) := by decide +kernel
theorem dX0_staysOf_27 : decode cX0_staysOf 27 = .ok (.iconst 0, 1) := by decide +kernel
theorem dX0_staysOf_28 : decode cX0_staysOf 28 = .ok (.iload_n 2, 1) := by decide +kernel
theorem dX0_staysOf_29 : decode cX0_staysOf 29 = .ok (.invokevirtual 82, 3) := by decide +kernel
theorem dX0_staysOf_32 : decode cX0_staysOf 32 = .ok (.imul, 1) := by decide +kernel
theorem dX0_staysOf_33 : decode cX0_staysOf 33 = .ok (.iadd, 1) := by decide +kernel
theorem dX0_staysOf_34 : decode cX0_staysOf 34 = .ok (.istore_n 3, 1) := by decide +kernel
theorem dX0_staysOf_35 : decode cX0_staysOf 35 = .ok (.iinc 4 1, 3) := by decide +kernel
theorem dX0_staysOf_38 : decode cX0_staysOf 38 = .ok (.goto (-31), 3) := by decide +kernel
theorem dX0_staysOf_41 : decode cX0_staysOf 41 = .ok (.iload_n 3, 1) := by decide +kernel
theorem dX0_staysOf_42 : decode cX0_staysOf 42 = .ok (.ireturn, 1) := by decide +kernel
set_option maxRecDepth 20000 in
theorem ggX0_wordsOf_X0_originAt : GoodIn wsX0_wordsOf wsX0_originAt := goodIn_r _ [6, 7, 8, 9, 10, 11, 12, 13, 14, 15, 16, 17] rfl (by decide +kernel)
set_option maxRecDepth 20000 in
theorem gX0_wordsOf_X0_originAt : GoodIn wsX0_wordsOf (wsV RX0 86 RX0 yX0_originAt wsX0_originAt) := goodIn_app (goodIn_r _ [2, 3, 4, 5] rfl (by decide +kernel)) ggX0_wordsOf_X0_originAt
theorem dX0_wordsOf_0 : decode cX0_wordsOf 0 = .ok (.iconst 0, 1) := by decide +kernel
theorem dX0_wordsOf_1 : decode cX0_wordsOf 1 = .ok (.istore_n 3, 1) := by decide +kernel
theorem dX0_wordsOf_2 : decode cX0_wordsOf 2 = .ok (.iconst 0, 1) := by decide +kernel
theorem dX0_wordsOf_3 : decode cX0_wordsOf 3 = .ok (.istore 4, 2) := by decide +kernel
theorem dX0_wordsOf_5 : decode cX0_wordsOf 5 = .ok (.iload 4, 2) := by decide +kernel
theorem dX0_wordsOf_7 : decode cX0_wordsOf 7 = .ok (.aload_n 0, 1) := by decide +kernel
theorem dX0_wordsOf_8 : decode cX0_wordsOf 8 = .ok (.getfield 30, 3) := by decide +kernel
theorem dX0_wordsOf_11 : decode cX0_wordsOf 11 = .ok (.iload_n 2, 1) := by decide +kernel
theorem dX0_wordsOf_12 : decode cX0_wordsOf 12 = .ok (.iaload, 1) := by decide +kernel
theorem dX0_wordsOf_13 : decode cX0_wordsOf 13 = .ok (.if_icmp .ge 23, 3) := by decide +kernel
theorem dX0_wordsOf_16 : decode cX0_wordsOf 16 = .ok (.aload_n 0, 1) := by decide +kernel
theorem dX0_wordsOf_17 : decode cX0_wordsOf 17 = .ok (.iload_n 2, 1) := by decide +kernel
theorem dX0_wordsOf_18 : decode cX0_wordsOf 18 = .ok (.iload 4, 2) := by decide +kernel
theorem dX0_wordsOf_20 : decode cX0_wordsOf 20 = .ok (.invokevirtual 86, 3) := by decide +kernel
theorem dX0_wordsOf_23 : decode cX0_wordsOf 23 = .ok (.iload_n 1, 1) := by decide +kernel
theorem dX0_wordsOf_24 : decode cX0_wordsOf 24 = .ok (.if_icmp .ne 6, 3) := by decide +kernel
theorem dX0_wordsOf_27 : decode cX0_wordsOf 27 = .ok (.iinc 3 1, 3) := by decide +kernel
theorem dX0_wordsOf_30 : decode cX0_wordsOf 30 = .ok (.iinc 4 1, 3) := by decide +kernel
theorem dX0_wordsOf_33 : decode cX0_wordsOf 33 = .ok (.goto (-28), 3) := by decide +kernel
theorem dX0_wordsOf_36 : decode cX0_wordsOf 36 = .ok (.iload_n 3, 1) := by decide +kernel
theorem dX0_wordsOf_37 : decode cX0_wordsOf 37 = .ok (.ireturn, 1) := by decide +kernel
set_option maxRecDepth 20000 in
theorem ggX0_staysBy_X0_wordsBy : GoodIn wsX0_staysBy wsX0_wordsBy := goodIn_r _ [6, 7, 8, 9, 10, 11, 5, 12, 13, 26, 27, 28, 29, 30, 31, 32, 33, 34, 35] rfl (by decide +kernel)
set_option maxRecDepth 20000 in
theorem gX0_staysBy_X0_wordsBy : GoodIn wsX0_staysBy (wsV RX0 89 RX0 yX0_wordsBy wsX0_wordsBy) := goodIn_app (goodIn_r _ [2, 3, 4, 5] rfl (by decide +kernel)) ggX0_staysBy_X0_wordsBy
set_option maxRecDepth 20000 in
theorem ggX0_staysBy_X0_minutesThere : GoodIn wsX0_staysBy wsX0_minutesThere := goodIn_r _ [17, 18, 19, 20, 21, 22, 1, 23, 24, 25, 26, 27, 28, 29, 30, 31, 32, 33, 34, 35] rfl (by decide +kernel)
set_option maxRecDepth 20000 in
theorem gX0_staysBy_X0_minutesThere : GoodIn wsX0_staysBy (wsV RX0 82 RX0 yX0_minutesThere wsX0_minutesThere) := goodIn_app (goodIn_r _ [14, 15, 16, 5] rfl (by decide +kernel)) ggX0_staysBy_X0_minutesThere
theorem dX0_staysBy_0 : decode cX0_staysBy 0 = .ok (.iconst 0, 1) := by decide +kernel
theorem dX0_staysBy_1 : decode cX0_staysBy 1 = .ok (.istore_n 3, 1) := by decide +kernel
theorem dX0_staysBy_2 : decode cX0_staysBy 2 = .ok (.iconst 1, 1) := by decide +kernel
theorem dX0_staysBy_3 : decode cX0_staysBy 3 = .ok (.istore 4, 2) := by decide +kernel
theorem dX0_staysBy_5 : decode cX0_staysBy 5 = .ok (.iload 4, 2) := by decide +kernel
theorem dX0_staysBy_7 : decode cX0_staysBy 7 = .ok (.aload_n 0, 1) := by decide +kernel
theorem dX0_staysBy_8 : decode cX0_staysBy 8 = .ok (.getfield 39, 3) := by decide +kernel
theorem dX0_staysBy_11 : decode cX0_staysBy 11 = .ok (.if_icmp .gt 28, 3) := by decide +kernel
theorem dX0_staysBy_14 : decode cX0_staysBy 14 = .ok (.iload_n 3, 1) := by decide +kernel
theorem dX0_staysBy_15 : decode cX0_staysBy 15 = .ok (.aload_n 0, 1) := by decide +kernel
theorem dX0_staysBy_16 : decode cX0_staysBy 16 = .ok (.iload_n 1, 1) := by decide +kernel
theorem dX0_staysBy_17 : decode cX0_staysBy 17 = .ok (.iload 4, 2) := by decide +kernel
theorem dX0_staysBy_19 : decode cX0_staysBy 19 = .ok (.invokevirtual 89, 3) := by decide +kernel
theorem dX0_staysBy_22 : decode cX0_staysBy 22 = .ok (.aload_n 0, 1) := by decide +kernel
theorem dX0_staysBy_23 : decode cX0_staysBy 23 = .ok (.iload 4, 2) := by decide +kernel
theorem dX0_staysBy_25 : decode cX0_staysBy 25 = .ok (.iconst 0, 1) := by decide +kernel
theorem dX0_staysBy_26 : decode cX0_staysBy 26 = .ok (.iload_n 2, 1) := by decide +kernel
theorem dX0_staysBy_27 : decode cX0_staysBy 27 = .ok (.invokevirtual 82, 3) := by decide +kernel
theorem dX0_staysBy_30 : decode cX0_staysBy 30 = .ok (.imul, 1) := by decide +kernel
theorem dX0_staysBy_31 : decode cX0_staysBy 31 = .ok (.iadd, 1) := by decide +kernel
theorem dX0_staysBy_32 : decode cX0_staysBy 32 = .ok (.istore_n 3, 1) := by decide +kernel
theorem dX0_staysBy_33 : decode cX0_staysBy 33 = .ok (.iinc 4 1, 3) := by decide +kernel
theorem dX0_staysBy_36 : decode cX0_staysBy 36 = .ok (.goto (-31), 3) := by decide +kernel
theorem dX0_staysBy_39 : decode cX0_staysBy 39 = .ok (.iload_n 3, 1) := by decide +kernel
theorem dX0_staysBy_40 : decode cX0_staysBy 40 = .ok (.ireturn, 1) := by decide +kernel
set_option maxRecDepth 20000 in
theorem ggX0_wordsBy_X0_originAt : GoodIn wsX0_wordsBy wsX0_originAt := goodIn_r _ [7, 8, 9, 10, 11, 12, 13, 14, 15, 16, 17, 18] rfl (by decide +kernel)
set_option maxRecDepth 20000 in
theorem gX0_wordsBy_X0_originAt : GoodIn wsX0_wordsBy (wsV RX0 86 RX0 yX0_originAt wsX0_originAt) := goodIn_app (goodIn_r _ [3, 4, 5, 6] rfl (by decide +kernel)) ggX0_wordsBy_X0_originAt
theorem dX0_wordsBy_0 : decode cX0_wordsBy 0 = .ok (.iconst 0, 1) := by decide +kernel
theorem dX0_wordsBy_1 : decode cX0_wordsBy 1 = .ok (.istore_n 3, 1) := by decide +kernel
theorem dX0_wordsBy_2 : decode cX0_wordsBy 2 = .ok (.iconst 0, 1) := by decide +kernel
theorem dX0_wordsBy_3 : decode cX0_wordsBy 3 = .ok (.istore 4, 2) := by decide +kernel
theorem dX0_wordsBy_5 : decode cX0_wordsBy 5 = .ok (.iload 4, 2) := by decide +kernel
theorem dX0_wordsBy_7 : decode cX0_wordsBy 7 = .ok (.aload_n 0, 1) := by decide +kernel
theorem dX0_wordsBy_8 : decode cX0_wordsBy 8 = .ok (.getfield 30, 3) := by decide +kernel
theorem dX0_wordsBy_11 : decode cX0_wordsBy 11 = .ok (.iload_n 2, 1) := by decide +kernel
theorem dX0_wordsBy_12 : decode cX0_wordsBy 12 = .ok (.iaload, 1) := by decide +kernel
theorem dX0_wordsBy_13 : decode cX0_wordsBy 13 = .ok (.if_icmp .ge 28, 3) := by decide +kernel
theorem dX0_wordsBy_16 : decode cX0_wordsBy 16 = .ok (.aload_n 0, 1) := by decide +kernel
theorem dX0_wordsBy_17 : decode cX0_wordsBy 17 = .ok (.getfield 15, 3) := by decide +kernel
theorem dX0_wordsBy_20 : decode cX0_wordsBy 20 = .ok (.aload_n 0, 1) := by decide +kernel
theorem dX0_wordsBy_21 : decode cX0_wordsBy 21 = .ok (.iload_n 2, 1) := by decide +kernel
theorem dX0_wordsBy_22 : decode cX0_wordsBy 22 = .ok (.iload 4, 2) := by decide +kernel
theorem dX0_wordsBy_24 : decode cX0_wordsBy 24 = .ok (.invokevirtual 86, 3) := by decide +kernel
theorem dX0_wordsBy_27 : decode cX0_wordsBy 27 = .ok (.iaload, 1) := by decide +kernel
theorem dX0_wordsBy_28 : decode cX0_wordsBy 28 = .ok (.iload_n 1, 1) := by decide +kernel
theorem dX0_wordsBy_29 : decode cX0_wordsBy 29 = .ok (.if_icmp .ne 6, 3) := by decide +kernel
theorem dX0_wordsBy_32 : decode cX0_wordsBy 32 = .ok (.iinc 3 1, 3) := by decide +kernel
theorem dX0_wordsBy_35 : decode cX0_wordsBy 35 = .ok (.iinc 4 1, 3) := by decide +kernel
theorem dX0_wordsBy_38 : decode cX0_wordsBy 38 = .ok (.goto (-33), 3) := by decide +kernel
theorem dX0_wordsBy_41 : decode cX0_wordsBy 41 = .ok (.iload_n 3, 1) := by decide +kernel
theorem dX0_wordsBy_42 : decode cX0_wordsBy 42 = .ok (.ireturn, 1) := by decide +kernel
theorem dX0_doneBy_0 : decode cX0_doneBy 0 = .ok (.iconst 0, 1) := by decide +kernel
theorem dX0_doneBy_1 : decode cX0_doneBy 1 = .ok (.istore_n 2, 1) := by decide +kernel
theorem dX0_doneBy_2 : decode cX0_doneBy 2 = .ok (.iconst 0, 1) := by decide +kernel
theorem dX0_doneBy_3 : decode cX0_doneBy 3 = .ok (.istore_n 3, 1) := by decide +kernel
theorem dX0_doneBy_4 : decode cX0_doneBy 4 = .ok (.iload_n 3, 1) := by decide +kernel
theorem dX0_doneBy_5 : decode cX0_doneBy 5 = .ok (.aload_n 0, 1) := by decide +kernel
theorem dX0_doneBy_6 : decode cX0_doneBy 6 = .ok (.getfield 39, 3) := by decide +kernel
theorem dX0_doneBy_9 : decode cX0_doneBy 9 = .ok (.if_icmp .ge 22, 3) := by decide +kernel
theorem dX0_doneBy_12 : decode cX0_doneBy 12 = .ok (.aload_n 0, 1) := by decide +kernel
theorem dX0_doneBy_13 : decode cX0_doneBy 13 = .ok (.getfield 15, 3) := by decide +kernel
theorem dX0_doneBy_16 : decode cX0_doneBy 16 = .ok (.iload_n 3, 1) := by decide +kernel
theorem dX0_doneBy_17 : decode cX0_doneBy 17 = .ok (.iaload, 1) := by decide +kernel
theorem dX0_doneBy_18 : decode cX0_doneBy 18 = .ok (.iload_n 1, 1) := by decide +kernel
theorem dX0_doneBy_19 : decode cX0_doneBy 19 = .ok (.if_icmp .ne 6, 3) := by decide +kernel
theorem dX0_doneBy_22 : decode cX0_doneBy 22 = .ok (.iinc 2 1, 3) := by decide +kernel
theorem dX0_doneBy_25 : decode cX0_doneBy 25 = .ok (.iinc 3 1, 3) := by decide +kernel
theorem dX0_doneBy_28 : decode cX0_doneBy 28 = .ok (.goto (-24), 3) := by decide +kernel
theorem dX0_doneBy_31 : decode cX0_doneBy 31 = .ok (.iload_n 2, 1) := by decide +kernel
theorem dX0_doneBy_32 : decode cX0_doneBy 32 = .ok (.ireturn, 1) := by decide +kernel
set_option maxRecDepth 20000 in
theorem ggX0_backsBy_X0_isUnder : GoodIn wsX0_backsBy wsX0_isUnder := goodIn_r _ [8] rfl (by decide +kernel)
set_option maxRecDepth 20000 in
theorem gX0_backsBy_X0_isUnder : GoodIn wsX0_backsBy (va_wsS RX0 92 yX0_isUnder wsX0_isUnder) := goodIn_app (goodIn_r _ [5, 6, 7] rfl (by decide +kernel)) ggX0_backsBy_X0_isUnder
theorem dX0_backsBy_0 : decode cX0_backsBy 0 = .ok (.iconst 0, 1) := by decide +kernel
theorem dX0_backsBy_1 : decode cX0_backsBy 1 = .ok (.istore_n 3, 1) := by decide +kernel
theorem dX0_backsBy_2 : decode cX0_backsBy 2 = .ok (.iconst 0, 1) := by decide +kernel
theorem dX0_backsBy_3 : decode cX0_backsBy 3 = .ok (.istore 4, 2) := by decide +kernel
theorem dX0_backsBy_5 : decode cX0_backsBy 5 = .ok (.iload 4, 2) := by decide +kernel
theorem dX0_backsBy_7 : decode cX0_backsBy 7 = .ok (.aload_n 0, 1) := by decide +kernel
theorem dX0_backsBy_8 : decode cX0_backsBy 8 = .ok (.getfield 39, 3) := by decide +kernel
theorem dX0_backsBy_11 : decode cX0_backsBy 11 = .ok (.if_icmp .ge 52, 3) := by decide +kernel
theorem dX0_backsBy_14 : decode cX0_backsBy 14 = .ok (.aload_n 0, 1) := by decide +kernel
theorem dX0_backsBy_15 : decode cX0_backsBy 15 = .ok (.getfield 15, 3) := by decide +kernel
theorem dX0_backsBy_18 : decode cX0_backsBy 18 = .ok (.iload 4, 2) := by decide +kernel
theorem dX0_backsBy_20 : decode cX0_backsBy 20 = .ok (.iaload, 1) := by decide +kernel
theorem dX0_backsBy_21 : decode cX0_backsBy 21 = .ok (.iload_n 1, 1) := by decide +kernel
theorem dX0_backsBy_22 : decode cX0_backsBy 22 = .ok (.if_icmp .ne 35, 3) := by decide +kernel
theorem dX0_backsBy_25 : decode cX0_backsBy 25 = .ok (.aload_n 0, 1) := by decide +kernel
theorem dX0_backsBy_26 : decode cX0_backsBy 26 = .ok (.getfield 18, 3) := by decide +kernel
theorem dX0_backsBy_29 : decode cX0_backsBy 29 = .ok (.iload 4, 2) := by decide +kernel
theorem dX0_backsBy_31 : decode cX0_backsBy 31 = .ok (.iaload, 1) := by decide +kernel
theorem dX0_backsBy_32 : decode cX0_backsBy 32 = .ok (.iload_n 2, 1) := by decide +kernel
theorem dX0_backsBy_33 : decode cX0_backsBy 33 = .ok (.sipush 1440, 3) := by decide +kernel
theorem dX0_backsBy_36 : decode cX0_backsBy 36 = .ok (.isub, 1) := by decide +kernel
theorem dX0_backsBy_37 : decode cX0_backsBy 37 = .ok (.if_icmp .le 20, 3) := by decide +kernel
theorem dX0_backsBy_40 : decode cX0_backsBy 40 = .ok (.aload_n 0, 1) := by decide +kernel
theorem dX0_backsBy_41 : decode cX0_backsBy 41 = .ok (.getfield 9, 3) := by decide +kernel
theorem dX0_backsBy_44 : decode cX0_backsBy 44 = .ok (.iload 4, 2) := by decide +kernel
theorem dX0_backsBy_46 : decode cX0_backsBy 46 = .ok (.iaload, 1) := by decide +kernel
theorem dX0_backsBy_47 : decode cX0_backsBy 47 = .ok (.iconst 2, 1) := by decide +kernel
theorem dX0_backsBy_48 : decode cX0_backsBy 48 = .ok (.invokestatic 92, 3) := by decide +kernel
theorem dX0_backsBy_51 : decode cX0_backsBy 51 = .ok (.ifCond .eq 6, 3) := by decide +kernel
theorem dX0_backsBy_54 : decode cX0_backsBy 54 = .ok (.iinc 3 1, 3) := by decide +kernel
theorem dX0_backsBy_57 : decode cX0_backsBy 57 = .ok (.iinc 4 1, 3) := by decide +kernel
theorem dX0_backsBy_60 : decode cX0_backsBy 60 = .ok (.goto (-55), 3) := by decide +kernel
theorem dX0_backsBy_63 : decode cX0_backsBy 63 = .ok (.iload_n 3, 1) := by decide +kernel
theorem dX0_backsBy_64 : decode cX0_backsBy 64 = .ok (.ireturn, 1) := by decide +kernel
theorem dX0_latestOnPage_0 : decode cX0_latestOnPage 0 = .ok (.aload_n 0, 1) := by decide +kernel
theorem dX0_latestOnPage_1 : decode cX0_latestOnPage 1 = .ok (.getfield 39, 3) := by decide +kernel
theorem dX0_latestOnPage_4 : decode cX0_latestOnPage 4 = .ok (.iconst 1, 1) := by decide +kernel
theorem dX0_latestOnPage_5 : decode cX0_latestOnPage 5 = .ok (.isub, 1) := by decide +kernel
theorem dX0_latestOnPage_6 : decode cX0_latestOnPage 6 = .ok (.istore_n 2, 1) := by decide +kernel
theorem dX0_latestOnPage_7 : decode cX0_latestOnPage 7 = .ok (.iload_n 2, 1) := by decide +kernel
theorem dX0_latestOnPage_8 : decode cX0_latestOnPage 8 = .ok (.ifCond .lt 43, 3) := by decide +kernel
theorem dX0_latestOnPage_11 : decode cX0_latestOnPage 11 = .ok (.aload_n 0, 1) := by decide +kernel
theorem dX0_latestOnPage_12 : decode cX0_latestOnPage 12 = .ok (.getfield 15, 3) := by decide +kernel
theorem dX0_latestOnPage_15 : decode cX0_latestOnPage 15 = .ok (.iload_n 2, 1) := by decide +kernel
theorem dX0_latestOnPage_16 : decode cX0_latestOnPage 16 = .ok (.iaload, 1) := by decide +kernel
theorem dX0_latestOnPage_17 : decode cX0_latestOnPage 17 = .ok (.iload_n 1, 1) := by decide +kernel
theorem dX0_latestOnPage_18 : decode cX0_latestOnPage 18 = .ok (.if_icmp .ne 27, 3) := by decide +kernel
theorem dX0_latestOnPage_21 : decode cX0_latestOnPage 21 = .ok (.aload_n 0, 1) := by decide +kernel
theorem dX0_latestOnPage_22 : decode cX0_latestOnPage 22 = .ok (.getfield 9, 3) := by decide +kernel
theorem dX0_latestOnPage_25 : decode cX0_latestOnPage 25 = .ok (.iload_n 2, 1) := by decide +kernel
theorem dX0_latestOnPage_26 : decode cX0_latestOnPage 26 = .ok (.iaload, 1) := by decide +kernel
theorem dX0_latestOnPage_27 : decode cX0_latestOnPage 27 = .ok (.bipush 7, 2) := by decide +kernel
theorem dX0_latestOnPage_29 : decode cX0_latestOnPage 29 = .ok (.if_icmp .eq 16, 3) := by decide +kernel
theorem dX0_latestOnPage_32 : decode cX0_latestOnPage 32 = .ok (.aload_n 0, 1) := by decide +kernel
theorem dX0_latestOnPage_33 : decode cX0_latestOnPage 33 = .ok (.getfield 9, 3) := by decide +kernel
theorem dX0_latestOnPage_36 : decode cX0_latestOnPage 36 = .ok (.iload_n 2, 1) := by decide +kernel
theorem dX0_latestOnPage_37 : decode cX0_latestOnPage 37 = .ok (.iaload, 1) := by decide +kernel
theorem dX0_latestOnPage_38 : decode cX0_latestOnPage 38 = .ok (.bipush 6, 2) := by decide +kernel
theorem dX0_latestOnPage_40 : decode cX0_latestOnPage 40 = .ok (.if_icmp .eq 5, 3) := by decide +kernel
theorem dX0_latestOnPage_43 : decode cX0_latestOnPage 43 = .ok (.iload_n 2, 1) := by decide +kernel
theorem dX0_latestOnPage_44 : decode cX0_latestOnPage 44 = .ok (.ireturn, 1) := by decide +kernel
theorem dX0_latestOnPage_45 : decode cX0_latestOnPage 45 = .ok (.iinc 2 (-1), 3) := by decide +kernel
theorem dX0_latestOnPage_48 : decode cX0_latestOnPage 48 = .ok (.goto (-41), 3) := by decide +kernel
theorem dX0_latestOnPage_51 : decode cX0_latestOnPage 51 = .ok (.iconst (-1), 1) := by decide +kernel
theorem dX0_latestOnPage_52 : decode cX0_latestOnPage 52 = .ok (.ireturn, 1) := by decide +kernel
theorem dX0_undoneBy_0 : decode cX0_undoneBy 0 = .ok (.iconst 0, 1) := by decide +kernel
theorem dX0_undoneBy_1 : decode cX0_undoneBy 1 = .ok (.istore_n 2, 1) := by decide +kernel
theorem dX0_undoneBy_2 : decode cX0_undoneBy 2 = .ok (.iconst 0, 1) := by decide +kernel
theorem dX0_undoneBy_3 : decode cX0_undoneBy 3 = .ok (.istore_n 3, 1) := by decide +kernel
theorem dX0_undoneBy_4 : decode cX0_undoneBy 4 = .ok (.iload_n 3, 1) := by decide +kernel
theorem dX0_undoneBy_5 : decode cX0_undoneBy 5 = .ok (.iload_n 1, 1) := by decide +kernel
theorem dX0_undoneBy_6 : decode cX0_undoneBy 6 = .ok (.if_icmp .ge 22, 3) := by decide +kernel
theorem dX0_undoneBy_9 : decode cX0_undoneBy 9 = .ok (.aload_n 0, 1) := by decide +kernel
theorem dX0_undoneBy_10 : decode cX0_undoneBy 10 = .ok (.getfield 24, 3) := by decide +kernel
theorem dX0_undoneBy_13 : decode cX0_undoneBy 13 = .ok (.iload_n 3, 1) := by decide +kernel
theorem dX0_undoneBy_14 : decode cX0_undoneBy 14 = .ok (.iaload, 1) := by decide +kernel
theorem dX0_undoneBy_15 : decode cX0_undoneBy 15 = .ok (.iload_n 1, 1) := by decide +kernel
theorem dX0_undoneBy_16 : decode cX0_undoneBy 16 = .ok (.if_icmp .ne 6, 3) := by decide +kernel
theorem dX0_undoneBy_19 : decode cX0_undoneBy 19 = .ok (.iinc 2 1, 3) := by decide +kernel
theorem dX0_undoneBy_22 : decode cX0_undoneBy 22 = .ok (.iinc 3 1, 3) := by decide +kernel
theorem dX0_undoneBy_25 : decode cX0_undoneBy 25 = .ok (.goto (-21), 3) := by decide +kernel
theorem dX0_undoneBy_28 : decode cX0_undoneBy 28 = .ok (.iload_n 2, 1) := by decide +kernel
theorem dX0_undoneBy_29 : decode cX0_undoneBy 29 = .ok (.ireturn, 1) := by decide +kernel
theorem dX0_undoneOf_0 : decode cX0_undoneOf 0 = .ok (.iconst 0, 1) := by decide +kernel
theorem dX0_undoneOf_1 : decode cX0_undoneOf 1 = .ok (.istore_n 2, 1) := by decide +kernel
theorem dX0_undoneOf_2 : decode cX0_undoneOf 2 = .ok (.iconst 0, 1) := by decide +kernel
theorem dX0_undoneOf_3 : decode cX0_undoneOf 3 = .ok (.istore_n 3, 1) := by decide +kernel
theorem dX0_undoneOf_4 : decode cX0_undoneOf 4 = .ok (.iload_n 3, 1) := by decide +kernel
theorem dX0_undoneOf_5 : decode cX0_undoneOf 5 = .ok (.aload_n 0, 1) := by decide +kernel
theorem dX0_undoneOf_6 : decode cX0_undoneOf 6 = .ok (.getfield 39, 3) := by decide +kernel
theorem dX0_undoneOf_9 : decode cX0_undoneOf 9 = .ok (.if_icmp .ge 31, 3) := by decide +kernel
theorem dX0_undoneOf_12 : decode cX0_undoneOf 12 = .ok (.aload_n 0, 1) := by decide +kernel
theorem dX0_undoneOf_13 : decode cX0_undoneOf 13 = .ok (.getfield 15, 3) := by decide +kernel
theorem dX0_undoneOf_16 : decode cX0_undoneOf 16 = .ok (.iload_n 3, 1) := by decide +kernel
theorem dX0_undoneOf_17 : decode cX0_undoneOf 17 = .ok (.iaload, 1) := by decide +kernel
theorem dX0_undoneOf_18 : decode cX0_undoneOf 18 = .ok (.iload_n 1, 1) := by decide +kernel
theorem dX0_undoneOf_19 : decode cX0_undoneOf 19 = .ok (.if_icmp .ne 15, 3) := by decide +kernel
theorem dX0_undoneOf_22 : decode cX0_undoneOf 22 = .ok (.aload_n 0, 1) := by decide +kernel
theorem dX0_undoneOf_23 : decode cX0_undoneOf 23 = .ok (.getfield 24, 3) := by decide +kernel
theorem dX0_undoneOf_26 : decode cX0_undoneOf 26 = .ok (.iload_n 3, 1) := by decide +kernel
theorem dX0_undoneOf_27 : decode cX0_undoneOf 27 = .ok (.iaload, 1) := by decide +kernel
theorem dX0_undoneOf_28 : decode cX0_undoneOf 28 = .ok (.ifCond .lt 6, 3) := by decide +kernel
theorem dX0_undoneOf_31 : decode cX0_undoneOf 31 = .ok (.iinc 2 1, 3) := by decide +kernel
theorem dX0_undoneOf_34 : decode cX0_undoneOf 34 = .ok (.iinc 3 1, 3) := by decide +kernel
theorem dX0_undoneOf_37 : decode cX0_undoneOf 37 = .ok (.goto (-33), 3) := by decide +kernel
theorem dX0_undoneOf_40 : decode cX0_undoneOf 40 = .ok (.iload_n 2, 1) := by decide +kernel
theorem dX0_undoneOf_41 : decode cX0_undoneOf 41 = .ok (.ireturn, 1) := by decide +kernel
theorem dX0_offFrom_0 : decode cX0_offFrom 0 = .ok (.iconst 0, 1) := by decide +kernel
theorem dX0_offFrom_1 : decode cX0_offFrom 1 = .ok (.istore_n 2, 1) := by decide +kernel
theorem dX0_offFrom_2 : decode cX0_offFrom 2 = .ok (.iconst 0, 1) := by decide +kernel
theorem dX0_offFrom_3 : decode cX0_offFrom 3 = .ok (.istore_n 3, 1) := by decide +kernel
theorem dX0_offFrom_4 : decode cX0_offFrom 4 = .ok (.iload_n 3, 1) := by decide +kernel
theorem dX0_offFrom_5 : decode cX0_offFrom 5 = .ok (.aload_n 0, 1) := by decide +kernel
theorem dX0_offFrom_6 : decode cX0_offFrom 6 = .ok (.getfield 39, 3) := by decide +kernel
theorem dX0_offFrom_9 : decode cX0_offFrom 9 = .ok (.if_icmp .ge 71, 3) := by decide +kernel
theorem dX0_offFrom_12 : decode cX0_offFrom 12 = .ok (.iconst 0, 1) := by decide +kernel
theorem dX0_offFrom_13 : decode cX0_offFrom 13 = .ok (.istore 4, 2) := by decide +kernel
theorem dX0_offFrom_15 : decode cX0_offFrom 15 = .ok (.iload 4, 2) := by decide +kernel
theorem dX0_offFrom_17 : decode cX0_offFrom 17 = .ok (.iload_n 3, 1) := by decide +kernel
theorem dX0_offFrom_18 : decode cX0_offFrom 18 = .ok (.if_icmp .ge 44, 3) := by decide +kernel
theorem dX0_offFrom_21 : decode cX0_offFrom 21 = .ok (.aload_n 0, 1) := by decide +kernel
theorem dX0_offFrom_22 : decode cX0_offFrom 22 = .ok (.getfield 15, 3) := by decide +kernel
theorem dX0_offFrom_25 : decode cX0_offFrom 25 = .ok (.iload_n 3, 1) := by decide +kernel
theorem dX0_offFrom_26 : decode cX0_offFrom 26 = .ok (.iaload, 1) := by decide +kernel
theorem dX0_offFrom_27 : decode cX0_offFrom 27 = .ok (.iload_n 1, 1) := by decide +kernel
theorem dX0_offFrom_28 : decode cX0_offFrom 28 = .ok (.if_icmp .eq 34, 3) := by decide +kernel
theorem dX0_offFrom_31 : decode cX0_offFrom 31 = .ok (.aload_n 0, 1) := by decide +kernel
theorem dX0_offFrom_32 : decode cX0_offFrom 32 = .ok (.getfield 15, 3) := by decide +kernel
theorem dX0_offFrom_35 : decode cX0_offFrom 35 = .ok (.iload 4, 2) := by decide +kernel
theorem dX0_offFrom_37 : decode cX0_offFrom 37 = .ok (.iaload, 1) := by decide +kernel
theorem dX0_offFrom_38 : decode cX0_offFrom 38 = .ok (.iload_n 1, 1) := by decide +kernel
theorem dX0_offFrom_39 : decode cX0_offFrom 39 = .ok (.if_icmp .ne 17, 3) := by decide +kernel
theorem dX0_offFrom_42 : decode cX0_offFrom 42 = .ok (.aload_n 0, 1) := by decide +kernel
theorem dX0_offFrom_43 : decode cX0_offFrom 43 = .ok (.getfield 24, 3) := by decide +kernel
theorem dX0_offFrom_46 : decode cX0_offFrom 46 = .ok (.iload 4, 2) := by decide +kernel
theorem dX0_offFrom_48 : decode cX0_offFrom 48 = .ok (.iaload, 1) := by decide +kernel
theorem dX0_offFrom_49 : decode cX0_offFrom 49 = .ok (.iload_n 3, 1) := by decide +kernel
theorem dX0_offFrom_50 : decode cX0_offFrom 50 = .ok (.if_icmp .ne 6, 3) := by decide +kernel
theorem dX0_offFrom_53 : decode cX0_offFrom 53 = .ok (.iinc 2 1, 3) := by decide +kernel
theorem dX0_offFrom_56 : decode cX0_offFrom 56 = .ok (.iinc 4 1, 3) := by decide +kernel
theorem dX0_offFrom_59 : decode cX0_offFrom 59 = .ok (.goto (-44), 3) := by decide +kernel
theorem dX0_offFrom_62 : decode cX0_offFrom 62 = .ok (.iload_n 2, 1) := by decide +kernel
theorem dX0_offFrom_63 : decode cX0_offFrom 63 = .ok (.iconst 3, 1) := by decide +kernel
theorem dX0_offFrom_64 : decode cX0_offFrom 64 = .ok (.if_icmp .lt 10, 3) := by decide +kernel
theorem dX0_offFrom_67 : decode cX0_offFrom 67 = .ok (.aload_n 0, 1) := by decide +kernel
theorem dX0_offFrom_68 : decode cX0_offFrom 68 = .ok (.getfield 18, 3) := by decide +kernel
theorem dX0_offFrom_71 : decode cX0_offFrom 71 = .ok (.iload_n 3, 1) := by decide +kernel
theorem dX0_offFrom_72 : decode cX0_offFrom 72 = .ok (.iaload, 1) := by decide +kernel
theorem dX0_offFrom_73 : decode cX0_offFrom 73 = .ok (.ireturn, 1) := by decide +kernel
theorem dX0_offFrom_74 : decode cX0_offFrom 74 = .ok (.iinc 3 1, 3) := by decide +kernel
theorem dX0_offFrom_77 : decode cX0_offFrom 77 = .ok (.goto (-73), 3) := by decide +kernel
theorem dX0_offFrom_80 : decode cX0_offFrom 80 = .ok (.iconst (-1), 1) := by decide +kernel
theorem dX0_offFrom_81 : decode cX0_offFrom 81 = .ok (.ireturn, 1) := by decide +kernel
set_option maxRecDepth 20000 in
theorem ggX0_hoursInCommon_X0_doneInHour : GoodIn wsX0_hoursInCommon wsX0_doneInHour := goodIn_r _ [9, 10, 11, 12, 13, 14, 15, 16, 17, 18, 19, 20, 21, 22] rfl (by decide +kernel)
set_option maxRecDepth 20000 in
theorem gX0_hoursInCommon_X0_doneInHour : GoodIn wsX0_hoursInCommon (wsV RX0 95 RX0 yX0_doneInHour wsX0_doneInHour) := goodIn_app (goodIn_r _ [5, 6, 7, 8] rfl (by decide +kernel)) ggX0_hoursInCommon_X0_doneInHour
theorem dX0_hoursInCommon_0 : decode cX0_hoursInCommon 0 = .ok (.iconst 0, 1) := by decide +kernel
theorem dX0_hoursInCommon_1 : decode cX0_hoursInCommon 1 = .ok (.istore_n 3, 1) := by decide +kernel
theorem dX0_hoursInCommon_2 : decode cX0_hoursInCommon 2 = .ok (.iconst 0, 1) := by decide +kernel
theorem dX0_hoursInCommon_3 : decode cX0_hoursInCommon 3 = .ok (.istore 4, 2) := by decide +kernel
theorem dX0_hoursInCommon_5 : decode cX0_hoursInCommon 5 = .ok (.iload 4, 2) := by decide +kernel
theorem dX0_hoursInCommon_7 : decode cX0_hoursInCommon 7 = .ok (.bipush 24, 2) := by decide +kernel
theorem dX0_hoursInCommon_9 : decode cX0_hoursInCommon 9 = .ok (.if_icmp .ge 29, 3) := by decide +kernel
theorem dX0_hoursInCommon_12 : decode cX0_hoursInCommon 12 = .ok (.iload_n 3, 1) := by decide +kernel
theorem dX0_hoursInCommon_13 : decode cX0_hoursInCommon 13 = .ok (.aload_n 0, 1) := by decide +kernel
theorem dX0_hoursInCommon_14 : decode cX0_hoursInCommon 14 = .ok (.iload_n 1, 1) := by decide +kernel
theorem dX0_hoursInCommon_15 : decode cX0_hoursInCommon 15 = .ok (.iload 4, 2) := by decide +kernel
theorem dX0_hoursInCommon_17 : decode cX0_hoursInCommon 17 = .ok (.invokevirtual 95, 3) := by decide +kernel
theorem dX0_hoursInCommon_20 : decode cX0_hoursInCommon 20 = .ok (.aload_n 0, 1) := by decide +kernel
theorem dX0_hoursInCommon_21 : decode cX0_hoursInCommon 21 = .ok (.iload_n 2, 1) := by decide +kernel
theorem dX0_hoursInCommon_22 : decode cX0_hoursInCommon 22 = .ok (.iload 4, 2) := by decide +kernel
theorem dX0_hoursInCommon_24 : decode cX0_hoursInCommon 24 = .ok (.invokevirtual 95, 3) := by decide +kernel
theorem dX0_hoursInCommon_27 : decode cX0_hoursInCommon 27 = .ok (.invokestatic 53, 3) := by decide +kernel
theorem dX0_hoursInCommon_30 : decode cX0_hoursInCommon 30 = .ok (.iadd, 1) := by decide +kernel
theorem dX0_hoursInCommon_31 : decode cX0_hoursInCommon 31 = .ok (.istore_n 3, 1) := by decide +kernel
theorem dX0_hoursInCommon_32 : decode cX0_hoursInCommon 32 = .ok (.iinc 4 1, 3) := by decide +kernel
theorem dX0_hoursInCommon_35 : decode cX0_hoursInCommon 35 = .ok (.goto (-30), 3) := by decide +kernel
theorem dX0_hoursInCommon_38 : decode cX0_hoursInCommon 38 = .ok (.iload_n 3, 1) := by decide +kernel
theorem dX0_hoursInCommon_39 : decode cX0_hoursInCommon 39 = .ok (.ireturn, 1) := by decide +kernel
theorem dX0_doneInHour_0 : decode cX0_doneInHour 0 = .ok (.iconst 0, 1) := by decide +kernel
theorem dX0_doneInHour_1 : decode cX0_doneInHour 1 = .ok (.istore_n 3, 1) := by decide +kernel
theorem dX0_doneInHour_2 : decode cX0_doneInHour 2 = .ok (.iconst 0, 1) := by decide +kernel
theorem dX0_doneInHour_3 : decode cX0_doneInHour 3 = .ok (.istore 4, 2) := by decide +kernel
theorem dX0_doneInHour_5 : decode cX0_doneInHour 5 = .ok (.iload 4, 2) := by decide +kernel
theorem dX0_doneInHour_7 : decode cX0_doneInHour 7 = .ok (.aload_n 0, 1) := by decide +kernel
theorem dX0_doneInHour_8 : decode cX0_doneInHour 8 = .ok (.getfield 39, 3) := by decide +kernel
theorem dX0_doneInHour_11 : decode cX0_doneInHour 11 = .ok (.if_icmp .ge 40, 3) := by decide +kernel
theorem dX0_doneInHour_14 : decode cX0_doneInHour 14 = .ok (.aload_n 0, 1) := by decide +kernel
theorem dX0_doneInHour_15 : decode cX0_doneInHour 15 = .ok (.getfield 15, 3) := by decide +kernel
theorem dX0_doneInHour_18 : decode cX0_doneInHour 18 = .ok (.iload 4, 2) := by decide +kernel
theorem dX0_doneInHour_20 : decode cX0_doneInHour 20 = .ok (.iaload, 1) := by decide +kernel
theorem dX0_doneInHour_21 : decode cX0_doneInHour 21 = .ok (.iload_n 1, 1) := by decide +kernel
theorem dX0_doneInHour_22 : decode cX0_doneInHour 22 = .ok (.if_icmp .ne 23, 3) := by decide +kernel
theorem dX0_doneInHour_25 : decode cX0_doneInHour 25 = .ok (.aload_n 0, 1) := by decide +kernel
theorem dX0_doneInHour_26 : decode cX0_doneInHour 26 = .ok (.getfield 18, 3) := by decide +kernel
theorem dX0_doneInHour_29 : decode cX0_doneInHour 29 = .ok (.iload 4, 2) := by decide +kernel
theorem dX0_doneInHour_31 : decode cX0_doneInHour 31 = .ok (.iaload, 1) := by decide +kernel
theorem dX0_doneInHour_32 : decode cX0_doneInHour 32 = .ok (.bipush 60, 2) := by decide +kernel
theorem dX0_doneInHour_34 : decode cX0_doneInHour 34 = .ok (.idiv, 1) := by decide +kernel
theorem dX0_doneInHour_35 : decode cX0_doneInHour 35 = .ok (.bipush 24, 2) := by decide +kernel
theorem dX0_doneInHour_37 : decode cX0_doneInHour 37 = .ok (.irem, 1) := by decide +kernel
theorem dX0_doneInHour_38 : decode cX0_doneInHour 38 = .ok (.iload_n 2, 1) := by decide +kernel
theorem dX0_doneInHour_39 : decode cX0_doneInHour 39 = .ok (.if_icmp .ne 6, 3) := by decide +kernel
theorem dX0_doneInHour_42 : decode cX0_doneInHour 42 = .ok (.iinc 3 1, 3) := by decide +kernel
theorem dX0_doneInHour_45 : decode cX0_doneInHour 45 = .ok (.iinc 4 1, 3) := by decide +kernel
theorem dX0_doneInHour_48 : decode cX0_doneInHour 48 = .ok (.goto (-43), 3) := by decide +kernel
theorem dX0_doneInHour_51 : decode cX0_doneInHour 51 = .ok (.iload_n 3, 1) := by decide +kernel
theorem dX0_doneInHour_52 : decode cX0_doneInHour 52 = .ok (.ireturn, 1) := by decide +kernel
set_option maxRecDepth 20000 in
theorem ggX0_cheapestLine_X0_lineCosts : GoodIn wsX0_cheapestLine wsX0_lineCosts := goodIn_r _ [5, 6, 7, 8, 9, 10, 4, 11, 12, 13, 14, 15, 16, 17, 18, 19, 20, 21] rfl (by decide +kernel)
set_option maxRecDepth 20000 in
theorem gX0_cheapestLine_X0_lineCosts : GoodIn wsX0_cheapestLine (wsV RX0 98 RX0 yX0_lineCosts wsX0_lineCosts) := goodIn_app (goodIn_r _ [1, 2, 3, 4] rfl (by decide +kernel)) ggX0_cheapestLine_X0_lineCosts
theorem dX0_cheapestLine_0 : decode cX0_cheapestLine 0 = .ok (.iconst 0, 1) := by decide +kernel
theorem dX0_cheapestLine_1 : decode cX0_cheapestLine 1 = .ok (.istore_n 3, 1) := by decide +kernel
theorem dX0_cheapestLine_2 : decode cX0_cheapestLine 2 = .ok (.aload_n 0, 1) := by decide +kernel
theorem dX0_cheapestLine_3 : decode cX0_cheapestLine 3 = .ok (.iconst 0, 1) := by decide +kernel
theorem dX0_cheapestLine_4 : decode cX0_cheapestLine 4 = .ok (.iload_n 1, 1) := by decide +kernel
theorem dX0_cheapestLine_5 : decode cX0_cheapestLine 5 = .ok (.iload_n 2, 1) := by decide +kernel
theorem dX0_cheapestLine_6 : decode cX0_cheapestLine 6 = .ok (.invokevirtual 98, 3) := by decide +kernel
theorem dX0_cheapestLine_9 : decode cX0_cheapestLine 9 = .ok (.istore 4, 2) := by decide +kernel
theorem dX0_cheapestLine_11 : decode cX0_cheapestLine 11 = .ok (.iconst 1, 1) := by decide +kernel
theorem dX0_cheapestLine_12 : decode cX0_cheapestLine 12 = .ok (.istore 5, 2) := by decide +kernel
theorem dX0_cheapestLine_14 : decode cX0_cheapestLine 14 = .ok (.iload 5, 2) := by decide +kernel
theorem dX0_cheapestLine_16 : decode cX0_cheapestLine 16 = .ok (.bipush 101, 2) := by decide +kernel
theorem dX0_cheapestLine_18 : decode cX0_cheapestLine 18 = .ok (.if_icmp .gt 33, 3) := by decide +kernel
theorem dX0_cheapestLine_21 : decode cX0_cheapestLine 21 = .ok (.aload_n 0, 1) := by decide +kernel
theorem dX0_cheapestLine_22 : decode cX0_cheapestLine 22 = .ok (.iload 5, 2) := by decide +kernel
theorem dX0_cheapestLine_24 : decode cX0_cheapestLine 24 = .ok (.iload_n 1, 1) := by decide +kernel
theorem dX0_cheapestLine_25 : decode cX0_cheapestLine 25 = .ok (.iload_n 2, 1) := by decide +kernel
theorem dX0_cheapestLine_26 : decode cX0_cheapestLine 26 = .ok (.invokevirtual 98, 3) := by decide +kernel
theorem dX0_cheapestLine_29 : decode cX0_cheapestLine 29 = .ok (.istore 6, 2) := by decide +kernel
theorem dX0_cheapestLine_31 : decode cX0_cheapestLine 31 = .ok (.iload 6, 2) := by decide +kernel
theorem dX0_cheapestLine_33 : decode cX0_cheapestLine 33 = .ok (.iload 4, 2) := by decide +kernel
theorem dX0_cheapestLine_35 : decode cX0_cheapestLine 35 = .ok (.if_icmp .gt 10, 3) := by decide +kernel
theorem dX0_cheapestLine_38 : decode cX0_cheapestLine 38 = .ok (.iload 6, 2) := by decide +kernel
theorem dX0_cheapestLine_40 : decode cX0_cheapestLine 40 = .ok (.istore 4, 2) := by decide +kernel
theorem dX0_cheapestLine_42 : decode cX0_cheapestLine 42 = .ok (.iload 5, 2) := by decide +kernel
theorem dX0_cheapestLine_44 : decode cX0_cheapestLine 44 = .ok (.istore_n 3, 1) := by decide +kernel
theorem dX0_cheapestLine_45 : decode cX0_cheapestLine 45 = .ok (.iinc 5 1, 3) := by decide +kernel
theorem dX0_cheapestLine_48 : decode cX0_cheapestLine 48 = .ok (.goto (-34), 3) := by decide +kernel
theorem dX0_cheapestLine_51 : decode cX0_cheapestLine 51 = .ok (.iload_n 3, 1) := by decide +kernel
theorem dX0_cheapestLine_52 : decode cX0_cheapestLine 52 = .ok (.ireturn, 1) := by decide +kernel
set_option maxRecDepth 20000 in
theorem ggX0_lineCosts_X0_isUnder : GoodIn wsX0_lineCosts wsX0_isUnder := goodIn_r _ [7] rfl (by decide +kernel)
set_option maxRecDepth 20000 in
theorem gX0_lineCosts_X0_isUnder : GoodIn wsX0_lineCosts (va_wsS RX0 92 yX0_isUnder wsX0_isUnder) := goodIn_app (goodIn_r _ [4, 5, 6] rfl (by decide +kernel)) ggX0_lineCosts_X0_isUnder
theorem dX0_lineCosts_0 : decode cX0_lineCosts 0 = .ok (.iconst 0, 1) := by decide +kernel
theorem dX0_lineCosts_1 : decode cX0_lineCosts 1 = .ok (.istore 4, 2) := by decide +kernel
theorem dX0_lineCosts_3 : decode cX0_lineCosts 3 = .ok (.iconst 0, 1) := by decide +kernel
theorem dX0_lineCosts_4 : decode cX0_lineCosts 4 = .ok (.istore 5, 2) := by decide +kernel
theorem dX0_lineCosts_6 : decode cX0_lineCosts 6 = .ok (.iload 5, 2) := by decide +kernel
theorem dX0_lineCosts_8 : decode cX0_lineCosts 8 = .ok (.aload_n 0, 1) := by decide +kernel
theorem dX0_lineCosts_9 : decode cX0_lineCosts 9 = .ok (.getfield 39, 3) := by decide +kernel
theorem dX0_lineCosts_12 : decode cX0_lineCosts 12 = .ok (.if_icmp .ge 79, 3) := by decide +kernel
theorem dX0_lineCosts_15 : decode cX0_lineCosts 15 = .ok (.aload_n 0, 1) := by decide +kernel
theorem dX0_lineCosts_16 : decode cX0_lineCosts 16 = .ok (.getfield 27, 3) := by decide +kernel
theorem dX0_lineCosts_19 : decode cX0_lineCosts 19 = .ok (.iload 5, 2) := by decide +kernel
theorem dX0_lineCosts_21 : decode cX0_lineCosts 21 = .ok (.iaload, 1) := by decide +kernel
theorem dX0_lineCosts_22 : decode cX0_lineCosts 22 = .ok (.ifCond .lt 63, 3) := by decide +kernel
theorem dX0_lineCosts_25 : decode cX0_lineCosts 25 = .ok (.aload_n 0, 1) := by decide +kernel
theorem dX0_lineCosts_26 : decode cX0_lineCosts 26 = .ok (.getfield 9, 3) := by decide +kernel
theorem dX0_lineCosts_29 : decode cX0_lineCosts 29 = .ok (.iload 5, 2) := by decide +kernel
theorem dX0_lineCosts_31 : decode cX0_lineCosts 31 = .ok (.iaload, 1) := by decide +kernel
theorem dX0_lineCosts_32 : decode cX0_lineCosts 32 = .ok (.iconst 4, 1) := by decide +kernel
theorem dX0_lineCosts_33 : decode cX0_lineCosts 33 = .ok (.invokestatic 92, 3) := by decide +kernel
theorem dX0_lineCosts_36 : decode cX0_lineCosts 36 = .ok (.istore 6, 2) := by decide +kernel
theorem dX0_lineCosts_38 : decode cX0_lineCosts 38 = .ok (.aload_n 0, 1) := by decide +kernel
theorem dX0_lineCosts_39 : decode cX0_lineCosts 39 = .ok (.getfield 27, 3) := by decide +kernel
theorem dX0_lineCosts_42 : decode cX0_lineCosts 42 = .ok (.iload 5, 2) := by decide +kernel
theorem dX0_lineCosts_44 : decode cX0_lineCosts 44 = .ok (.iaload, 1) := by decide +kernel
theorem dX0_lineCosts_45 : decode cX0_lineCosts 45 = .ok (.iload_n 1, 1) := by decide +kernel
theorem dX0_lineCosts_46 : decode cX0_lineCosts 46 = .ok (.if_icmp .lt 17, 3) := by decide +kernel
theorem dX0_lineCosts_49 : decode cX0_lineCosts 49 = .ok (.iload 6, 2) := by decide +kernel
theorem dX0_lineCosts_51 : decode cX0_lineCosts 51 = .ok (.ifCond .ne 12, 3) := by decide +kernel
theorem dX0_lineCosts_54 : decode cX0_lineCosts 54 = .ok (.iload 4, 2) := by decide +kernel
theorem dX0_lineCosts_56 : decode cX0_lineCosts 56 = .ok (.iload_n 2, 1) := by decide +kernel
theorem dX0_lineCosts_57 : decode cX0_lineCosts 57 = .ok (.iadd, 1) := by decide +kernel
theorem dX0_lineCosts_58 : decode cX0_lineCosts 58 = .ok (.istore 4, 2) := by decide +kernel
theorem dX0_lineCosts_60 : decode cX0_lineCosts 60 = .ok (.goto 25, 3) := by decide +kernel
theorem dX0_lineCosts_63 : decode cX0_lineCosts 63 = .ok (.aload_n 0, 1) := by decide +kernel
theorem dX0_lineCosts_64 : decode cX0_lineCosts 64 = .ok (.getfield 27, 3) := by decide +kernel
theorem dX0_lineCosts_67 : decode cX0_lineCosts 67 = .ok (.iload 5, 2) := by decide +kernel
theorem dX0_lineCosts_69 : decode cX0_lineCosts 69 = .ok (.iaload, 1) := by decide +kernel
theorem dX0_lineCosts_70 : decode cX0_lineCosts 70 = .ok (.iload_n 1, 1) := by decide +kernel
theorem dX0_lineCosts_71 : decode cX0_lineCosts 71 = .ok (.if_icmp .ge 14, 3) := by decide +kernel
theorem dX0_lineCosts_74 : decode cX0_lineCosts 74 = .ok (.iload 6, 2) := by decide +kernel
theorem dX0_lineCosts_76 : decode cX0_lineCosts 76 = .ok (.ifCond .eq 9, 3) := by decide +kernel
theorem dX0_lineCosts_79 : decode cX0_lineCosts 79 = .ok (.iload 4, 2) := by decide +kernel
theorem dX0_lineCosts_81 : decode cX0_lineCosts 81 = .ok (.iload_n 3, 1) := by decide +kernel
theorem dX0_lineCosts_82 : decode cX0_lineCosts 82 = .ok (.iadd, 1) := by decide +kernel
theorem dX0_lineCosts_83 : decode cX0_lineCosts 83 = .ok (.istore 4, 2) := by decide +kernel
theorem dX0_lineCosts_85 : decode cX0_lineCosts 85 = .ok (.iinc 5 1, 3) := by decide +kernel
theorem dX0_lineCosts_88 : decode cX0_lineCosts 88 = .ok (.goto (-82), 3) := by decide +kernel
theorem dX0_lineCosts_91 : decode cX0_lineCosts 91 = .ok (.iload 4, 2) := by decide +kernel
theorem dX0_lineCosts_93 : decode cX0_lineCosts 93 = .ok (.ireturn, 1) := by decide +kernel
set_option maxRecDepth 20000 in
theorem ggX1_init_X0_init : GoodIn wsX1_init wsX0_init := goodIn_r _ [17, 18, 2, 3, 5, 19, 20, 21, 22, 23, 24, 25, 26, 27, 45, 46, 47, 48, 49, 50, 51, 52, 53, 54] rfl (by decide +kernel)
set_option maxRecDepth 20000 in
theorem gX1_init_X0_init_n24 : GoodIn wsX1_init (wsX0_init) := ggX1_init_X0_init
set_option maxRecDepth 20000 in
theorem ggX1_init_X4_init : GoodIn wsX1_init wsX4_init := goodIn_r _ [29, 30, 2, 3, 5, 31, 32, 33, 34, 35, 55, 56, 57, 58, 59, 60] rfl (by decide +kernel)
set_option maxRecDepth 20000 in
theorem gX1_init_X4_init_n31 : GoodIn wsX1_init (wsX4_init) := ggX1_init_X4_init
theorem dX1_init_0 : decode cX1_init 0 = .ok (.aload_n 0, 1) := by decide +kernel
theorem dX1_init_1 : decode cX1_init 1 = .ok (.invokespecial 3, 3) := by decide +kernel
theorem dX1_init_4 : decode cX1_init 4 = .ok (.aload_n 0, 1) := by decide +kernel
theorem dX1_init_5 : decode cX1_init 5 = .ok (.iconst 1, 1) := by decide +kernel
theorem dX1_init_6 : decode cX1_init 6 = .ok (.putfield 9, 3) := by decide +kernel
theorem dX1_init_9 : decode cX1_init 9 = .ok (.aload_n 0, 1) := by decide +kernel
theorem dX1_init_10 : decode cX1_init 10 = .ok (.bipush 24, 2) := by decide +kernel
theorem dX1_init_12 : decode cX1_init 12 = .ok (.newarray .int, 2) := by decide +kernel
theorem dX1_init_14 : decode cX1_init 14 = .ok (.putfield 15, 3) := by decide +kernel
theorem dX1_init_17 : decode cX1_init 17 = .ok (.aload_n 0, 1) := by decide +kernel
theorem dX1_init_18 : decode cX1_init 18 = .ok (.bipush 61, 2) := by decide +kernel
theorem dX1_init_20 : decode cX1_init 20 = .ok (.newarray .int, 2) := by decide +kernel
theorem dX1_init_22 : decode cX1_init 22 = .ok (.putfield 19, 3) := by decide +kernel
theorem dX1_init_25 : decode cX1_init 25 = .ok (.aload_n 0, 1) := by decide +kernel
theorem dX1_init_26 : decode cX1_init 26 = .ok (.new 22, 3) := by decide +kernel
theorem dX1_init_29 : decode cX1_init 29 = .ok (.dup, 1) := by decide +kernel
theorem dX1_init_30 : decode cX1_init 30 = .ok (.invokespecial 24, 3) := by decide +kernel
theorem dX1_init_33 : decode cX1_init 33 = .ok (.putfield 25, 3) := by decide +kernel
theorem dX1_init_36 : decode cX1_init 36 = .ok (.aload_n 0, 1) := by decide +kernel
theorem dX1_init_37 : decode cX1_init 37 = .ok (.new 29, 3) := by decide +kernel
theorem dX1_init_40 : decode cX1_init 40 = .ok (.dup, 1) := by decide +kernel
theorem dX1_init_41 : decode cX1_init 41 = .ok (.invokespecial 31, 3) := by decide +kernel
theorem dX1_init_44 : decode cX1_init 44 = .ok (.putfield 32, 3) := by decide +kernel
theorem dX1_init_47 : decode cX1_init 47 = .ok (.return_, 1) := by decide +kernel
set_option maxRecDepth 20000 in
theorem ggX1_becomes_X0_becomes : GoodIn wsX1_becomes wsX0_becomes := goodIn_r _ [18, 19, 20, 21, 8, 9, 10, 22, 23, 24, 25, 26, 27, 28, 48, 49, 50, 51, 52, 53, 54, 55, 56, 57] rfl (by decide +kernel)
set_option maxRecDepth 20000 in
theorem gX1_becomes_X0_becomes : GoodIn wsX1_becomes (wsV RX1 54 RX0 yX0_becomes wsX0_becomes) := goodIn_app (goodIn_r _ [14, 15, 16, 17] rfl (by decide +kernel)) ggX1_becomes_X0_becomes
set_option maxRecDepth 20000 in
theorem ggX1_becomes_X4_becomes : GoodIn wsX1_becomes wsX4_becomes := goodIn_r _ [33, 34, 35, 36, 8, 9, 10, 37, 38, 58, 59, 60, 61, 62, 63] rfl (by decide +kernel)
set_option maxRecDepth 20000 in
theorem gX1_becomes_X4_becomes : GoodIn wsX1_becomes (wsV RX1 58 RX4 yX4_becomes wsX4_becomes) := goodIn_app (goodIn_r _ [29, 30, 31, 32] rfl (by decide +kernel)) ggX1_becomes_X4_becomes
theorem dX1_becomes_0 : decode cX1_becomes 0 = .ok (.aload_n 0, 1) := by decide +kernel
theorem dX1_becomes_1 : decode cX1_becomes 1 = .ok (.aload_n 1, 1) := by decide +kernel
theorem dX1_becomes_2 : decode cX1_becomes 2 = .ok (.getfield 36, 3) := by decide +kernel
theorem dX1_becomes_5 : decode cX1_becomes 5 = .ok (.putfield 36, 3) := by decide +kernel
theorem dX1_becomes_8 : decode cX1_becomes 8 = .ok (.aload_n 0, 1) := by decide +kernel
theorem dX1_becomes_9 : decode cX1_becomes 9 = .ok (.aload_n 1, 1) := by decide +kernel
theorem dX1_becomes_10 : decode cX1_becomes 10 = .ok (.getfield 39, 3) := by decide +kernel
theorem dX1_becomes_13 : decode cX1_becomes 13 = .ok (.putfield 39, 3) := by decide +kernel
theorem dX1_becomes_16 : decode cX1_becomes 16 = .ok (.aload_n 0, 1) := by decide +kernel
theorem dX1_becomes_17 : decode cX1_becomes 17 = .ok (.aload_n 1, 1) := by decide +kernel
theorem dX1_becomes_18 : decode cX1_becomes 18 = .ok (.getfield 42, 3) := by decide +kernel
theorem dX1_becomes_21 : decode cX1_becomes 21 = .ok (.putfield 42, 3) := by decide +kernel
theorem dX1_becomes_24 : decode cX1_becomes 24 = .ok (.aload_n 0, 1) := by decide +kernel
theorem dX1_becomes_25 : decode cX1_becomes 25 = .ok (.aload_n 1, 1) := by decide +kernel
theorem dX1_becomes_26 : decode cX1_becomes 26 = .ok (.getfield 9, 3) := by decide +kernel
theorem dX1_becomes_29 : decode cX1_becomes 29 = .ok (.putfield 9, 3) := by decide +kernel
theorem dX1_becomes_32 : decode cX1_becomes 32 = .ok (.aload_n 0, 1) := by decide +kernel
theorem dX1_becomes_33 : decode cX1_becomes 33 = .ok (.aload_n 1, 1) := by decide +kernel
theorem dX1_becomes_34 : decode cX1_becomes 34 = .ok (.getfield 45, 3) := by decide +kernel
theorem dX1_becomes_37 : decode cX1_becomes 37 = .ok (.putfield 45, 3) := by decide +kernel
theorem dX1_becomes_40 : decode cX1_becomes 40 = .ok (.aload_n 1, 1) := by decide +kernel
theorem dX1_becomes_41 : decode cX1_becomes 41 = .ok (.getfield 15, 3) := by decide +kernel
theorem dX1_becomes_44 : decode cX1_becomes 44 = .ok (.iconst 0, 1) := by decide +kernel
theorem dX1_becomes_45 : decode cX1_becomes 45 = .ok (.aload_n 0, 1) := by decide +kernel
theorem dX1_becomes_46 : decode cX1_becomes 46 = .ok (.getfield 15, 3) := by decide +kernel
theorem dX1_becomes_49 : decode cX1_becomes 49 = .ok (.iconst 0, 1) := by decide +kernel
theorem dX1_becomes_50 : decode cX1_becomes 50 = .ok (.aload_n 0, 1) := by decide +kernel
theorem dX1_becomes_51 : decode cX1_becomes 51 = .ok (.getfield 15, 3) := by decide +kernel
theorem dX1_becomes_54 : decode cX1_becomes 54 = .ok (.arraylength, 1) := by decide +kernel
theorem dX1_becomes_55 : decode cX1_becomes 55 = .ok (.invokestatic 48, 3) := by decide +kernel
theorem dX1_becomes_58 : decode cX1_becomes 58 = .ok (.aload_n 1, 1) := by decide +kernel
theorem dX1_becomes_59 : decode cX1_becomes 59 = .ok (.getfield 19, 3) := by decide +kernel
theorem dX1_becomes_62 : decode cX1_becomes 62 = .ok (.iconst 0, 1) := by decide +kernel
theorem dX1_becomes_63 : decode cX1_becomes 63 = .ok (.aload_n 0, 1) := by decide +kernel
theorem dX1_becomes_64 : decode cX1_becomes 64 = .ok (.getfield 19, 3) := by decide +kernel
theorem dX1_becomes_67 : decode cX1_becomes 67 = .ok (.iconst 0, 1) := by decide +kernel
theorem dX1_becomes_68 : decode cX1_becomes 68 = .ok (.aload_n 0, 1) := by decide +kernel
theorem dX1_becomes_69 : decode cX1_becomes 69 = .ok (.getfield 19, 3) := by decide +kernel
theorem dX1_becomes_72 : decode cX1_becomes 72 = .ok (.arraylength, 1) := by decide +kernel
theorem dX1_becomes_73 : decode cX1_becomes 73 = .ok (.invokestatic 48, 3) := by decide +kernel
theorem dX1_becomes_76 : decode cX1_becomes 76 = .ok (.aload_n 0, 1) := by decide +kernel
theorem dX1_becomes_77 : decode cX1_becomes 77 = .ok (.getfield 25, 3) := by decide +kernel
theorem dX1_becomes_80 : decode cX1_becomes 80 = .ok (.aload_n 1, 1) := by decide +kernel
theorem dX1_becomes_81 : decode cX1_becomes 81 = .ok (.getfield 25, 3) := by decide +kernel
theorem dX1_becomes_84 : decode cX1_becomes 84 = .ok (.invokevirtual 54, 3) := by decide +kernel
theorem dX1_becomes_87 : decode cX1_becomes 87 = .ok (.aload_n 0, 1) := by decide +kernel
theorem dX1_becomes_88 : decode cX1_becomes 88 = .ok (.getfield 32, 3) := by decide +kernel
theorem dX1_becomes_91 : decode cX1_becomes 91 = .ok (.aload_n 1, 1) := by decide +kernel
theorem dX1_becomes_92 : decode cX1_becomes 92 = .ok (.getfield 32, 3) := by decide +kernel
theorem dX1_becomes_95 : decode cX1_becomes 95 = .ok (.invokevirtual 58, 3) := by decide +kernel
theorem dX1_becomes_98 : decode cX1_becomes 98 = .ok (.return_, 1) := by decide +kernel
set_option maxRecDepth 20000 in
theorem ggX1_lets_X4_has : GoodIn wsX1_lets wsX4_has := goodIn_r _ [10, 11, 56, 57, 58, 59, 60, 61] rfl (by decide +kernel)
set_option maxRecDepth 20000 in
theorem gX1_lets_X4_has : GoodIn wsX1_lets (wsV RX1 61 RX4 yX4_has wsX4_has) := goodIn_app (goodIn_r _ [6, 7, 8, 9] rfl (by decide +kernel)) ggX1_lets_X4_has
set_option maxRecDepth 20000 in
theorem ggX1_lets_X0_backsBy : GoodIn wsX1_lets wsX0_backsBy := goodIn_r _ [16, 17, 18, 19, 20, 21, 22, 15, 23, 62, 63, 64, 65, 66, 67, 68, 69, 70, 71] rfl (by decide +kernel)
set_option maxRecDepth 20000 in
theorem gX1_lets_X0_backsBy : GoodIn wsX1_lets (wsV RX1 65 RX0 yX0_backsBy wsX0_backsBy) := goodIn_app (goodIn_r _ [12, 13, 14, 15] rfl (by decide +kernel)) ggX1_lets_X0_backsBy
set_option maxRecDepth 20000 in
theorem ggX1_lets_X0_pageSize : GoodIn wsX1_lets wsX0_pageSize := goodIn_r _ [27, 28, 17, 62, 63, 64, 65, 66, 67, 68, 69, 70, 71] rfl (by decide +kernel)
set_option maxRecDepth 20000 in
theorem gX1_lets_X0_pageSize : GoodIn wsX1_lets (wsV RX1 69 RX0 yX0_pageSize wsX0_pageSize) := goodIn_app (goodIn_r _ [24, 25, 26, 15] rfl (by decide +kernel)) ggX1_lets_X0_pageSize
set_option maxRecDepth 20000 in
theorem ggX1_lets_X0_doneBy : GoodIn wsX1_lets wsX0_doneBy := goodIn_r _ [32, 17, 18, 62, 63, 64, 65, 66, 67, 68, 69, 70, 71] rfl (by decide +kernel)
set_option maxRecDepth 20000 in
theorem gX1_lets_X0_doneBy : GoodIn wsX1_lets (wsV RX1 73 RX0 yX0_doneBy wsX0_doneBy) := goodIn_app (goodIn_r _ [29, 30, 31, 15] rfl (by decide +kernel)) ggX1_lets_X0_doneBy
set_option maxRecDepth 20000 in
theorem ggX1_lets_X4_names : GoodIn wsX1_lets wsX4_names := goodIn_r _ [36, 37, 56, 57, 58, 59, 60, 61] rfl (by decide +kernel)
set_option maxRecDepth 20000 in
theorem gX1_lets_X4_names : GoodIn wsX1_lets (wsV RX1 77 RX4 yX4_names wsX4_names) := goodIn_app (goodIn_r _ [33, 34, 35, 9] rfl (by decide +kernel)) ggX1_lets_X4_names
set_option maxRecDepth 20000 in
theorem ggX1_lets_X4_worked : GoodIn wsX1_lets wsX4_worked := goodIn_r _ [41, 11, 42, 43, 37, 44, 45, 9, 46, 56, 57, 58, 59, 60, 61] rfl (by decide +kernel)
set_option maxRecDepth 20000 in
theorem gX1_lets_X4_worked : GoodIn wsX1_lets (wsV RX1 81 RX4 yX4_worked wsX4_worked) := goodIn_app (goodIn_r _ [38, 39, 40, 9] rfl (by decide +kernel)) ggX1_lets_X4_worked
theorem dX1_lets_0 : decode cX1_lets 0 = .ok (.aload_n 0, 1) := by decide +kernel
theorem dX1_lets_1 : decode cX1_lets 1 = .ok (.getfield 36, 3) := by decide +kernel
theorem dX1_lets_4 : decode cX1_lets 4 = .ok (.aload_n 0, 1) := by decide +kernel
theorem dX1_lets_5 : decode cX1_lets 5 = .ok (.getfield 39, 3) := by decide +kernel
theorem dX1_lets_8 : decode cX1_lets 8 = .ok (.if_icmp .ge 13, 3) := by decide +kernel
theorem dX1_lets_11 : decode cX1_lets 11 = .ok (.iload_n 1, 1) := by decide +kernel
theorem dX1_lets_12 : decode cX1_lets 12 = .ok (.aload_n 0, 1) := by decide +kernel
theorem dX1_lets_13 : decode cX1_lets 13 = .ok (.getfield 42, 3) := by decide +kernel
theorem dX1_lets_16 : decode cX1_lets 16 = .ok (.if_icmp .eq 5, 3) := by decide +kernel
theorem dX1_lets_19 : decode cX1_lets 19 = .ok (.iconst 0, 1) := by decide +kernel
theorem dX1_lets_20 : decode cX1_lets 20 = .ok (.ireturn, 1) := by decide +kernel
theorem dX1_lets_21 : decode cX1_lets 21 = .ok (.aload_n 0, 1) := by decide +kernel
theorem dX1_lets_22 : decode cX1_lets 22 = .ok (.getfield 32, 3) := by decide +kernel
theorem dX1_lets_25 : decode cX1_lets 25 = .ok (.iconst 0, 1) := by decide +kernel
theorem dX1_lets_26 : decode cX1_lets 26 = .ok (.invokevirtual 61, 3) := by decide +kernel
theorem dX1_lets_29 : decode cX1_lets 29 = .ok (.ifCond .ne 5, 3) := by decide +kernel
theorem dX1_lets_32 : decode cX1_lets 32 = .ok (.iconst 1, 1) := by decide +kernel
theorem dX1_lets_33 : decode cX1_lets 33 = .ok (.ireturn, 1) := by decide +kernel
theorem dX1_lets_34 : decode cX1_lets 34 = .ok (.aload_n 0, 1) := by decide +kernel
theorem dX1_lets_35 : decode cX1_lets 35 = .ok (.getfield 32, 3) := by decide +kernel
theorem dX1_lets_38 : decode cX1_lets 38 = .ok (.aload_n 0, 1) := by decide +kernel
theorem dX1_lets_39 : decode cX1_lets 39 = .ok (.getfield 25, 3) := by decide +kernel
theorem dX1_lets_42 : decode cX1_lets 42 = .ok (.iload_n 1, 1) := by decide +kernel
theorem dX1_lets_43 : decode cX1_lets 43 = .ok (.aload_n 0, 1) := by decide +kernel
theorem dX1_lets_44 : decode cX1_lets 44 = .ok (.getfield 36, 3) := by decide +kernel
theorem dX1_lets_47 : decode cX1_lets 47 = .ok (.invokevirtual 65, 3) := by decide +kernel
theorem dX1_lets_50 : decode cX1_lets 50 = .ok (.iload_n 1, 1) := by decide +kernel
theorem dX1_lets_51 : decode cX1_lets 51 = .ok (.aload_n 0, 1) := by decide +kernel
theorem dX1_lets_52 : decode cX1_lets 52 = .ok (.getfield 36, 3) := by decide +kernel
theorem dX1_lets_55 : decode cX1_lets 55 = .ok (.sipush 1440, 3) := by decide +kernel
theorem dX1_lets_58 : decode cX1_lets 58 = .ok (.irem, 1) := by decide +kernel
theorem dX1_lets_59 : decode cX1_lets 59 = .ok (.aload_n 0, 1) := by decide +kernel
theorem dX1_lets_60 : decode cX1_lets 60 = .ok (.getfield 25, 3) := by decide +kernel
theorem dX1_lets_63 : decode cX1_lets 63 = .ok (.invokevirtual 69, 3) := by decide +kernel
theorem dX1_lets_66 : decode cX1_lets 66 = .ok (.aload_n 0, 1) := by decide +kernel
theorem dX1_lets_67 : decode cX1_lets 67 = .ok (.getfield 25, 3) := by decide +kernel
theorem dX1_lets_70 : decode cX1_lets 70 = .ok (.iload_n 1, 1) := by decide +kernel
theorem dX1_lets_71 : decode cX1_lets 71 = .ok (.invokevirtual 73, 3) := by decide +kernel
theorem dX1_lets_74 : decode cX1_lets 74 = .ok (.invokevirtual 77, 3) := by decide +kernel
theorem dX1_lets_77 : decode cX1_lets 77 = .ok (.aload_n 0, 1) := by decide +kernel
theorem dX1_lets_78 : decode cX1_lets 78 = .ok (.getfield 32, 3) := by decide +kernel
theorem dX1_lets_81 : decode cX1_lets 81 = .ok (.iconst 0, 1) := by decide +kernel
theorem dX1_lets_82 : decode cX1_lets 82 = .ok (.invokevirtual 81, 3) := by decide +kernel
theorem dX1_lets_85 : decode cX1_lets 85 = .ok (.ifCond .eq 7, 3) := by decide +kernel
theorem dX1_lets_88 : decode cX1_lets 88 = .ok (.iconst 1, 1) := by decide +kernel
theorem dX1_lets_89 : decode cX1_lets 89 = .ok (.goto 4, 3) := by decide +kernel
theorem dX1_lets_92 : decode cX1_lets 92 = .ok (.iconst 0, 1) := by decide +kernel
theorem dX1_lets_93 : decode cX1_lets 93 = .ok (.ireturn, 1) := by decide +kernel
set_option maxRecDepth 20000 in
theorem ggX1_refusesActing_X1_lets : GoodIn wsX1_refusesActing wsX1_lets := goodIn_r _ [6, 7, 8, 9, 10, 1, 11, 12, 13, 14, 15, 16, 17, 18, 19, 20, 21, 22, 23, 24, 25, 26, 27, 28, 29, 30, 31, 32, 33, 34, 35, 36, 37, 38, 39, 40, 41, 42, 43, 44, 45, 46, 47, 48, 49, 50, 51, 56, 57, 58, 59, 60, 61, 62, 63, 64, 65, 66, 67, 68, 69, 70, 71, 72, 73, 74, 75, 76, 77, 78, 79, 80] rfl (by decide +kernel)
set_option maxRecDepth 20000 in
theorem gX1_refusesActing_X1_lets : GoodIn wsX1_refusesActing (wsV RX1 84 RX1 yX1_lets wsX1_lets) := goodIn_app (goodIn_r _ [2, 3, 4, 5] rfl (by decide +kernel)) ggX1_refusesActing_X1_lets
set_option maxRecDepth 20000 in
theorem ggX1_refusesActing_X0_hasRoom : GoodIn wsX1_refusesActing wsX0_hasRoom := goodIn_r _ [55, 22, 71, 72, 73, 74, 75, 76, 77, 78, 79, 80] rfl (by decide +kernel)
set_option maxRecDepth 20000 in
theorem gX1_refusesActing_X0_hasRoom : GoodIn wsX1_refusesActing (wsV RX1 87 RX0 yX0_hasRoom wsX0_hasRoom) := goodIn_app (goodIn_r _ [52, 53, 54, 20] rfl (by decide +kernel)) ggX1_refusesActing_X0_hasRoom
theorem dX1_refusesActing_0 : decode cX1_refusesActing 0 = .ok (.aload_n 0, 1) := by decide +kernel
theorem dX1_refusesActing_1 : decode cX1_refusesActing 1 = .ok (.iload_n 1, 1) := by decide +kernel
theorem dX1_refusesActing_2 : decode cX1_refusesActing 2 = .ok (.invokevirtual 84, 3) := by decide +kernel
theorem dX1_refusesActing_5 : decode cX1_refusesActing 5 = .ok (.ifCond .ne 5, 3) := by decide +kernel
theorem dX1_refusesActing_8 : decode cX1_refusesActing 8 = .ok (.iconst 3, 1) := by decide +kernel
theorem dX1_refusesActing_9 : decode cX1_refusesActing 9 = .ok (.ireturn, 1) := by decide +kernel
theorem dX1_refusesActing_10 : decode cX1_refusesActing 10 = .ok (.aload_n 0, 1) := by decide +kernel
theorem dX1_refusesActing_11 : decode cX1_refusesActing 11 = .ok (.getfield 25, 3) := by decide +kernel
theorem dX1_refusesActing_14 : decode cX1_refusesActing 14 = .ok (.invokevirtual 87, 3) := by decide +kernel
theorem dX1_refusesActing_17 : decode cX1_refusesActing 17 = .ok (.ifCond .eq 7, 3) := by decide +kernel
theorem dX1_refusesActing_20 : decode cX1_refusesActing 20 = .ok (.iconst 0, 1) := by decide +kernel
theorem dX1_refusesActing_21 : decode cX1_refusesActing 21 = .ok (.goto 4, 3) := by decide +kernel
theorem dX1_refusesActing_24 : decode cX1_refusesActing 24 = .ok (.iconst 4, 1) := by decide +kernel
theorem dX1_refusesActing_25 : decode cX1_refusesActing 25 = .ok (.ireturn, 1) := by decide +kernel
set_option maxRecDepth 20000 in
theorem ggX1_refusesPutting_X0_pageSize : GoodIn wsX1_refusesPutting wsX0_pageSize := goodIn_r _ [6, 7, 8, 74, 75, 76, 77, 78, 79, 80, 81, 82, 83] rfl (by decide +kernel)
set_option maxRecDepth 20000 in
theorem gX1_refusesPutting_X0_pageSize : GoodIn wsX1_refusesPutting (wsV RX1 69 RX0 yX0_pageSize wsX0_pageSize) := goodIn_app (goodIn_r _ [2, 3, 4, 5] rfl (by decide +kernel)) ggX1_refusesPutting_X0_pageSize
set_option maxRecDepth 20000 in
theorem ggX1_refusesPutting_X6_isWriter : GoodIn wsX1_refusesPutting wsX6_isWriter := goodIn_r _ [11] rfl (by decide +kernel)
set_option maxRecDepth 20000 in
theorem gX1_refusesPutting_X6_isWriter_n91 : GoodIn wsX1_refusesPutting (wsX6_isWriter) := ggX1_refusesPutting_X6_isWriter
set_option maxRecDepth 20000 in
theorem ggX1_refusesPutting_X6_isWord : GoodIn wsX1_refusesPutting wsX6_isWord := goodIn_r _ [13] rfl (by decide +kernel)
set_option maxRecDepth 20000 in
theorem gX1_refusesPutting_X6_isWord_n94 : GoodIn wsX1_refusesPutting (wsX6_isWord) := ggX1_refusesPutting_X6_isWord
set_option maxRecDepth 20000 in
theorem ggX1_refusesPutting_X1_refusesActing : GoodIn wsX1_refusesPutting wsX1_refusesActing := goodIn_r _ [18, 1, 19, 20, 21, 17, 22, 23, 24, 25, 26, 27, 28, 29, 30, 31, 32, 33, 34, 35, 5, 36, 8, 37, 38, 39, 40, 41, 42, 2, 3, 4, 6, 7, 43, 44, 45, 46, 47, 48, 49, 50, 51, 52, 53, 54, 55, 56, 57, 58, 59, 60, 61, 62, 63, 64, 65, 66, 67, 68, 69, 70, 71, 72, 73, 84, 85, 86, 87, 88, 89, 74, 75, 76, 77, 78, 79, 80, 81, 82, 83] rfl (by decide +kernel)
set_option maxRecDepth 20000 in
theorem gX1_refusesPutting_X1_refusesActing : GoodIn wsX1_refusesPutting (wsV RX1 97 RX1 yX1_refusesActing wsX1_refusesActing) := goodIn_app (goodIn_r _ [14, 15, 16, 17] rfl (by decide +kernel)) ggX1_refusesPutting_X1_refusesActing
theorem dX1_refusesPutting_0 : decode cX1_refusesPutting 0 = .ok (.iload_n 1, 1) := by decide +kernel
theorem dX1_refusesPutting_1 : decode cX1_refusesPutting 1 = .ok (.iconst 1, 1) := by decide +kernel
theorem dX1_refusesPutting_2 : decode cX1_refusesPutting 2 = .ok (.if_icmp .eq 15, 3) := by decide +kernel
theorem dX1_refusesPutting_5 : decode cX1_refusesPutting 5 = .ok (.iload_n 1, 1) := by decide +kernel
theorem dX1_refusesPutting_6 : decode cX1_refusesPutting 6 = .ok (.iconst 4, 1) := by decide +kernel
theorem dX1_refusesPutting_7 : decode cX1_refusesPutting 7 = .ok (.if_icmp .eq 10, 3) := by decide +kernel
theorem dX1_refusesPutting_10 : decode cX1_refusesPutting 10 = .ok (.iload_n 1, 1) := by decide +kernel
theorem dX1_refusesPutting_11 : decode cX1_refusesPutting 11 = .ok (.iconst 5, 1) := by decide +kernel
theorem dX1_refusesPutting_12 : decode cX1_refusesPutting 12 = .ok (.if_icmp .eq 5, 3) := by decide +kernel
theorem dX1_refusesPutting_15 : decode cX1_refusesPutting 15 = .ok (.iconst 1, 1) := by decide +kernel
theorem dX1_refusesPutting_16 : decode cX1_refusesPutting 16 = .ok (.ireturn, 1) := by decide +kernel
theorem dX1_refusesPutting_17 : decode cX1_refusesPutting 17 = .ok (.iload_n 2, 1) := by decide +kernel
theorem dX1_refusesPutting_18 : decode cX1_refusesPutting 18 = .ok (.bipush 100, 2) := by decide +kernel
theorem dX1_refusesPutting_20 : decode cX1_refusesPutting 20 = .ok (.irem, 1) := by decide +kernel
theorem dX1_refusesPutting_21 : decode cX1_refusesPutting 21 = .ok (.istore 4, 2) := by decide +kernel
theorem dX1_refusesPutting_23 : decode cX1_refusesPutting 23 = .ok (.iload_n 1, 1) := by decide +kernel
theorem dX1_refusesPutting_24 : decode cX1_refusesPutting 24 = .ok (.iconst 5, 1) := by decide +kernel
theorem dX1_refusesPutting_25 : decode cX1_refusesPutting 25 = .ok (.if_icmp .ne 15, 3) := by decide +kernel
theorem dX1_refusesPutting_28 : decode cX1_refusesPutting 28 = .ok (.aload_n 0, 1) := by decide +kernel
theorem dX1_refusesPutting_29 : decode cX1_refusesPutting 29 = .ok (.getfield 25, 3) := by decide +kernel
theorem dX1_refusesPutting_32 : decode cX1_refusesPutting 32 = .ok (.invokevirtual 69, 3) := by decide +kernel
theorem dX1_refusesPutting_35 : decode cX1_refusesPutting 35 = .ok (.iconst 1, 1) := by decide +kernel
theorem dX1_refusesPutting_36 : decode cX1_refusesPutting 36 = .ok (.isub, 1) := by decide +kernel
theorem dX1_refusesPutting_37 : decode cX1_refusesPutting 37 = .ok (.goto 10, 3) := by decide +kernel
theorem dX1_refusesPutting_40 : decode cX1_refusesPutting 40 = .ok (.aload_n 0, 1) := by decide +kernel
theorem dX1_refusesPutting_41 : decode cX1_refusesPutting 41 = .ok (.getfield 25, 3) := by decide +kernel
theorem dX1_refusesPutting_44 : decode cX1_refusesPutting 44 = .ok (.invokevirtual 69, 3) := by decide +kernel
theorem dX1_refusesPutting_47 : decode cX1_refusesPutting 47 = .ok (.istore 5, 2) := by decide +kernel
theorem dX1_refusesPutting_49 : decode cX1_refusesPutting 49 = .ok (.iload_n 2, 1) := by decide +kernel
theorem dX1_refusesPutting_50 : decode cX1_refusesPutting 50 = .ok (.bipush 100, 2) := by decide +kernel
theorem dX1_refusesPutting_52 : decode cX1_refusesPutting 52 = .ok (.idiv, 1) := by decide +kernel
theorem dX1_refusesPutting_53 : decode cX1_refusesPutting 53 = .ok (.invokestatic 91, 3) := by decide +kernel
theorem dX1_refusesPutting_56 : decode cX1_refusesPutting 56 = .ok (.ifCond .eq 22, 3) := by decide +kernel
theorem dX1_refusesPutting_59 : decode cX1_refusesPutting 59 = .ok (.iload_n 3, 1) := by decide +kernel
theorem dX1_refusesPutting_60 : decode cX1_refusesPutting 60 = .ok (.invokestatic 94, 3) := by decide +kernel
theorem dX1_refusesPutting_63 : decode cX1_refusesPutting 63 = .ok (.ifCond .eq 15, 3) := by decide +kernel
theorem dX1_refusesPutting_66 : decode cX1_refusesPutting 66 = .ok (.iload 4, 2) := by decide +kernel
theorem dX1_refusesPutting_68 : decode cX1_refusesPutting 68 = .ok (.ifCond .lt 10, 3) := by decide +kernel
theorem dX1_refusesPutting_71 : decode cX1_refusesPutting 71 = .ok (.iload 4, 2) := by decide +kernel
theorem dX1_refusesPutting_73 : decode cX1_refusesPutting 73 = .ok (.iload 5, 2) := by decide +kernel
theorem dX1_refusesPutting_75 : decode cX1_refusesPutting 75 = .ok (.if_icmp .le 5, 3) := by decide +kernel
theorem dX1_refusesPutting_78 : decode cX1_refusesPutting 78 = .ok (.iconst 1, 1) := by decide +kernel
theorem dX1_refusesPutting_79 : decode cX1_refusesPutting 79 = .ok (.ireturn, 1) := by decide +kernel
theorem dX1_refusesPutting_80 : decode cX1_refusesPutting 80 = .ok (.aload_n 0, 1) := by decide +kernel
theorem dX1_refusesPutting_81 : decode cX1_refusesPutting 81 = .ok (.iload_n 2, 1) := by decide +kernel
theorem dX1_refusesPutting_82 : decode cX1_refusesPutting 82 = .ok (.bipush 100, 2) := by decide +kernel
theorem dX1_refusesPutting_84 : decode cX1_refusesPutting 84 = .ok (.idiv, 1) := by decide +kernel
theorem dX1_refusesPutting_85 : decode cX1_refusesPutting 85 = .ok (.invokevirtual 97, 3) := by decide +kernel
theorem dX1_refusesPutting_88 : decode cX1_refusesPutting 88 = .ok (.istore 6, 2) := by decide +kernel
theorem dX1_refusesPutting_90 : decode cX1_refusesPutting 90 = .ok (.iload 6, 2) := by decide +kernel
theorem dX1_refusesPutting_92 : decode cX1_refusesPutting 92 = .ok (.ifCond .ne 22, 3) := by decide +kernel
theorem dX1_refusesPutting_95 : decode cX1_refusesPutting 95 = .ok (.iload_n 1, 1) := by decide +kernel
theorem dX1_refusesPutting_96 : decode cX1_refusesPutting 96 = .ok (.iconst 5, 1) := by decide +kernel
theorem dX1_refusesPutting_97 : decode cX1_refusesPutting 97 = .ok (.if_icmp .eq 17, 3) := by decide +kernel
theorem dX1_refusesPutting_100 : decode cX1_refusesPutting 100 = .ok (.aload_n 0, 1) := by decide +kernel
theorem dX1_refusesPutting_101 : decode cX1_refusesPutting 101 = .ok (.getfield 25, 3) := by decide +kernel
theorem dX1_refusesPutting_104 : decode cX1_refusesPutting 104 = .ok (.invokevirtual 69, 3) := by decide +kernel
theorem dX1_refusesPutting_107 : decode cX1_refusesPutting 107 = .ok (.bipush 20, 2) := by decide +kernel
theorem dX1_refusesPutting_109 : decode cX1_refusesPutting 109 = .ok (.if_icmp .lt 5, 3) := by decide +kernel
theorem dX1_refusesPutting_112 : decode cX1_refusesPutting 112 = .ok (.iconst 4, 1) := by decide +kernel
theorem dX1_refusesPutting_113 : decode cX1_refusesPutting 113 = .ok (.ireturn, 1) := by decide +kernel
theorem dX1_refusesPutting_114 : decode cX1_refusesPutting 114 = .ok (.iload 6, 2) := by decide +kernel
theorem dX1_refusesPutting_116 : decode cX1_refusesPutting 116 = .ok (.ireturn, 1) := by decide +kernel
set_option maxRecDepth 20000 in
theorem ggX1_puts_X0_draftsMending : GoodIn wsX1_puts wsX0_draftsMending := goodIn_r _ [7, 8, 9, 10, 11, 12, 6, 13, 14, 15, 16, 17, 18, 19, 20, 21, 22, 23, 24, 25, 57, 58, 59, 60, 61, 62, 63, 64, 65, 66] rfl (by decide +kernel)
set_option maxRecDepth 20000 in
theorem gX1_puts_X0_draftsMending : GoodIn wsX1_puts (wsV RX1 100 RX0 yX0_draftsMending wsX0_draftsMending) := goodIn_app (goodIn_r _ [3, 4, 5, 6] rfl (by decide +kernel)) ggX1_puts_X0_draftsMending
set_option maxRecDepth 20000 in
theorem ggX1_puts_X0_draftsPutting : GoodIn wsX1_puts wsX0_draftsPutting := goodIn_r _ [29, 8, 14, 9, 22, 23, 24, 25, 57, 58, 59, 60, 61, 62, 63, 64, 65, 66] rfl (by decide +kernel)
set_option maxRecDepth 20000 in
theorem gX1_puts_X0_draftsPutting : GoodIn wsX1_puts (wsV RX1 104 RX0 yX0_draftsPutting wsX0_draftsPutting) := goodIn_app (goodIn_r _ [26, 27, 28, 6] rfl (by decide +kernel)) ggX1_puts_X0_draftsPutting
set_option maxRecDepth 20000 in
theorem ggX1_puts_X0_records : GoodIn wsX1_puts wsX0_records := goodIn_r _ [33, 8, 34, 35, 36, 37, 38, 39, 40, 41, 42, 6, 43, 14, 44, 45, 46, 47, 9, 57, 58, 59, 60, 61, 62, 63, 64, 65, 66] rfl (by decide +kernel)
set_option maxRecDepth 20000 in
theorem gX1_puts_X0_records : GoodIn wsX1_puts (wsV RX1 107 RX0 yX0_records wsX0_records) := goodIn_app (goodIn_r _ [30, 31, 32, 6] rfl (by decide +kernel)) ggX1_puts_X0_records
theorem dX1_puts_0 : decode cX1_puts 0 = .ok (.iload_n 1, 1) := by decide +kernel
theorem dX1_puts_1 : decode cX1_puts 1 = .ok (.iconst 5, 1) := by decide +kernel
theorem dX1_puts_2 : decode cX1_puts 2 = .ok (.if_icmp .ne 18, 3) := by decide +kernel
theorem dX1_puts_5 : decode cX1_puts 5 = .ok (.aload_n 0, 1) := by decide +kernel
theorem dX1_puts_6 : decode cX1_puts 6 = .ok (.getfield 25, 3) := by decide +kernel
theorem dX1_puts_9 : decode cX1_puts 9 = .ok (.iload_n 2, 1) := by decide +kernel
theorem dX1_puts_10 : decode cX1_puts 10 = .ok (.bipush 100, 2) := by decide +kernel
theorem dX1_puts_12 : decode cX1_puts 12 = .ok (.irem, 1) := by decide +kernel
theorem dX1_puts_13 : decode cX1_puts 13 = .ok (.iload_n 3, 1) := by decide +kernel
theorem dX1_puts_14 : decode cX1_puts 14 = .ok (.invokevirtual 100, 3) := by decide +kernel
theorem dX1_puts_17 : decode cX1_puts 17 = .ok (.goto 15, 3) := by decide +kernel
theorem dX1_puts_20 : decode cX1_puts 20 = .ok (.aload_n 0, 1) := by decide +kernel
theorem dX1_puts_21 : decode cX1_puts 21 = .ok (.getfield 25, 3) := by decide +kernel
theorem dX1_puts_24 : decode cX1_puts 24 = .ok (.iload_n 2, 1) := by decide +kernel
theorem dX1_puts_25 : decode cX1_puts 25 = .ok (.bipush 100, 2) := by decide +kernel
theorem dX1_puts_27 : decode cX1_puts 27 = .ok (.irem, 1) := by decide +kernel
theorem dX1_puts_28 : decode cX1_puts 28 = .ok (.iload_n 3, 1) := by decide +kernel
theorem dX1_puts_29 : decode cX1_puts 29 = .ok (.invokevirtual 104, 3) := by decide +kernel
theorem dX1_puts_32 : decode cX1_puts 32 = .ok (.aload_n 0, 1) := by decide +kernel
theorem dX1_puts_33 : decode cX1_puts 33 = .ok (.getfield 25, 3) := by decide +kernel
theorem dX1_puts_36 : decode cX1_puts 36 = .ok (.iload_n 1, 1) := by decide +kernel
theorem dX1_puts_37 : decode cX1_puts 37 = .ok (.iload_n 2, 1) := by decide +kernel
theorem dX1_puts_38 : decode cX1_puts 38 = .ok (.bipush 100, 2) := by decide +kernel
theorem dX1_puts_40 : decode cX1_puts 40 = .ok (.idiv, 1) := by decide +kernel
theorem dX1_puts_41 : decode cX1_puts 41 = .ok (.aload_n 0, 1) := by decide +kernel
theorem dX1_puts_42 : decode cX1_puts 42 = .ok (.getfield 36, 3) := by decide +kernel
theorem dX1_puts_45 : decode cX1_puts 45 = .ok (.iload_n 3, 1) := by decide +kernel
theorem dX1_puts_46 : decode cX1_puts 46 = .ok (.invokevirtual 107, 3) := by decide +kernel
theorem dX1_puts_49 : decode cX1_puts 49 = .ok (.ireturn, 1) := by decide +kernel
set_option maxRecDepth 20000 in
theorem ggX1_takesOut_X0_wordAt : GoodIn wsX1_takesOut wsX0_wordAt := goodIn_r _ [7, 8, 43, 44, 45, 46, 47, 48, 49, 50, 51, 52] rfl (by decide +kernel)
set_option maxRecDepth 20000 in
theorem gX1_takesOut_X0_wordAt : GoodIn wsX1_takesOut (wsV RX1 114 RX0 yX0_wordAt wsX0_wordAt) := goodIn_app (goodIn_r _ [3, 4, 5, 6] rfl (by decide +kernel)) ggX1_takesOut_X0_wordAt
set_option maxRecDepth 20000 in
theorem ggX1_takesOut_X0_draftsTakingOut : GoodIn wsX1_takesOut wsX0_draftsTakingOut := goodIn_r _ [12, 13, 14, 8, 15, 16, 17, 18, 43, 44, 45, 46, 47, 48, 49, 50, 51, 52] rfl (by decide +kernel)
set_option maxRecDepth 20000 in
theorem gX1_takesOut_X0_draftsTakingOut : GoodIn wsX1_takesOut (wsV RX1 117 RX0 yX0_draftsTakingOut wsX0_draftsTakingOut) := goodIn_app (goodIn_r _ [9, 10, 11, 6] rfl (by decide +kernel)) ggX1_takesOut_X0_draftsTakingOut
set_option maxRecDepth 20000 in
theorem ggX1_takesOut_X0_records : GoodIn wsX1_takesOut wsX0_records := goodIn_r _ [22, 13, 23, 24, 25, 26, 27, 28, 29, 30, 31, 6, 32, 14, 33, 4, 5, 7, 8, 43, 44, 45, 46, 47, 48, 49, 50, 51, 52] rfl (by decide +kernel)
set_option maxRecDepth 20000 in
theorem gX1_takesOut_X0_records : GoodIn wsX1_takesOut (wsV RX1 107 RX0 yX0_records wsX0_records) := goodIn_app (goodIn_r _ [19, 20, 21, 6] rfl (by decide +kernel)) ggX1_takesOut_X0_records
theorem dX1_takesOut_0 : decode cX1_takesOut 0 = .ok (.aload_n 0, 1) := by decide +kernel
theorem dX1_takesOut_1 : decode cX1_takesOut 1 = .ok (.getfield 25, 3) := by decide +kernel
theorem dX1_takesOut_4 : decode cX1_takesOut 4 = .ok (.aload_n 0, 1) := by decide +kernel
theorem dX1_takesOut_5 : decode cX1_takesOut 5 = .ok (.getfield 25, 3) := by decide +kernel
theorem dX1_takesOut_8 : decode cX1_takesOut 8 = .ok (.getfield 111, 3) := by decide +kernel
theorem dX1_takesOut_11 : decode cX1_takesOut 11 = .ok (.iload_n 2, 1) := by decide +kernel
theorem dX1_takesOut_12 : decode cX1_takesOut 12 = .ok (.invokevirtual 114, 3) := by decide +kernel
theorem dX1_takesOut_15 : decode cX1_takesOut 15 = .ok (.istore_n 3, 1) := by decide +kernel
theorem dX1_takesOut_16 : decode cX1_takesOut 16 = .ok (.aload_n 0, 1) := by decide +kernel
theorem dX1_takesOut_17 : decode cX1_takesOut 17 = .ok (.getfield 25, 3) := by decide +kernel
theorem dX1_takesOut_20 : decode cX1_takesOut 20 = .ok (.iload_n 2, 1) := by decide +kernel
theorem dX1_takesOut_21 : decode cX1_takesOut 21 = .ok (.invokevirtual 117, 3) := by decide +kernel
theorem dX1_takesOut_24 : decode cX1_takesOut 24 = .ok (.aload_n 0, 1) := by decide +kernel
theorem dX1_takesOut_25 : decode cX1_takesOut 25 = .ok (.getfield 25, 3) := by decide +kernel
theorem dX1_takesOut_28 : decode cX1_takesOut 28 = .ok (.iconst 0, 1) := by decide +kernel
theorem dX1_takesOut_29 : decode cX1_takesOut 29 = .ok (.iload_n 1, 1) := by decide +kernel
theorem dX1_takesOut_30 : decode cX1_takesOut 30 = .ok (.aload_n 0, 1) := by decide +kernel
theorem dX1_takesOut_31 : decode cX1_takesOut 31 = .ok (.getfield 36, 3) := by decide +kernel
theorem dX1_takesOut_34 : decode cX1_takesOut 34 = .ok (.iload_n 3, 1) := by decide +kernel
theorem dX1_takesOut_35 : decode cX1_takesOut 35 = .ok (.invokevirtual 107, 3) := by decide +kernel
theorem dX1_takesOut_38 : decode cX1_takesOut 38 = .ok (.ireturn, 1) := by decide +kernel
set_option maxRecDepth 20000 in
theorem ggX1_putsBack_X0_draftsHalf : GoodIn wsX1_putsBack wsX0_draftsHalf := goodIn_r _ [7, 8, 9, 10, 11, 12, 13, 14, 15, 16, 17, 18, 19, 20, 21, 49, 50, 51, 52, 53, 54, 55, 56, 57, 58] rfl (by decide +kernel)
set_option maxRecDepth 20000 in
theorem gX1_putsBack_X0_draftsHalf : GoodIn wsX1_putsBack (wsV RX1 121 RX0 yX0_draftsHalf wsX0_draftsHalf) := goodIn_app (goodIn_r _ [3, 4, 5, 6] rfl (by decide +kernel)) ggX1_putsBack_X0_draftsHalf
set_option maxRecDepth 20000 in
theorem ggX1_putsBack_X0_records : GoodIn wsX1_putsBack wsX0_records := goodIn_r _ [25, 8, 26, 27, 28, 29, 30, 31, 32, 33, 34, 6, 35, 9, 36, 37, 38, 39, 17, 49, 50, 51, 52, 53, 54, 55, 56, 57, 58] rfl (by decide +kernel)
set_option maxRecDepth 20000 in
theorem gX1_putsBack_X0_records : GoodIn wsX1_putsBack (wsV RX1 107 RX0 yX0_records wsX0_records) := goodIn_app (goodIn_r _ [22, 23, 24, 6] rfl (by decide +kernel)) ggX1_putsBack_X0_records
theorem dX1_putsBack_0 : decode cX1_putsBack 0 = .ok (.aload_n 0, 1) := by decide +kernel
theorem dX1_putsBack_1 : decode cX1_putsBack 1 = .ok (.getfield 25, 3) := by decide +kernel
theorem dX1_putsBack_4 : decode cX1_putsBack 4 = .ok (.iload_n 3, 1) := by decide +kernel
theorem dX1_putsBack_5 : decode cX1_putsBack 5 = .ok (.iload 4, 2) := by decide +kernel
theorem dX1_putsBack_7 : decode cX1_putsBack 7 = .ok (.invokevirtual 121, 3) := by decide +kernel
theorem dX1_putsBack_10 : decode cX1_putsBack 10 = .ok (.aload_n 0, 1) := by decide +kernel
theorem dX1_putsBack_11 : decode cX1_putsBack 11 = .ok (.getfield 25, 3) := by decide +kernel
theorem dX1_putsBack_14 : decode cX1_putsBack 14 = .ok (.iload_n 1, 1) := by decide +kernel
theorem dX1_putsBack_15 : decode cX1_putsBack 15 = .ok (.iload_n 2, 1) := by decide +kernel
theorem dX1_putsBack_16 : decode cX1_putsBack 16 = .ok (.aload_n 0, 1) := by decide +kernel
theorem dX1_putsBack_17 : decode cX1_putsBack 17 = .ok (.getfield 36, 3) := by decide +kernel
theorem dX1_putsBack_20 : decode cX1_putsBack 20 = .ok (.iload_n 3, 1) := by decide +kernel
theorem dX1_putsBack_21 : decode cX1_putsBack 21 = .ok (.invokevirtual 107, 3) := by decide +kernel
theorem dX1_putsBack_24 : decode cX1_putsBack 24 = .ok (.ireturn, 1) := by decide +kernel
set_option maxRecDepth 20000 in
theorem ggX1_shutsFor_X0_draftsSame : GoodIn wsX1_shutsFor wsX0_draftsSame := goodIn_r _ [9, 10, 11, 12, 13, 8, 14, 15, 16, 17, 18, 19, 20, 21, 22, 23, 24, 25, 26, 27, 55, 56, 57, 58, 59, 60, 61, 62, 63, 64] rfl (by decide +kernel)
set_option maxRecDepth 20000 in
theorem gX1_shutsFor_X0_draftsSame : GoodIn wsX1_shutsFor (wsV RX1 124 RX0 yX0_draftsSame wsX0_draftsSame) := goodIn_app (goodIn_r _ [5, 6, 7, 8] rfl (by decide +kernel)) ggX1_shutsFor_X0_draftsSame
set_option maxRecDepth 20000 in
theorem ggX1_shutsFor_X0_records : GoodIn wsX1_shutsFor wsX0_records := goodIn_r _ [31, 10, 32, 33, 34, 35, 36, 37, 38, 39, 40, 8, 41, 15, 42, 43, 44, 45, 23, 55, 56, 57, 58, 59, 60, 61, 62, 63, 64] rfl (by decide +kernel)
set_option maxRecDepth 20000 in
theorem gX1_shutsFor_X0_records : GoodIn wsX1_shutsFor (wsV RX1 107 RX0 yX0_records wsX0_records) := goodIn_app (goodIn_r _ [28, 29, 30, 8] rfl (by decide +kernel)) ggX1_shutsFor_X0_records
theorem dX1_shutsFor_0 : decode cX1_shutsFor 0 = .ok (.aload_n 0, 1) := by decide +kernel
theorem dX1_shutsFor_1 : decode cX1_shutsFor 1 = .ok (.aload_n 0, 1) := by decide +kernel
theorem dX1_shutsFor_2 : decode cX1_shutsFor 2 = .ok (.getfield 36, 3) := by decide +kernel
theorem dX1_shutsFor_5 : decode cX1_shutsFor 5 = .ok (.iload_n 2, 1) := by decide +kernel
theorem dX1_shutsFor_6 : decode cX1_shutsFor 6 = .ok (.iadd, 1) := by decide +kernel
theorem dX1_shutsFor_7 : decode cX1_shutsFor 7 = .ok (.putfield 39, 3) := by decide +kernel
theorem dX1_shutsFor_10 : decode cX1_shutsFor 10 = .ok (.aload_n 0, 1) := by decide +kernel
theorem dX1_shutsFor_11 : decode cX1_shutsFor 11 = .ok (.iload_n 1, 1) := by decide +kernel
theorem dX1_shutsFor_12 : decode cX1_shutsFor 12 = .ok (.putfield 42, 3) := by decide +kernel
theorem dX1_shutsFor_15 : decode cX1_shutsFor 15 = .ok (.aload_n 0, 1) := by decide +kernel
theorem dX1_shutsFor_16 : decode cX1_shutsFor 16 = .ok (.getfield 25, 3) := by decide +kernel
theorem dX1_shutsFor_19 : decode cX1_shutsFor 19 = .ok (.invokevirtual 124, 3) := by decide +kernel
theorem dX1_shutsFor_22 : decode cX1_shutsFor 22 = .ok (.aload_n 0, 1) := by decide +kernel
theorem dX1_shutsFor_23 : decode cX1_shutsFor 23 = .ok (.getfield 25, 3) := by decide +kernel
theorem dX1_shutsFor_26 : decode cX1_shutsFor 26 = .ok (.bipush 6, 2) := by decide +kernel
theorem dX1_shutsFor_28 : decode cX1_shutsFor 28 = .ok (.iload_n 1, 1) := by decide +kernel
theorem dX1_shutsFor_29 : decode cX1_shutsFor 29 = .ok (.aload_n 0, 1) := by decide +kernel
theorem dX1_shutsFor_30 : decode cX1_shutsFor 30 = .ok (.getfield 36, 3) := by decide +kernel
theorem dX1_shutsFor_33 : decode cX1_shutsFor 33 = .ok (.aload_n 0, 1) := by decide +kernel
theorem dX1_shutsFor_34 : decode cX1_shutsFor 34 = .ok (.getfield 39, 3) := by decide +kernel
theorem dX1_shutsFor_37 : decode cX1_shutsFor 37 = .ok (.invokevirtual 107, 3) := by decide +kernel
theorem dX1_shutsFor_40 : decode cX1_shutsFor 40 = .ok (.ireturn, 1) := by decide +kernel
set_option maxRecDepth 20000 in
theorem ggX1_talksOf_X0_draftsSame : GoodIn wsX1_talksOf wsX0_draftsSame := goodIn_r _ [7, 8, 9, 10, 11, 6, 12, 13, 14, 15, 16, 17, 18, 19, 20, 21, 22, 23, 24, 25, 53, 54, 55, 56, 57, 58, 59, 60, 61, 62] rfl (by decide +kernel)
set_option maxRecDepth 20000 in
theorem gX1_talksOf_X0_draftsSame : GoodIn wsX1_talksOf (wsV RX1 124 RX0 yX0_draftsSame wsX0_draftsSame) := goodIn_app (goodIn_r _ [3, 4, 5, 6] rfl (by decide +kernel)) ggX1_talksOf_X0_draftsSame
set_option maxRecDepth 20000 in
theorem ggX1_talksOf_X0_records : GoodIn wsX1_talksOf wsX0_records := goodIn_r _ [29, 8, 30, 31, 32, 33, 34, 35, 36, 37, 38, 6, 39, 13, 40, 41, 42, 43, 21, 53, 54, 55, 56, 57, 58, 59, 60, 61, 62] rfl (by decide +kernel)
set_option maxRecDepth 20000 in
theorem gX1_talksOf_X0_records : GoodIn wsX1_talksOf (wsV RX1 107 RX0 yX0_records wsX0_records) := goodIn_app (goodIn_r _ [26, 27, 28, 6] rfl (by decide +kernel)) ggX1_talksOf_X0_records
theorem dX1_talksOf_0 : decode cX1_talksOf 0 = .ok (.aload_n 0, 1) := by decide +kernel
theorem dX1_talksOf_1 : decode cX1_talksOf 1 = .ok (.getfield 25, 3) := by decide +kernel
theorem dX1_talksOf_4 : decode cX1_talksOf 4 = .ok (.invokevirtual 124, 3) := by decide +kernel
theorem dX1_talksOf_7 : decode cX1_talksOf 7 = .ok (.aload_n 0, 1) := by decide +kernel
theorem dX1_talksOf_8 : decode cX1_talksOf 8 = .ok (.getfield 25, 3) := by decide +kernel
theorem dX1_talksOf_11 : decode cX1_talksOf 11 = .ok (.bipush 7, 2) := by decide +kernel
theorem dX1_talksOf_13 : decode cX1_talksOf 13 = .ok (.iload_n 1, 1) := by decide +kernel
theorem dX1_talksOf_14 : decode cX1_talksOf 14 = .ok (.aload_n 0, 1) := by decide +kernel
theorem dX1_talksOf_15 : decode cX1_talksOf 15 = .ok (.getfield 36, 3) := by decide +kernel
theorem dX1_talksOf_18 : decode cX1_talksOf 18 = .ok (.iload_n 2, 1) := by decide +kernel
theorem dX1_talksOf_19 : decode cX1_talksOf 19 = .ok (.invokevirtual 107, 3) := by decide +kernel
theorem dX1_talksOf_22 : decode cX1_talksOf 22 = .ok (.ireturn, 1) := by decide +kernel
set_option maxRecDepth 20000 in
theorem ggX1_machineAnswers_X4_has : GoodIn wsX1_machineAnswers wsX4_has := goodIn_r _ [7, 8, 114, 115, 116, 117, 118, 119] rfl (by decide +kernel)
set_option maxRecDepth 20000 in
theorem gX1_machineAnswers_X4_has : GoodIn wsX1_machineAnswers (wsV RX1 61 RX4 yX4_has wsX4_has) := goodIn_app (goodIn_r _ [3, 4, 5, 6] rfl (by decide +kernel)) ggX1_machineAnswers_X4_has
set_option maxRecDepth 20000 in
theorem ggX1_machineAnswers_X0_undoneBy : GoodIn wsX1_machineAnswers wsX0_undoneBy := goodIn_r _ [13, 14, 104, 105, 106, 107, 108, 109, 110, 111, 112, 113] rfl (by decide +kernel)
set_option maxRecDepth 20000 in
theorem gX1_machineAnswers_X0_undoneBy : GoodIn wsX1_machineAnswers (wsV RX1 136 RX0 yX0_undoneBy wsX0_undoneBy) := goodIn_app (goodIn_r _ [9, 10, 11, 12] rfl (by decide +kernel)) ggX1_machineAnswers_X0_undoneBy
set_option maxRecDepth 20000 in
theorem ggX1_machineAnswers_X4_names : GoodIn wsX1_machineAnswers wsX4_names := goodIn_r _ [18, 19, 114, 115, 116, 117, 118, 119] rfl (by decide +kernel)
set_option maxRecDepth 20000 in
theorem gX1_machineAnswers_X4_names : GoodIn wsX1_machineAnswers (wsV RX1 77 RX4 yX4_names wsX4_names) := goodIn_app (goodIn_r _ [15, 16, 17, 6] rfl (by decide +kernel)) ggX1_machineAnswers_X4_names
set_option maxRecDepth 20000 in
theorem ggX1_machineAnswers_X4_worked : GoodIn wsX1_machineAnswers wsX4_worked := goodIn_r _ [23, 8, 24, 25, 19, 26, 27, 6, 28, 114, 115, 116, 117, 118, 119] rfl (by decide +kernel)
set_option maxRecDepth 20000 in
theorem gX1_machineAnswers_X4_worked : GoodIn wsX1_machineAnswers (wsV RX1 81 RX4 yX4_worked wsX4_worked) := goodIn_app (goodIn_r _ [20, 21, 22, 6] rfl (by decide +kernel)) ggX1_machineAnswers_X4_worked
set_option maxRecDepth 20000 in
theorem ggX1_machineAnswers_X0_hasRoom : GoodIn wsX1_machineAnswers wsX0_hasRoom := goodIn_r _ [32, 33, 104, 105, 106, 107, 108, 109, 110, 111, 112, 113] rfl (by decide +kernel)
set_option maxRecDepth 20000 in
theorem gX1_machineAnswers_X0_hasRoom : GoodIn wsX1_machineAnswers (wsV RX1 87 RX0 yX0_hasRoom wsX0_hasRoom) := goodIn_app (goodIn_r _ [29, 30, 31, 12] rfl (by decide +kernel)) ggX1_machineAnswers_X0_hasRoom
set_option maxRecDepth 20000 in
theorem ggX1_machineAnswers_X1_lets : GoodIn wsX1_machineAnswers wsX1_lets := goodIn_r _ [38, 39, 40, 41, 2, 1, 3, 4, 5, 6, 7, 8, 42, 43, 44, 12, 45, 33, 46, 47, 48, 49, 50, 51, 52, 53, 54, 55, 56, 57, 58, 59, 60, 15, 16, 17, 18, 19, 20, 21, 22, 23, 24, 25, 26, 27, 28, 95, 96, 97, 98, 99, 100, 101, 102, 103, 114, 115, 116, 117, 118, 119, 104, 105, 106, 107, 108, 109, 110, 111, 112, 113] rfl (by decide +kernel)
set_option maxRecDepth 20000 in
theorem gX1_machineAnswers_X1_lets : GoodIn wsX1_machineAnswers (wsV RX1 84 RX1 yX1_lets wsX1_lets) := goodIn_app (goodIn_r _ [34, 35, 36, 37] rfl (by decide +kernel)) ggX1_machineAnswers_X1_lets
set_option maxRecDepth 20000 in
theorem ggX1_machineAnswers_X1_putsBack : GoodIn wsX1_machineAnswers wsX1_putsBack := goodIn_r _ [64, 1, 39, 65, 66, 67, 12, 68, 33, 56, 69, 70, 71, 72, 73, 74, 75, 76, 77, 78, 79, 80, 81, 82, 83, 84, 48, 46, 47, 85, 14, 86, 87, 88, 89, 90, 91, 92, 93, 94, 95, 96, 97, 98, 99, 100, 101, 102, 103, 104, 105, 106, 107, 108, 109, 110, 111, 112, 113] rfl (by decide +kernel)
set_option maxRecDepth 20000 in
theorem gX1_machineAnswers_X1_putsBack : GoodIn wsX1_machineAnswers (wsV RX1 139 RX1 yX1_putsBack wsX1_putsBack) := goodIn_app (goodIn_r _ [61, 62, 63, 37] rfl (by decide +kernel)) ggX1_machineAnswers_X1_putsBack
theorem dX1_machineAnswers_0 : decode cX1_machineAnswers 0 = .ok (.aload_n 0, 1) := by decide +kernel
theorem dX1_machineAnswers_1 : decode cX1_machineAnswers 1 = .ok (.getfield 25, 3) := by decide +kernel
theorem dX1_machineAnswers_4 : decode cX1_machineAnswers 4 = .ok (.getfield 127, 3) := by decide +kernel
theorem dX1_machineAnswers_7 : decode cX1_machineAnswers 7 = .ok (.iload_n 1, 1) := by decide +kernel
theorem dX1_machineAnswers_8 : decode cX1_machineAnswers 8 = .ok (.iaload, 1) := by decide +kernel
theorem dX1_machineAnswers_9 : decode cX1_machineAnswers 9 = .ok (.bipush 7, 2) := by decide +kernel
theorem dX1_machineAnswers_11 : decode cX1_machineAnswers 11 = .ok (.if_icmp .eq 14, 3) := by decide +kernel
theorem dX1_machineAnswers_14 : decode cX1_machineAnswers 14 = .ok (.aload_n 0, 1) := by decide +kernel
theorem dX1_machineAnswers_15 : decode cX1_machineAnswers 15 = .ok (.getfield 32, 3) := by decide +kernel
theorem dX1_machineAnswers_18 : decode cX1_machineAnswers 18 = .ok (.iconst 1, 1) := by decide +kernel
theorem dX1_machineAnswers_19 : decode cX1_machineAnswers 19 = .ok (.invokevirtual 61, 3) := by decide +kernel
theorem dX1_machineAnswers_22 : decode cX1_machineAnswers 22 = .ok (.ifCond .ne 4, 3) := by decide +kernel
theorem dX1_machineAnswers_25 : decode cX1_machineAnswers 25 = .ok (.return_, 1) := by decide +kernel
theorem dX1_machineAnswers_26 : decode cX1_machineAnswers 26 = .ok (.aload_n 0, 1) := by decide +kernel
theorem dX1_machineAnswers_27 : decode cX1_machineAnswers 27 = .ok (.getfield 25, 3) := by decide +kernel
theorem dX1_machineAnswers_30 : decode cX1_machineAnswers 30 = .ok (.getfield 130, 3) := by decide +kernel
theorem dX1_machineAnswers_33 : decode cX1_machineAnswers 33 = .ok (.iload_n 1, 1) := by decide +kernel
theorem dX1_machineAnswers_34 : decode cX1_machineAnswers 34 = .ok (.iconst 1, 1) := by decide +kernel
theorem dX1_machineAnswers_35 : decode cX1_machineAnswers 35 = .ok (.iadd, 1) := by decide +kernel
theorem dX1_machineAnswers_36 : decode cX1_machineAnswers 36 = .ok (.iaload, 1) := by decide +kernel
theorem dX1_machineAnswers_37 : decode cX1_machineAnswers 37 = .ok (.istore_n 2, 1) := by decide +kernel
theorem dX1_machineAnswers_38 : decode cX1_machineAnswers 38 = .ok (.aload_n 0, 1) := by decide +kernel
theorem dX1_machineAnswers_39 : decode cX1_machineAnswers 39 = .ok (.getfield 32, 3) := by decide +kernel
theorem dX1_machineAnswers_42 : decode cX1_machineAnswers 42 = .ok (.aload_n 0, 1) := by decide +kernel
theorem dX1_machineAnswers_43 : decode cX1_machineAnswers 43 = .ok (.getfield 25, 3) := by decide +kernel
theorem dX1_machineAnswers_46 : decode cX1_machineAnswers 46 = .ok (.getfield 133, 3) := by decide +kernel
theorem dX1_machineAnswers_49 : decode cX1_machineAnswers 49 = .ok (.iload_n 1, 1) := by decide +kernel
theorem dX1_machineAnswers_50 : decode cX1_machineAnswers 50 = .ok (.iaload, 1) := by decide +kernel
theorem dX1_machineAnswers_51 : decode cX1_machineAnswers 51 = .ok (.aload_n 0, 1) := by decide +kernel
theorem dX1_machineAnswers_52 : decode cX1_machineAnswers 52 = .ok (.getfield 25, 3) := by decide +kernel
theorem dX1_machineAnswers_55 : decode cX1_machineAnswers 55 = .ok (.getfield 127, 3) := by decide +kernel
theorem dX1_machineAnswers_58 : decode cX1_machineAnswers 58 = .ok (.iload_n 1, 1) := by decide +kernel
theorem dX1_machineAnswers_59 : decode cX1_machineAnswers 59 = .ok (.iaload, 1) := by decide +kernel
theorem dX1_machineAnswers_60 : decode cX1_machineAnswers 60 = .ok (.iload_n 2, 1) := by decide +kernel
theorem dX1_machineAnswers_61 : decode cX1_machineAnswers 61 = .ok (.iload_n 2, 1) := by decide +kernel
theorem dX1_machineAnswers_62 : decode cX1_machineAnswers 62 = .ok (.aload_n 0, 1) := by decide +kernel
theorem dX1_machineAnswers_63 : decode cX1_machineAnswers 63 = .ok (.getfield 25, 3) := by decide +kernel
theorem dX1_machineAnswers_66 : decode cX1_machineAnswers 66 = .ok (.getfield 130, 3) := by decide +kernel
theorem dX1_machineAnswers_69 : decode cX1_machineAnswers 69 = .ok (.iload_n 1, 1) := by decide +kernel
theorem dX1_machineAnswers_70 : decode cX1_machineAnswers 70 = .ok (.iaload, 1) := by decide +kernel
theorem dX1_machineAnswers_71 : decode cX1_machineAnswers 71 = .ok (.isub, 1) := by decide +kernel
theorem dX1_machineAnswers_72 : decode cX1_machineAnswers 72 = .ok (.aload_n 0, 1) := by decide +kernel
theorem dX1_machineAnswers_73 : decode cX1_machineAnswers 73 = .ok (.getfield 25, 3) := by decide +kernel
theorem dX1_machineAnswers_76 : decode cX1_machineAnswers 76 = .ok (.iload_n 1, 1) := by decide +kernel
theorem dX1_machineAnswers_77 : decode cX1_machineAnswers 77 = .ok (.invokevirtual 136, 3) := by decide +kernel
theorem dX1_machineAnswers_80 : decode cX1_machineAnswers 80 = .ok (.invokevirtual 77, 3) := by decide +kernel
theorem dX1_machineAnswers_83 : decode cX1_machineAnswers 83 = .ok (.aload_n 0, 1) := by decide +kernel
theorem dX1_machineAnswers_84 : decode cX1_machineAnswers 84 = .ok (.getfield 32, 3) := by decide +kernel
theorem dX1_machineAnswers_87 : decode cX1_machineAnswers 87 = .ok (.iconst 1, 1) := by decide +kernel
theorem dX1_machineAnswers_88 : decode cX1_machineAnswers 88 = .ok (.invokevirtual 81, 3) := by decide +kernel
theorem dX1_machineAnswers_91 : decode cX1_machineAnswers 91 = .ok (.ifCond .eq 33, 3) := by decide +kernel
theorem dX1_machineAnswers_94 : decode cX1_machineAnswers 94 = .ok (.aload_n 0, 1) := by decide +kernel
theorem dX1_machineAnswers_95 : decode cX1_machineAnswers 95 = .ok (.getfield 25, 3) := by decide +kernel
theorem dX1_machineAnswers_98 : decode cX1_machineAnswers 98 = .ok (.invokevirtual 87, 3) := by decide +kernel
theorem dX1_machineAnswers_101 : decode cX1_machineAnswers 101 = .ok (.ifCond .eq 23, 3) := by decide +kernel
theorem dX1_machineAnswers_104 : decode cX1_machineAnswers 104 = .ok (.aload_n 0, 1) := by decide +kernel
theorem dX1_machineAnswers_105 : decode cX1_machineAnswers 105 = .ok (.bipush 7, 2) := by decide +kernel
theorem dX1_machineAnswers_107 : decode cX1_machineAnswers 107 = .ok (.invokevirtual 84, 3) := by decide +kernel
theorem dX1_machineAnswers_110 : decode cX1_machineAnswers 110 = .ok (.ifCond .eq 14, 3) := by decide +kernel
theorem dX1_machineAnswers_113 : decode cX1_machineAnswers 113 = .ok (.aload_n 0, 1) := by decide +kernel
theorem dX1_machineAnswers_114 : decode cX1_machineAnswers 114 = .ok (.iconst 2, 1) := by decide +kernel
theorem dX1_machineAnswers_115 : decode cX1_machineAnswers 115 = .ok (.bipush 7, 2) := by decide +kernel
theorem dX1_machineAnswers_117 : decode cX1_machineAnswers 117 = .ok (.iload_n 1, 1) := by decide +kernel
theorem dX1_machineAnswers_118 : decode cX1_machineAnswers 118 = .ok (.bipush 20, 2) := by decide +kernel
theorem dX1_machineAnswers_120 : decode cX1_machineAnswers 120 = .ok (.invokevirtual 139, 3) := by decide +kernel
theorem dX1_machineAnswers_123 : decode cX1_machineAnswers 123 = .ok (.pop, 1) := by decide +kernel
theorem dX1_machineAnswers_124 : decode cX1_machineAnswers 124 = .ok (.return_, 1) := by decide +kernel
set_option maxRecDepth 20000 in
theorem ggX1_livesAs_X4_has : GoodIn wsX1_livesAs wsX4_has := goodIn_r _ [8, 9, 162, 163, 164, 165, 166, 167] rfl (by decide +kernel)
set_option maxRecDepth 20000 in
theorem gX1_livesAs_X4_has : GoodIn wsX1_livesAs (wsV RX1 61 RX4 yX4_has wsX4_has) := goodIn_app (goodIn_r _ [4, 5, 6, 7] rfl (by decide +kernel)) ggX1_livesAs_X4_has
set_option maxRecDepth 20000 in
theorem ggX1_livesAs_X1_draws : GoodIn wsX1_livesAs wsX1_draws := goodIn_r _ [14, 15, 16, 143, 144, 145, 146, 147, 148, 149, 150, 151] rfl (by decide +kernel)
set_option maxRecDepth 20000 in
theorem gX1_livesAs_X1_draws : GoodIn wsX1_livesAs (wsV RX1 142 RX1 yX1_draws wsX1_draws) := goodIn_app (goodIn_r _ [10, 11, 12, 13] rfl (by decide +kernel)) ggX1_livesAs_X1_draws
set_option maxRecDepth 20000 in
theorem ggX1_livesAs_X0_hasRoom : GoodIn wsX1_livesAs wsX0_hasRoom := goodIn_r _ [21, 22, 152, 153, 154, 155, 156, 157, 158, 159, 160, 161] rfl (by decide +kernel)
set_option maxRecDepth 20000 in
theorem gX1_livesAs_X0_hasRoom : GoodIn wsX1_livesAs (wsV RX1 87 RX0 yX0_hasRoom wsX0_hasRoom) := goodIn_app (goodIn_r _ [17, 18, 19, 20] rfl (by decide +kernel)) ggX1_livesAs_X0_hasRoom
set_option maxRecDepth 20000 in
theorem ggX1_livesAs_X0_pageSize : GoodIn wsX1_livesAs wsX0_pageSize := goodIn_r _ [26, 27, 22, 152, 153, 154, 155, 156, 157, 158, 159, 160, 161] rfl (by decide +kernel)
set_option maxRecDepth 20000 in
theorem gX1_livesAs_X0_pageSize : GoodIn wsX1_livesAs (wsV RX1 69 RX0 yX0_pageSize wsX0_pageSize) := goodIn_app (goodIn_r _ [23, 24, 25, 20] rfl (by decide +kernel)) ggX1_livesAs_X0_pageSize
set_option maxRecDepth 20000 in
theorem ggX1_livesAs_X0_backsBy : GoodIn wsX1_livesAs wsX0_backsBy := goodIn_r _ [31, 22, 32, 33, 34, 35, 36, 20, 37, 152, 153, 154, 155, 156, 157, 158, 159, 160, 161] rfl (by decide +kernel)
set_option maxRecDepth 20000 in
theorem gX1_livesAs_X0_backsBy : GoodIn wsX1_livesAs (wsV RX1 65 RX0 yX0_backsBy wsX0_backsBy) := goodIn_app (goodIn_r _ [28, 29, 30, 20] rfl (by decide +kernel)) ggX1_livesAs_X0_backsBy
set_option maxRecDepth 20000 in
theorem ggX1_livesAs_X0_wordsBy : GoodIn wsX1_livesAs wsX0_wordsBy := goodIn_r _ [41, 27, 32, 42, 43, 44, 20, 45, 46, 152, 153, 154, 155, 156, 157, 158, 159, 160, 161] rfl (by decide +kernel)
set_option maxRecDepth 20000 in
theorem gX1_livesAs_X0_wordsBy : GoodIn wsX1_livesAs (wsV RX1 145 RX0 yX0_wordsBy wsX0_wordsBy) := goodIn_app (goodIn_r _ [38, 39, 40, 20] rfl (by decide +kernel)) ggX1_livesAs_X0_wordsBy
set_option maxRecDepth 20000 in
theorem ggX1_livesAs_X4_names : GoodIn wsX1_livesAs wsX4_names := goodIn_r _ [50, 51, 162, 163, 164, 165, 166, 167] rfl (by decide +kernel)
set_option maxRecDepth 20000 in
theorem gX1_livesAs_X4_names : GoodIn wsX1_livesAs (wsV RX1 77 RX4 yX4_names wsX4_names) := goodIn_app (goodIn_r _ [47, 48, 49, 7] rfl (by decide +kernel)) ggX1_livesAs_X4_names
set_option maxRecDepth 20000 in
theorem ggX1_livesAs_X4_worked : GoodIn wsX1_livesAs wsX4_worked := goodIn_r _ [55, 9, 56, 57, 51, 58, 59, 7, 60, 162, 163, 164, 165, 166, 167] rfl (by decide +kernel)
set_option maxRecDepth 20000 in
theorem gX1_livesAs_X4_worked : GoodIn wsX1_livesAs (wsV RX1 81 RX4 yX4_worked wsX4_worked) := goodIn_app (goodIn_r _ [52, 53, 54, 7] rfl (by decide +kernel)) ggX1_livesAs_X4_worked
set_option maxRecDepth 20000 in
theorem ggX1_livesAs_X1_lets : GoodIn wsX1_livesAs wsX1_lets := goodIn_r _ [64, 3, 65, 66, 1, 2, 4, 5, 6, 7, 8, 9, 28, 29, 30, 20, 31, 22, 32, 33, 34, 35, 36, 37, 23, 24, 25, 26, 27, 67, 68, 69, 70, 47, 48, 49, 50, 51, 52, 53, 54, 55, 56, 57, 58, 59, 60, 143, 144, 145, 146, 147, 148, 149, 150, 151, 162, 163, 164, 165, 166, 167, 152, 153, 154, 155, 156, 157, 158, 159, 160, 161] rfl (by decide +kernel)
set_option maxRecDepth 20000 in
theorem gX1_livesAs_X1_lets : GoodIn wsX1_livesAs (wsV RX1 84 RX1 yX1_lets wsX1_lets) := goodIn_app (goodIn_r _ [61, 62, 63, 13] rfl (by decide +kernel)) ggX1_livesAs_X1_lets
set_option maxRecDepth 20000 in
theorem ggX1_livesAs_X1_goesWay : GoodIn wsX1_livesAs wsX1_goesWay := goodIn_r _ [74, 2, 23, 24, 25, 20, 26, 27, 22, 75, 76, 77, 13, 78, 3, 79, 80, 81, 82, 46, 83, 84, 85, 86, 87, 88, 89, 90, 91, 92, 93, 94, 95, 96, 97, 98, 99, 100, 101, 102, 103, 104, 105, 34, 32, 33, 106, 107, 108, 109, 110, 111, 112, 113, 114, 115, 116, 117, 118, 119, 120, 121, 122, 123, 124, 125, 126, 127, 128, 129, 130, 131, 132, 133, 134, 143, 144, 145, 146, 147, 148, 149, 150, 151, 152, 153, 154, 155, 156, 157, 158, 159, 160, 161] rfl (by decide +kernel)
set_option maxRecDepth 20000 in
theorem gX1_livesAs_X1_goesWay : GoodIn wsX1_livesAs (wsV RX1 148 RX1 yX1_goesWay wsX1_goesWay) := goodIn_app (goodIn_r _ [71, 72, 73, 13] rfl (by decide +kernel)) ggX1_livesAs_X1_goesWay
set_option maxRecDepth 20000 in
theorem ggX1_livesAs_X1_machineAnswers : GoodIn wsX1_livesAs wsX1_machineAnswers := goodIn_r _ [138, 2, 1, 4, 5, 6, 7, 8, 9, 139, 140, 141, 20, 142, 107, 47, 48, 49, 50, 51, 52, 53, 54, 55, 56, 57, 58, 59, 60, 17, 18, 19, 21, 22, 61, 62, 63, 13, 64, 3, 65, 66, 28, 29, 30, 31, 32, 33, 34, 35, 36, 37, 23, 24, 25, 26, 27, 67, 68, 69, 70, 130, 131, 132, 133, 134, 84, 85, 86, 87, 88, 89, 90, 91, 92, 93, 46, 94, 95, 96, 97, 102, 103, 104, 105, 106, 108, 109, 110, 111, 112, 113, 114, 115, 116, 143, 144, 145, 146, 147, 148, 149, 150, 151, 152, 153, 154, 155, 156, 157, 158, 159, 160, 161, 162, 163, 164, 165, 166, 167] rfl (by decide +kernel)
set_option maxRecDepth 20000 in
theorem gX1_livesAs_X1_machineAnswers : GoodIn wsX1_livesAs (wsV RX1 151 RX1 yX1_machineAnswers wsX1_machineAnswers) := goodIn_app (goodIn_r _ [135, 136, 137, 13] rfl (by decide +kernel)) ggX1_livesAs_X1_machineAnswers
theorem dX1_livesAs_0 : decode cX1_livesAs 0 = .ok (.aload_n 0, 1) := by decide +kernel
theorem dX1_livesAs_1 : decode cX1_livesAs 1 = .ok (.getfield 32, 3) := by decide +kernel
theorem dX1_livesAs_4 : decode cX1_livesAs 4 = .ok (.iconst 2, 1) := by decide +kernel
theorem dX1_livesAs_5 : decode cX1_livesAs 5 = .ok (.iload_n 1, 1) := by decide +kernel
theorem dX1_livesAs_6 : decode cX1_livesAs 6 = .ok (.iadd, 1) := by decide +kernel
theorem dX1_livesAs_7 : decode cX1_livesAs 7 = .ok (.invokevirtual 61, 3) := by decide +kernel
theorem dX1_livesAs_10 : decode cX1_livesAs 10 = .ok (.ifCond .ne 4, 3) := by decide +kernel
theorem dX1_livesAs_13 : decode cX1_livesAs 13 = .ok (.return_, 1) := by decide +kernel
theorem dX1_livesAs_14 : decode cX1_livesAs 14 = .ok (.aload_n 0, 1) := by decide +kernel
theorem dX1_livesAs_15 : decode cX1_livesAs 15 = .ok (.invokevirtual 142, 3) := by decide +kernel
theorem dX1_livesAs_18 : decode cX1_livesAs 18 = .ok (.bipush 100, 2) := by decide +kernel
theorem dX1_livesAs_20 : decode cX1_livesAs 20 = .ok (.irem, 1) := by decide +kernel
theorem dX1_livesAs_21 : decode cX1_livesAs 21 = .ok (.istore_n 2, 1) := by decide +kernel
theorem dX1_livesAs_22 : decode cX1_livesAs 22 = .ok (.aload_n 0, 1) := by decide +kernel
theorem dX1_livesAs_23 : decode cX1_livesAs 23 = .ok (.getfield 25, 3) := by decide +kernel
theorem dX1_livesAs_26 : decode cX1_livesAs 26 = .ok (.invokevirtual 87, 3) := by decide +kernel
theorem dX1_livesAs_29 : decode cX1_livesAs 29 = .ok (.ifCond .ne 4, 3) := by decide +kernel
theorem dX1_livesAs_32 : decode cX1_livesAs 32 = .ok (.return_, 1) := by decide +kernel
theorem dX1_livesAs_33 : decode cX1_livesAs 33 = .ok (.aload_n 0, 1) := by decide +kernel
theorem dX1_livesAs_34 : decode cX1_livesAs 34 = .ok (.getfield 32, 3) := by decide +kernel
theorem dX1_livesAs_37 : decode cX1_livesAs 37 = .ok (.aload_n 0, 1) := by decide +kernel
theorem dX1_livesAs_38 : decode cX1_livesAs 38 = .ok (.getfield 25, 3) := by decide +kernel
theorem dX1_livesAs_41 : decode cX1_livesAs 41 = .ok (.invokevirtual 69, 3) := by decide +kernel
theorem dX1_livesAs_44 : decode cX1_livesAs 44 = .ok (.aload_n 0, 1) := by decide +kernel
theorem dX1_livesAs_45 : decode cX1_livesAs 45 = .ok (.getfield 36, 3) := by decide +kernel
theorem dX1_livesAs_48 : decode cX1_livesAs 48 = .ok (.sipush 1440, 3) := by decide +kernel
theorem dX1_livesAs_51 : decode cX1_livesAs 51 = .ok (.irem, 1) := by decide +kernel
theorem dX1_livesAs_52 : decode cX1_livesAs 52 = .ok (.aload_n 0, 1) := by decide +kernel
theorem dX1_livesAs_53 : decode cX1_livesAs 53 = .ok (.getfield 25, 3) := by decide +kernel
theorem dX1_livesAs_56 : decode cX1_livesAs 56 = .ok (.iload_n 1, 1) := by decide +kernel
theorem dX1_livesAs_57 : decode cX1_livesAs 57 = .ok (.aload_n 0, 1) := by decide +kernel
theorem dX1_livesAs_58 : decode cX1_livesAs 58 = .ok (.getfield 36, 3) := by decide +kernel
theorem dX1_livesAs_61 : decode cX1_livesAs 61 = .ok (.invokevirtual 65, 3) := by decide +kernel
theorem dX1_livesAs_64 : decode cX1_livesAs 64 = .ok (.aload_n 0, 1) := by decide +kernel
theorem dX1_livesAs_65 : decode cX1_livesAs 65 = .ok (.getfield 25, 3) := by decide +kernel
theorem dX1_livesAs_68 : decode cX1_livesAs 68 = .ok (.iload_n 1, 1) := by decide +kernel
theorem dX1_livesAs_69 : decode cX1_livesAs 69 = .ok (.aload_n 0, 1) := by decide +kernel
theorem dX1_livesAs_70 : decode cX1_livesAs 70 = .ok (.getfield 25, 3) := by decide +kernel
theorem dX1_livesAs_73 : decode cX1_livesAs 73 = .ok (.getfield 111, 3) := by decide +kernel
theorem dX1_livesAs_76 : decode cX1_livesAs 76 = .ok (.invokevirtual 145, 3) := by decide +kernel
theorem dX1_livesAs_79 : decode cX1_livesAs 79 = .ok (.iload_n 2, 1) := by decide +kernel
theorem dX1_livesAs_80 : decode cX1_livesAs 80 = .ok (.invokevirtual 77, 3) := by decide +kernel
theorem dX1_livesAs_83 : decode cX1_livesAs 83 = .ok (.aload_n 0, 1) := by decide +kernel
theorem dX1_livesAs_84 : decode cX1_livesAs 84 = .ok (.getfield 32, 3) := by decide +kernel
theorem dX1_livesAs_87 : decode cX1_livesAs 87 = .ok (.iconst 2, 1) := by decide +kernel
theorem dX1_livesAs_88 : decode cX1_livesAs 88 = .ok (.iload_n 1, 1) := by decide +kernel
theorem dX1_livesAs_89 : decode cX1_livesAs 89 = .ok (.iadd, 1) := by decide +kernel
theorem dX1_livesAs_90 : decode cX1_livesAs 90 = .ok (.invokevirtual 81, 3) := by decide +kernel
theorem dX1_livesAs_93 : decode cX1_livesAs 93 = .ok (.istore_n 3, 1) := by decide +kernel
theorem dX1_livesAs_94 : decode cX1_livesAs 94 = .ok (.aload_n 0, 1) := by decide +kernel
theorem dX1_livesAs_95 : decode cX1_livesAs 95 = .ok (.iload_n 1, 1) := by decide +kernel
theorem dX1_livesAs_96 : decode cX1_livesAs 96 = .ok (.invokevirtual 84, 3) := by decide +kernel
theorem dX1_livesAs_99 : decode cX1_livesAs 99 = .ok (.ifCond .eq 12, 3) := by decide +kernel
theorem dX1_livesAs_102 : decode cX1_livesAs 102 = .ok (.aload_n 0, 1) := by decide +kernel
theorem dX1_livesAs_103 : decode cX1_livesAs 103 = .ok (.iload_n 1, 1) := by decide +kernel
theorem dX1_livesAs_104 : decode cX1_livesAs 104 = .ok (.iload_n 3, 1) := by decide +kernel
theorem dX1_livesAs_105 : decode cX1_livesAs 105 = .ok (.invokevirtual 148, 3) := by decide +kernel
theorem dX1_livesAs_108 : decode cX1_livesAs 108 = .ok (.goto 4, 3) := by decide +kernel
theorem dX1_livesAs_111 : decode cX1_livesAs 111 = .ok (.iconst (-1), 1) := by decide +kernel
theorem dX1_livesAs_112 : decode cX1_livesAs 112 = .ok (.istore 4, 2) := by decide +kernel
theorem dX1_livesAs_114 : decode cX1_livesAs 114 = .ok (.iload 4, 2) := by decide +kernel
theorem dX1_livesAs_116 : decode cX1_livesAs 116 = .ok (.ifCond .lt 9, 3) := by decide +kernel
theorem dX1_livesAs_119 : decode cX1_livesAs 119 = .ok (.aload_n 0, 1) := by decide +kernel
theorem dX1_livesAs_120 : decode cX1_livesAs 120 = .ok (.iload 4, 2) := by decide +kernel
theorem dX1_livesAs_122 : decode cX1_livesAs 122 = .ok (.invokevirtual 151, 3) := by decide +kernel
theorem dX1_livesAs_125 : decode cX1_livesAs 125 = .ok (.return_, 1) := by decide +kernel
theorem dX1_draws_0 : decode cX1_draws 0 = .ok (.aload_n 0, 1) := by decide +kernel
theorem dX1_draws_1 : decode cX1_draws 1 = .ok (.aload_n 0, 1) := by decide +kernel
theorem dX1_draws_2 : decode cX1_draws 2 = .ok (.getfield 9, 3) := by decide +kernel
theorem dX1_draws_5 : decode cX1_draws 5 = .ok (.ldc 154, 2) := by decide +kernel
theorem dX1_draws_7 : decode cX1_draws 7 = .ok (.imul, 1) := by decide +kernel
theorem dX1_draws_8 : decode cX1_draws 8 = .ok (.sipush 12345, 3) := by decide +kernel
theorem dX1_draws_11 : decode cX1_draws 11 = .ok (.iadd, 1) := by decide +kernel
theorem dX1_draws_12 : decode cX1_draws 12 = .ok (.putfield 9, 3) := by decide +kernel
theorem dX1_draws_15 : decode cX1_draws 15 = .ok (.aload_n 0, 1) := by decide +kernel
theorem dX1_draws_16 : decode cX1_draws 16 = .ok (.getfield 9, 3) := by decide +kernel
theorem dX1_draws_19 : decode cX1_draws 19 = .ok (.bipush 8, 2) := by decide +kernel
theorem dX1_draws_21 : decode cX1_draws 21 = .ok (.iushr, 1) := by decide +kernel
theorem dX1_draws_22 : decode cX1_draws 22 = .ok (.ireturn, 1) := by decide +kernel
set_option maxRecDepth 20000 in
theorem ggX1_goesWay_X0_pageSize : GoodIn wsX1_goesWay wsX0_pageSize := goodIn_r _ [6, 7, 8, 84, 85, 86, 87, 88, 89, 90, 91, 92, 93] rfl (by decide +kernel)
set_option maxRecDepth 20000 in
theorem gX1_goesWay_X0_pageSize : GoodIn wsX1_goesWay (wsV RX1 69 RX0 yX0_pageSize wsX0_pageSize) := goodIn_app (goodIn_r _ [2, 3, 4, 5] rfl (by decide +kernel)) ggX1_goesWay_X0_pageSize
set_option maxRecDepth 20000 in
theorem ggX1_goesWay_X1_puts : GoodIn wsX1_goesWay wsX1_puts := goodIn_r _ [13, 1, 14, 15, 16, 17, 5, 18, 8, 19, 20, 21, 22, 23, 7, 24, 25, 26, 27, 28, 29, 30, 31, 32, 33, 34, 35, 36, 37, 38, 39, 40, 41, 42, 43, 44, 45, 46, 47, 48, 49, 50, 51, 52, 53, 54, 55, 56, 75, 76, 77, 78, 79, 80, 81, 82, 83, 84, 85, 86, 87, 88, 89, 90, 91, 92, 93] rfl (by decide +kernel)
set_option maxRecDepth 20000 in
theorem gX1_goesWay_X1_puts : GoodIn wsX1_goesWay (wsV RX1 155 RX1 yX1_puts wsX1_puts) := goodIn_app (goodIn_r _ [9, 10, 11, 12] rfl (by decide +kernel)) ggX1_goesWay_X1_puts
set_option maxRecDepth 20000 in
theorem ggX1_goesWay_X1_takesOut : GoodIn wsX1_goesWay wsX1_takesOut := goodIn_r _ [60, 1, 14, 61, 54, 55, 5, 56, 19, 62, 63, 64, 65, 8, 7, 31, 32, 33, 34, 39, 40, 41, 42, 43, 44, 45, 46, 47, 48, 49, 50, 51, 52, 53, 75, 76, 77, 78, 79, 80, 81, 82, 83, 84, 85, 86, 87, 88, 89, 90, 91, 92, 93] rfl (by decide +kernel)
set_option maxRecDepth 20000 in
theorem gX1_goesWay_X1_takesOut : GoodIn wsX1_goesWay (wsV RX1 159 RX1 yX1_takesOut wsX1_takesOut) := goodIn_app (goodIn_r _ [57, 58, 59, 12] rfl (by decide +kernel)) ggX1_goesWay_X1_takesOut
set_option maxRecDepth 20000 in
theorem ggX1_goesWay_X0_latestOnPage : GoodIn wsX1_goesWay wsX0_latestOnPage := goodIn_r _ [69, 8, 44, 43, 84, 85, 86, 87, 88, 89, 90, 91, 92, 93] rfl (by decide +kernel)
set_option maxRecDepth 20000 in
theorem gX1_goesWay_X0_latestOnPage : GoodIn wsX1_goesWay (wsV RX1 162 RX0 yX0_latestOnPage wsX0_latestOnPage) := goodIn_app (goodIn_r _ [66, 67, 68, 5] rfl (by decide +kernel)) ggX1_goesWay_X0_latestOnPage
set_option maxRecDepth 20000 in
theorem ggX1_goesWay_X1_putsBack : GoodIn wsX1_goesWay wsX1_putsBack := goodIn_r _ [73, 1, 14, 74, 21, 22, 5, 23, 8, 7, 24, 25, 26, 27, 28, 29, 30, 19, 31, 32, 33, 34, 39, 40, 41, 42, 43, 44, 45, 46, 47, 48, 49, 50, 51, 52, 53, 54, 55, 56, 75, 76, 77, 78, 79, 80, 81, 82, 83, 84, 85, 86, 87, 88, 89, 90, 91, 92, 93] rfl (by decide +kernel)
set_option maxRecDepth 20000 in
theorem gX1_goesWay_X1_putsBack : GoodIn wsX1_goesWay (wsV RX1 139 RX1 yX1_putsBack wsX1_putsBack) := goodIn_app (goodIn_r _ [70, 71, 72, 12] rfl (by decide +kernel)) ggX1_goesWay_X1_putsBack
theorem dX1_goesWay_0 : decode cX1_goesWay 0 = .ok (.aload_n 0, 1) := by decide +kernel
theorem dX1_goesWay_1 : decode cX1_goesWay 1 = .ok (.getfield 25, 3) := by decide +kernel
theorem dX1_goesWay_4 : decode cX1_goesWay 4 = .ok (.invokevirtual 69, 3) := by decide +kernel
theorem dX1_goesWay_7 : decode cX1_goesWay 7 = .ok (.istore_n 3, 1) := by decide +kernel
theorem dX1_goesWay_8 : decode cX1_goesWay 8 = .ok (.iload_n 2, 1) := by decide +kernel
theorem dX1_goesWay_9 : decode cX1_goesWay 9 = .ok (.tableswitch 115 1 4 #[31, 56, 73, 105], 31) := by decide +kernel
theorem dX1_goesWay_40 : decode cX1_goesWay 40 = .ok (.iload_n 3, 1) := by decide +kernel
theorem dX1_goesWay_41 : decode cX1_goesWay 41 = .ok (.bipush 20, 2) := by decide +kernel
theorem dX1_goesWay_43 : decode cX1_goesWay 43 = .ok (.if_icmp .ge 20, 3) := by decide +kernel
theorem dX1_goesWay_46 : decode cX1_goesWay 46 = .ok (.aload_n 0, 1) := by decide +kernel
theorem dX1_goesWay_47 : decode cX1_goesWay 47 = .ok (.iconst 1, 1) := by decide +kernel
theorem dX1_goesWay_48 : decode cX1_goesWay 48 = .ok (.bipush 100, 2) := by decide +kernel
theorem dX1_goesWay_50 : decode cX1_goesWay 50 = .ok (.iload_n 1, 1) := by decide +kernel
theorem dX1_goesWay_51 : decode cX1_goesWay 51 = .ok (.imul, 1) := by decide +kernel
theorem dX1_goesWay_52 : decode cX1_goesWay 52 = .ok (.iload_n 3, 1) := by decide +kernel
theorem dX1_goesWay_53 : decode cX1_goesWay 53 = .ok (.iadd, 1) := by decide +kernel
theorem dX1_goesWay_54 : decode cX1_goesWay 54 = .ok (.iload_n 1, 1) := by decide +kernel
theorem dX1_goesWay_55 : decode cX1_goesWay 55 = .ok (.iconst 1, 1) := by decide +kernel
theorem dX1_goesWay_56 : decode cX1_goesWay 56 = .ok (.iadd, 1) := by decide +kernel
theorem dX1_goesWay_57 : decode cX1_goesWay 57 = .ok (.invokevirtual 155, 3) := by decide +kernel
theorem dX1_goesWay_60 : decode cX1_goesWay 60 = .ok (.goto 4, 3) := by decide +kernel
theorem dX1_goesWay_63 : decode cX1_goesWay 63 = .ok (.iconst (-1), 1) := by decide +kernel
theorem dX1_goesWay_64 : decode cX1_goesWay 64 = .ok (.ireturn, 1) := by decide +kernel
theorem dX1_goesWay_65 : decode cX1_goesWay 65 = .ok (.iload_n 3, 1) := by decide +kernel
theorem dX1_goesWay_66 : decode cX1_goesWay 66 = .ok (.ifCond .le 14, 3) := by decide +kernel
theorem dX1_goesWay_69 : decode cX1_goesWay 69 = .ok (.aload_n 0, 1) := by decide +kernel
theorem dX1_goesWay_70 : decode cX1_goesWay 70 = .ok (.iload_n 1, 1) := by decide +kernel
theorem dX1_goesWay_71 : decode cX1_goesWay 71 = .ok (.iload_n 3, 1) := by decide +kernel
theorem dX1_goesWay_72 : decode cX1_goesWay 72 = .ok (.iconst 1, 1) := by decide +kernel
theorem dX1_goesWay_73 : decode cX1_goesWay 73 = .ok (.isub, 1) := by decide +kernel
theorem dX1_goesWay_74 : decode cX1_goesWay 74 = .ok (.invokevirtual 159, 3) := by decide +kernel
theorem dX1_goesWay_77 : decode cX1_goesWay 77 = .ok (.goto 4, 3) := by decide +kernel
theorem dX1_goesWay_80 : decode cX1_goesWay 80 = .ok (.iconst (-1), 1) := by decide +kernel
theorem dX1_goesWay_81 : decode cX1_goesWay 81 = .ok (.ireturn, 1) := by decide +kernel
theorem dX1_goesWay_82 : decode cX1_goesWay 82 = .ok (.aload_n 0, 1) := by decide +kernel
theorem dX1_goesWay_83 : decode cX1_goesWay 83 = .ok (.getfield 25, 3) := by decide +kernel
theorem dX1_goesWay_86 : decode cX1_goesWay 86 = .ok (.iload_n 1, 1) := by decide +kernel
theorem dX1_goesWay_87 : decode cX1_goesWay 87 = .ok (.invokevirtual 162, 3) := by decide +kernel
theorem dX1_goesWay_90 : decode cX1_goesWay 90 = .ok (.istore 4, 2) := by decide +kernel
theorem dX1_goesWay_92 : decode cX1_goesWay 92 = .ok (.iload 4, 2) := by decide +kernel
theorem dX1_goesWay_94 : decode cX1_goesWay 94 = .ok (.ifCond .lt 18, 3) := by decide +kernel
theorem dX1_goesWay_97 : decode cX1_goesWay 97 = .ok (.aload_n 0, 1) := by decide +kernel
theorem dX1_goesWay_98 : decode cX1_goesWay 98 = .ok (.iconst 2, 1) := by decide +kernel
theorem dX1_goesWay_99 : decode cX1_goesWay 99 = .ok (.iload_n 1, 1) := by decide +kernel
theorem dX1_goesWay_100 : decode cX1_goesWay 100 = .ok (.iload 4, 2) := by decide +kernel
theorem dX1_goesWay_102 : decode cX1_goesWay 102 = .ok (.iconst 1, 1) := by decide +kernel
theorem dX1_goesWay_103 : decode cX1_goesWay 103 = .ok (.iadd, 1) := by decide +kernel
theorem dX1_goesWay_104 : decode cX1_goesWay 104 = .ok (.bipush 20, 2) := by decide +kernel
theorem dX1_goesWay_106 : decode cX1_goesWay 106 = .ok (.invokevirtual 139, 3) := by decide +kernel
theorem dX1_goesWay_109 : decode cX1_goesWay 109 = .ok (.goto 4, 3) := by decide +kernel
theorem dX1_goesWay_112 : decode cX1_goesWay 112 = .ok (.iconst (-1), 1) := by decide +kernel
theorem dX1_goesWay_113 : decode cX1_goesWay 113 = .ok (.ireturn, 1) := by decide +kernel
theorem dX1_goesWay_114 : decode cX1_goesWay 114 = .ok (.aload_n 0, 1) := by decide +kernel
theorem dX1_goesWay_115 : decode cX1_goesWay 115 = .ok (.iconst 2, 1) := by decide +kernel
theorem dX1_goesWay_116 : decode cX1_goesWay 116 = .ok (.iload_n 1, 1) := by decide +kernel
theorem dX1_goesWay_117 : decode cX1_goesWay 117 = .ok (.iconst 0, 1) := by decide +kernel
theorem dX1_goesWay_118 : decode cX1_goesWay 118 = .ok (.bipush 20, 2) := by decide +kernel
theorem dX1_goesWay_120 : decode cX1_goesWay 120 = .ok (.invokevirtual 139, 3) := by decide +kernel
theorem dX1_goesWay_123 : decode cX1_goesWay 123 = .ok (.ireturn, 1) := by decide +kernel
theorem dX1_goesWay_124 : decode cX1_goesWay 124 = .ok (.iconst (-1), 1) := by decide +kernel
theorem dX1_goesWay_125 : decode cX1_goesWay 125 = .ok (.ireturn, 1) := by decide +kernel
set_option maxRecDepth 20000 in
theorem ggX1_minutesAlike_X0_areAlike : GoodIn wsX1_minutesAlike wsX0_areAlike := goodIn_r _ [6, 7, 8, 9, 10, 5, 11, 12, 35, 36, 37, 38, 39, 40, 41, 42, 43, 44] rfl (by decide +kernel)
set_option maxRecDepth 20000 in
theorem gX1_minutesAlike_X0_areAlike : GoodIn wsX1_minutesAlike (wsV RX1 165 RX0 yX0_areAlike wsX0_areAlike) := goodIn_app (goodIn_r _ [2, 3, 4, 5] rfl (by decide +kernel)) ggX1_minutesAlike_X0_areAlike
set_option maxRecDepth 20000 in
theorem ggX1_minutesAlike_X0_minutesThere : GoodIn wsX1_minutesAlike wsX0_minutesThere := goodIn_r _ [16, 17, 18, 19, 20, 21, 22, 23, 24, 25, 35, 36, 37, 38, 39, 40, 41, 42, 43, 44] rfl (by decide +kernel)
set_option maxRecDepth 20000 in
theorem gX1_minutesAlike_X0_minutesThere : GoodIn wsX1_minutesAlike (wsV RX1 169 RX0 yX0_minutesThere wsX0_minutesThere) := goodIn_app (goodIn_r _ [13, 14, 15, 5] rfl (by decide +kernel)) ggX1_minutesAlike_X0_minutesThere
theorem dX1_minutesAlike_0 : decode cX1_minutesAlike 0 = .ok (.iconst 0, 1) := by decide +kernel
theorem dX1_minutesAlike_1 : decode cX1_minutesAlike 1 = .ok (.istore 4, 2) := by decide +kernel
theorem dX1_minutesAlike_3 : decode cX1_minutesAlike 3 = .ok (.iconst 0, 1) := by decide +kernel
theorem dX1_minutesAlike_4 : decode cX1_minutesAlike 4 = .ok (.istore 5, 2) := by decide +kernel
theorem dX1_minutesAlike_6 : decode cX1_minutesAlike 6 = .ok (.iload 5, 2) := by decide +kernel
theorem dX1_minutesAlike_8 : decode cX1_minutesAlike 8 = .ok (.aload_n 0, 1) := by decide +kernel
theorem dX1_minutesAlike_9 : decode cX1_minutesAlike 9 = .ok (.getfield 25, 3) := by decide +kernel
theorem dX1_minutesAlike_12 : decode cX1_minutesAlike 12 = .ok (.getfield 111, 3) := by decide +kernel
theorem dX1_minutesAlike_15 : decode cX1_minutesAlike 15 = .ok (.if_icmp .gt 38, 3) := by decide +kernel
theorem dX1_minutesAlike_18 : decode cX1_minutesAlike 18 = .ok (.aload_n 0, 1) := by decide +kernel
theorem dX1_minutesAlike_19 : decode cX1_minutesAlike 19 = .ok (.getfield 25, 3) := by decide +kernel
theorem dX1_minutesAlike_22 : decode cX1_minutesAlike 22 = .ok (.iload 5, 2) := by decide +kernel
theorem dX1_minutesAlike_24 : decode cX1_minutesAlike 24 = .ok (.iload_n 1, 1) := by decide +kernel
theorem dX1_minutesAlike_25 : decode cX1_minutesAlike 25 = .ok (.invokevirtual 165, 3) := by decide +kernel
theorem dX1_minutesAlike_28 : decode cX1_minutesAlike 28 = .ok (.ifCond .eq 19, 3) := by decide +kernel
theorem dX1_minutesAlike_31 : decode cX1_minutesAlike 31 = .ok (.iload 4, 2) := by decide +kernel
theorem dX1_minutesAlike_33 : decode cX1_minutesAlike 33 = .ok (.aload_n 0, 1) := by decide +kernel
theorem dX1_minutesAlike_34 : decode cX1_minutesAlike 34 = .ok (.getfield 25, 3) := by decide +kernel
theorem dX1_minutesAlike_37 : decode cX1_minutesAlike 37 = .ok (.iload 5, 2) := by decide +kernel
theorem dX1_minutesAlike_39 : decode cX1_minutesAlike 39 = .ok (.iload_n 2, 1) := by decide +kernel
theorem dX1_minutesAlike_40 : decode cX1_minutesAlike 40 = .ok (.iload_n 3, 1) := by decide +kernel
theorem dX1_minutesAlike_41 : decode cX1_minutesAlike 41 = .ok (.invokevirtual 169, 3) := by decide +kernel
theorem dX1_minutesAlike_44 : decode cX1_minutesAlike 44 = .ok (.iadd, 1) := by decide +kernel
theorem dX1_minutesAlike_45 : decode cX1_minutesAlike 45 = .ok (.istore 4, 2) := by decide +kernel
theorem dX1_minutesAlike_47 : decode cX1_minutesAlike 47 = .ok (.iinc 5 1, 3) := by decide +kernel
theorem dX1_minutesAlike_50 : decode cX1_minutesAlike 50 = .ok (.goto (-44), 3) := by decide +kernel
theorem dX1_minutesAlike_53 : decode cX1_minutesAlike 53 = .ok (.iload 4, 2) := by decide +kernel
theorem dX1_minutesAlike_55 : decode cX1_minutesAlike 55 = .ok (.ireturn, 1) := by decide +kernel
set_option maxRecDepth 20000 in
theorem ggX1_worthOf_X0_wordAt : GoodIn wsX1_worthOf wsX0_wordAt := goodIn_r _ [7, 8, 18, 19, 20, 21, 22, 23, 24, 25, 26, 27] rfl (by decide +kernel)
set_option maxRecDepth 20000 in
theorem gX1_worthOf_X0_wordAt : GoodIn wsX1_worthOf (wsV RX1 114 RX0 yX0_wordAt wsX0_wordAt) := goodIn_app (goodIn_r _ [3, 4, 5, 6] rfl (by decide +kernel)) ggX1_worthOf_X0_wordAt
theorem dX1_worthOf_0 : decode cX1_worthOf 0 = .ok (.iconst 0, 1) := by decide +kernel
theorem dX1_worthOf_1 : decode cX1_worthOf 1 = .ok (.istore_n 2, 1) := by decide +kernel
theorem dX1_worthOf_2 : decode cX1_worthOf 2 = .ok (.iconst 0, 1) := by decide +kernel
theorem dX1_worthOf_3 : decode cX1_worthOf 3 = .ok (.istore_n 3, 1) := by decide +kernel
theorem dX1_worthOf_4 : decode cX1_worthOf 4 = .ok (.iload_n 3, 1) := by decide +kernel
theorem dX1_worthOf_5 : decode cX1_worthOf 5 = .ok (.aload_n 0, 1) := by decide +kernel
theorem dX1_worthOf_6 : decode cX1_worthOf 6 = .ok (.getfield 25, 3) := by decide +kernel
theorem dX1_worthOf_9 : decode cX1_worthOf 9 = .ok (.getfield 130, 3) := by decide +kernel
theorem dX1_worthOf_12 : decode cX1_worthOf 12 = .ok (.iload_n 1, 1) := by decide +kernel
theorem dX1_worthOf_13 : decode cX1_worthOf 13 = .ok (.iaload, 1) := by decide +kernel
theorem dX1_worthOf_14 : decode cX1_worthOf 14 = .ok (.if_icmp .ge 26, 3) := by decide +kernel
theorem dX1_worthOf_17 : decode cX1_worthOf 17 = .ok (.iload_n 2, 1) := by decide +kernel
theorem dX1_worthOf_18 : decode cX1_worthOf 18 = .ok (.aload_n 0, 1) := by decide +kernel
theorem dX1_worthOf_19 : decode cX1_worthOf 19 = .ok (.getfield 19, 3) := by decide +kernel
theorem dX1_worthOf_22 : decode cX1_worthOf 22 = .ok (.aload_n 0, 1) := by decide +kernel
theorem dX1_worthOf_23 : decode cX1_worthOf 23 = .ok (.getfield 25, 3) := by decide +kernel
theorem dX1_worthOf_26 : decode cX1_worthOf 26 = .ok (.iload_n 1, 1) := by decide +kernel
theorem dX1_worthOf_27 : decode cX1_worthOf 27 = .ok (.iload_n 3, 1) := by decide +kernel
theorem dX1_worthOf_28 : decode cX1_worthOf 28 = .ok (.invokevirtual 114, 3) := by decide +kernel
theorem dX1_worthOf_31 : decode cX1_worthOf 31 = .ok (.iaload, 1) := by decide +kernel
theorem dX1_worthOf_32 : decode cX1_worthOf 32 = .ok (.iadd, 1) := by decide +kernel
theorem dX1_worthOf_33 : decode cX1_worthOf 33 = .ok (.istore_n 2, 1) := by decide +kernel
theorem dX1_worthOf_34 : decode cX1_worthOf 34 = .ok (.iinc 3 1, 3) := by decide +kernel
theorem dX1_worthOf_37 : decode cX1_worthOf 37 = .ok (.goto (-33), 3) := by decide +kernel
theorem dX1_worthOf_40 : decode cX1_worthOf 40 = .ok (.iload_n 2, 1) := by decide +kernel
theorem dX1_worthOf_41 : decode cX1_worthOf 41 = .ok (.ireturn, 1) := by decide +kernel
set_option maxRecDepth 20000 in
theorem ggX1_worthiest_X1_worthOf : GoodIn wsX1_worthiest wsX1_worthOf := goodIn_r _ [6, 1, 7, 8, 9, 10, 11, 12, 13, 14, 15, 16, 17, 18, 19, 20, 21, 22, 23, 24, 25, 26, 27, 28, 29, 30, 31, 32] rfl (by decide +kernel)
set_option maxRecDepth 20000 in
theorem gX1_worthiest_X1_worthOf : GoodIn wsX1_worthiest (wsV RX1 172 RX1 yX1_worthOf wsX1_worthOf) := goodIn_app (goodIn_r _ [2, 3, 4, 5] rfl (by decide +kernel)) ggX1_worthiest_X1_worthOf
theorem dX1_worthiest_0 : decode cX1_worthiest 0 = .ok (.iconst 0, 1) := by decide +kernel
theorem dX1_worthiest_1 : decode cX1_worthiest 1 = .ok (.istore_n 1, 1) := by decide +kernel
theorem dX1_worthiest_2 : decode cX1_worthiest 2 = .ok (.aload_n 0, 1) := by decide +kernel
theorem dX1_worthiest_3 : decode cX1_worthiest 3 = .ok (.iconst 0, 1) := by decide +kernel
theorem dX1_worthiest_4 : decode cX1_worthiest 4 = .ok (.invokevirtual 172, 3) := by decide +kernel
theorem dX1_worthiest_7 : decode cX1_worthiest 7 = .ok (.istore_n 2, 1) := by decide +kernel
theorem dX1_worthiest_8 : decode cX1_worthiest 8 = .ok (.iconst 1, 1) := by decide +kernel
theorem dX1_worthiest_9 : decode cX1_worthiest 9 = .ok (.istore_n 3, 1) := by decide +kernel
theorem dX1_worthiest_10 : decode cX1_worthiest 10 = .ok (.iload_n 3, 1) := by decide +kernel
theorem dX1_worthiest_11 : decode cX1_worthiest 11 = .ok (.aload_n 0, 1) := by decide +kernel
theorem dX1_worthiest_12 : decode cX1_worthiest 12 = .ok (.getfield 25, 3) := by decide +kernel
theorem dX1_worthiest_15 : decode cX1_worthiest 15 = .ok (.getfield 111, 3) := by decide +kernel
theorem dX1_worthiest_18 : decode cX1_worthiest 18 = .ok (.if_icmp .gt 27, 3) := by decide +kernel
theorem dX1_worthiest_21 : decode cX1_worthiest 21 = .ok (.aload_n 0, 1) := by decide +kernel
theorem dX1_worthiest_22 : decode cX1_worthiest 22 = .ok (.iload_n 3, 1) := by decide +kernel
theorem dX1_worthiest_23 : decode cX1_worthiest 23 = .ok (.invokevirtual 172, 3) := by decide +kernel
theorem dX1_worthiest_26 : decode cX1_worthiest 26 = .ok (.istore 4, 2) := by decide +kernel
theorem dX1_worthiest_28 : decode cX1_worthiest 28 = .ok (.iload 4, 2) := by decide +kernel
theorem dX1_worthiest_30 : decode cX1_worthiest 30 = .ok (.iload_n 2, 1) := by decide +kernel
theorem dX1_worthiest_31 : decode cX1_worthiest 31 = .ok (.if_icmp .le 8, 3) := by decide +kernel
theorem dX1_worthiest_34 : decode cX1_worthiest 34 = .ok (.iload 4, 2) := by decide +kernel
theorem dX1_worthiest_36 : decode cX1_worthiest 36 = .ok (.istore_n 2, 1) := by decide +kernel
theorem dX1_worthiest_37 : decode cX1_worthiest 37 = .ok (.iload_n 3, 1) := by decide +kernel
theorem dX1_worthiest_38 : decode cX1_worthiest 38 = .ok (.istore_n 1, 1) := by decide +kernel
theorem dX1_worthiest_39 : decode cX1_worthiest 39 = .ok (.iinc 3 1, 3) := by decide +kernel
theorem dX1_worthiest_42 : decode cX1_worthiest 42 = .ok (.goto (-32), 3) := by decide +kernel
theorem dX1_worthiest_45 : decode cX1_worthiest 45 = .ok (.iload_n 1, 1) := by decide +kernel
theorem dX1_worthiest_46 : decode cX1_worthiest 46 = .ok (.ireturn, 1) := by decide +kernel
set_option maxRecDepth 20000 in
theorem ggX1_worthRead_X1_worthOf : GoodIn wsX1_worthRead wsX1_worthOf := goodIn_r _ [6, 1, 7, 8, 9, 10, 11, 12, 13, 27, 28, 29, 30, 31, 32, 33, 34, 35, 36, 37, 38, 39, 40, 41, 42, 43, 44, 45] rfl (by decide +kernel)
set_option maxRecDepth 20000 in
theorem gX1_worthRead_X1_worthOf : GoodIn wsX1_worthRead (wsV RX1 172 RX1 yX1_worthOf wsX1_worthOf) := goodIn_app (goodIn_r _ [2, 3, 4, 5] rfl (by decide +kernel)) ggX1_worthRead_X1_worthOf
set_option maxRecDepth 20000 in
theorem ggX1_worthRead_X0_minutesThere : GoodIn wsX1_worthRead wsX0_minutesThere := goodIn_r _ [17, 18, 19, 20, 21, 22, 23, 24, 25, 26, 36, 37, 38, 39, 40, 41, 42, 43, 44, 45] rfl (by decide +kernel)
set_option maxRecDepth 20000 in
theorem gX1_worthRead_X0_minutesThere : GoodIn wsX1_worthRead (wsV RX1 169 RX0 yX0_minutesThere wsX0_minutesThere) := goodIn_app (goodIn_r _ [14, 15, 16, 11] rfl (by decide +kernel)) ggX1_worthRead_X0_minutesThere
theorem dX1_worthRead_0 : decode cX1_worthRead 0 = .ok (.iconst 0, 1) := by decide +kernel
theorem dX1_worthRead_1 : decode cX1_worthRead 1 = .ok (.istore_n 3, 1) := by decide +kernel
theorem dX1_worthRead_2 : decode cX1_worthRead 2 = .ok (.iconst 0, 1) := by decide +kernel
theorem dX1_worthRead_3 : decode cX1_worthRead 3 = .ok (.istore 4, 2) := by decide +kernel
theorem dX1_worthRead_5 : decode cX1_worthRead 5 = .ok (.iload 4, 2) := by decide +kernel
theorem dX1_worthRead_7 : decode cX1_worthRead 7 = .ok (.aload_n 0, 1) := by decide +kernel
theorem dX1_worthRead_8 : decode cX1_worthRead 8 = .ok (.getfield 25, 3) := by decide +kernel
theorem dX1_worthRead_11 : decode cX1_worthRead 11 = .ok (.getfield 111, 3) := by decide +kernel
theorem dX1_worthRead_14 : decode cX1_worthRead 14 = .ok (.if_icmp .gt 30, 3) := by decide +kernel
theorem dX1_worthRead_17 : decode cX1_worthRead 17 = .ok (.iload_n 3, 1) := by decide +kernel
theorem dX1_worthRead_18 : decode cX1_worthRead 18 = .ok (.aload_n 0, 1) := by decide +kernel
theorem dX1_worthRead_19 : decode cX1_worthRead 19 = .ok (.iload 4, 2) := by decide +kernel
theorem dX1_worthRead_21 : decode cX1_worthRead 21 = .ok (.invokevirtual 172, 3) := by decide +kernel
theorem dX1_worthRead_24 : decode cX1_worthRead 24 = .ok (.aload_n 0, 1) := by decide +kernel
theorem dX1_worthRead_25 : decode cX1_worthRead 25 = .ok (.getfield 25, 3) := by decide +kernel
theorem dX1_worthRead_28 : decode cX1_worthRead 28 = .ok (.iload 4, 2) := by decide +kernel
theorem dX1_worthRead_30 : decode cX1_worthRead 30 = .ok (.iload_n 1, 1) := by decide +kernel
theorem dX1_worthRead_31 : decode cX1_worthRead 31 = .ok (.iload_n 2, 1) := by decide +kernel
theorem dX1_worthRead_32 : decode cX1_worthRead 32 = .ok (.invokevirtual 169, 3) := by decide +kernel
theorem dX1_worthRead_35 : decode cX1_worthRead 35 = .ok (.imul, 1) := by decide +kernel
theorem dX1_worthRead_36 : decode cX1_worthRead 36 = .ok (.iadd, 1) := by decide +kernel
theorem dX1_worthRead_37 : decode cX1_worthRead 37 = .ok (.istore_n 3, 1) := by decide +kernel
theorem dX1_worthRead_38 : decode cX1_worthRead 38 = .ok (.iinc 4 1, 3) := by decide +kernel
theorem dX1_worthRead_41 : decode cX1_worthRead 41 = .ok (.goto (-36), 3) := by decide +kernel
theorem dX1_worthRead_44 : decode cX1_worthRead 44 = .ok (.iload_n 3, 1) := by decide +kernel
theorem dX1_worthRead_45 : decode cX1_worthRead 45 = .ok (.ireturn, 1) := by decide +kernel
set_option maxRecDepth 20000 in
theorem ggX1_firstUnlike_X0_wordAt : GoodIn wsX1_firstUnlike wsX0_wordAt := goodIn_r _ [11, 12, 22, 23, 24, 25, 26, 27, 28, 29, 30, 31] rfl (by decide +kernel)
set_option maxRecDepth 20000 in
theorem gX1_firstUnlike_X0_wordAt : GoodIn wsX1_firstUnlike (wsV RX1 114 RX0 yX0_wordAt wsX0_wordAt) := goodIn_app (goodIn_r _ [7, 8, 9, 10] rfl (by decide +kernel)) ggX1_firstUnlike_X0_wordAt
theorem dX1_firstUnlike_0 : decode cX1_firstUnlike 0 = .ok (.aload_n 0, 1) := by decide +kernel
theorem dX1_firstUnlike_1 : decode cX1_firstUnlike 1 = .ok (.getfield 25, 3) := by decide +kernel
theorem dX1_firstUnlike_4 : decode cX1_firstUnlike 4 = .ok (.getfield 130, 3) := by decide +kernel
theorem dX1_firstUnlike_7 : decode cX1_firstUnlike 7 = .ok (.iload_n 1, 1) := by decide +kernel
theorem dX1_firstUnlike_8 : decode cX1_firstUnlike 8 = .ok (.iaload, 1) := by decide +kernel
theorem dX1_firstUnlike_9 : decode cX1_firstUnlike 9 = .ok (.istore_n 3, 1) := by decide +kernel
theorem dX1_firstUnlike_10 : decode cX1_firstUnlike 10 = .ok (.iload_n 2, 1) := by decide +kernel
theorem dX1_firstUnlike_11 : decode cX1_firstUnlike 11 = .ok (.iload_n 3, 1) := by decide +kernel
theorem dX1_firstUnlike_12 : decode cX1_firstUnlike 12 = .ok (.invokestatic 175, 3) := by decide +kernel
theorem dX1_firstUnlike_15 : decode cX1_firstUnlike 15 = .ok (.istore 4, 2) := by decide +kernel
theorem dX1_firstUnlike_17 : decode cX1_firstUnlike 17 = .ok (.iconst 0, 1) := by decide +kernel
theorem dX1_firstUnlike_18 : decode cX1_firstUnlike 18 = .ok (.istore 5, 2) := by decide +kernel
theorem dX1_firstUnlike_20 : decode cX1_firstUnlike 20 = .ok (.iload 5, 2) := by decide +kernel
theorem dX1_firstUnlike_22 : decode cX1_firstUnlike 22 = .ok (.iload 4, 2) := by decide +kernel
theorem dX1_firstUnlike_24 : decode cX1_firstUnlike 24 = .ok (.if_icmp .ge 32, 3) := by decide +kernel
theorem dX1_firstUnlike_27 : decode cX1_firstUnlike 27 = .ok (.aload_n 0, 1) := by decide +kernel
theorem dX1_firstUnlike_28 : decode cX1_firstUnlike 28 = .ok (.getfield 15, 3) := by decide +kernel
theorem dX1_firstUnlike_31 : decode cX1_firstUnlike 31 = .ok (.iload 5, 2) := by decide +kernel
theorem dX1_firstUnlike_33 : decode cX1_firstUnlike 33 = .ok (.iaload, 1) := by decide +kernel
theorem dX1_firstUnlike_34 : decode cX1_firstUnlike 34 = .ok (.aload_n 0, 1) := by decide +kernel
theorem dX1_firstUnlike_35 : decode cX1_firstUnlike 35 = .ok (.getfield 25, 3) := by decide +kernel
theorem dX1_firstUnlike_38 : decode cX1_firstUnlike 38 = .ok (.iload_n 1, 1) := by decide +kernel
theorem dX1_firstUnlike_39 : decode cX1_firstUnlike 39 = .ok (.iload 5, 2) := by decide +kernel
theorem dX1_firstUnlike_41 : decode cX1_firstUnlike 41 = .ok (.invokevirtual 114, 3) := by decide +kernel
theorem dX1_firstUnlike_44 : decode cX1_firstUnlike 44 = .ok (.if_icmp .eq 6, 3) := by decide +kernel
theorem dX1_firstUnlike_47 : decode cX1_firstUnlike 47 = .ok (.iload 5, 2) := by decide +kernel
theorem dX1_firstUnlike_49 : decode cX1_firstUnlike 49 = .ok (.ireturn, 1) := by decide +kernel
theorem dX1_firstUnlike_50 : decode cX1_firstUnlike 50 = .ok (.iinc 5 1, 3) := by decide +kernel
theorem dX1_firstUnlike_53 : decode cX1_firstUnlike 53 = .ok (.goto (-33), 3) := by decide +kernel
theorem dX1_firstUnlike_56 : decode cX1_firstUnlike 56 = .ok (.iload_n 2, 1) := by decide +kernel
theorem dX1_firstUnlike_57 : decode cX1_firstUnlike 57 = .ok (.iload_n 3, 1) := by decide +kernel
theorem dX1_firstUnlike_58 : decode cX1_firstUnlike 58 = .ok (.if_icmp .ne 7, 3) := by decide +kernel
theorem dX1_firstUnlike_61 : decode cX1_firstUnlike 61 = .ok (.iconst (-1), 1) := by decide +kernel
theorem dX1_firstUnlike_62 : decode cX1_firstUnlike 62 = .ok (.goto 5, 3) := by decide +kernel
theorem dX1_firstUnlike_65 : decode cX1_firstUnlike 65 = .ok (.iload 4, 2) := by decide +kernel
theorem dX1_firstUnlike_67 : decode cX1_firstUnlike 67 = .ok (.ireturn, 1) := by decide +kernel
theorem dX2_init_0 : decode cX2_init 0 = .ok (.aload_n 0, 1) := by decide +kernel
theorem dX2_init_1 : decode cX2_init 1 = .ok (.invokespecial 3, 3) := by decide +kernel
theorem dX2_init_4 : decode cX2_init 4 = .ok (.aload_n 0, 1) := by decide +kernel
theorem dX2_init_5 : decode cX2_init 5 = .ok (.iconst 0, 1) := by decide +kernel
theorem dX2_init_6 : decode cX2_init 6 = .ok (.newarray .int, 2) := by decide +kernel
theorem dX2_init_8 : decode cX2_init 8 = .ok (.putfield 9, 3) := by decide +kernel
theorem dX2_init_11 : decode cX2_init 11 = .ok (.aload_n 0, 1) := by decide +kernel
theorem dX2_init_12 : decode cX2_init 12 = .ok (.ldc 15, 2) := by decide +kernel
theorem dX2_init_14 : decode cX2_init 14 = .ok (.putfield 17, 3) := by decide +kernel
theorem dX2_init_17 : decode cX2_init 17 = .ok (.aload_n 0, 1) := by decide +kernel
theorem dX2_init_18 : decode cX2_init 18 = .ok (.bipush 60, 2) := by decide +kernel
theorem dX2_init_20 : decode cX2_init 20 = .ok (.newarray .int, 2) := by decide +kernel
theorem dX2_init_22 : decode cX2_init 22 = .ok (.putfield 21, 3) := by decide +kernel
theorem dX2_init_25 : decode cX2_init 25 = .ok (.return_, 1) := by decide +kernel
set_option maxRecDepth 20000 in
theorem ggX2_reads_X2_readsLevel : GoodIn wsX2_reads wsX2_readsLevel := goodIn_r _ [11, 1, 12, 13, 14, 10, 7, 8, 9, 15, 16, 17, 18, 19, 20, 21, 22, 4, 3, 23, 24, 25, 26, 2, 6, 27, 28, 5, 29, 30, 31, 32, 33, 34, 35, 36, 37, 38, 39, 40, 41, 42, 43, 44, 45, 46, 47, 48, 49, 50, 51, 52, 53, 54, 55, 56, 57, 58, 59, 60, 61, 62, 63, 64, 65, 66, 67, 68, 69, 70, 71, 72, 73, 74, 75, 76, 77, 78, 79, 80, 81, 82, 83, 84, 85, 86, 87, 88, 89, 90, 91, 92, 93, 94, 95, 96, 97, 98, 99, 100, 101, 102, 103, 104, 105, 106, 107, 108, 109, 110, 111, 112, 113, 114, 115, 116, 117, 118, 119, 120, 121, 122, 123, 124, 125, 126, 127, 128, 129, 130, 131, 143, 144, 145, 146, 147, 148] rfl (by decide +kernel)
set_option maxRecDepth 20000 in
theorem gX2_reads_X2_readsLevel : GoodIn wsX2_reads (wsV RX2 42 RX2 yX2_readsLevel wsX2_readsLevel) := goodIn_app (goodIn_r _ [7, 8, 9, 10] rfl (by decide +kernel)) ggX2_reads_X2_readsLevel
set_option maxRecDepth 20000 in
theorem ggX2_reads_X4_keeps : GoodIn wsX2_reads wsX4_keeps := goodIn_r _ [136, 137, 138, 139, 140, 141, 142, 149, 150, 151, 152, 153, 154] rfl (by decide +kernel)
set_option maxRecDepth 20000 in
theorem gX2_reads_X4_keeps : GoodIn wsX2_reads (wsV RX2 46 RX4 yX4_keeps wsX4_keeps) := goodIn_app (goodIn_r _ [132, 133, 134, 135] rfl (by decide +kernel)) ggX2_reads_X4_keeps
theorem dX2_reads_0 : decode cX2_reads 0 = .ok (.aload_n 0, 1) := by decide +kernel
theorem dX2_reads_1 : decode cX2_reads 1 = .ok (.iconst 0, 1) := by decide +kernel
theorem dX2_reads_2 : decode cX2_reads 2 = .ok (.putfield 24, 3) := by decide +kernel
theorem dX2_reads_5 : decode cX2_reads 5 = .ok (.aload_n 0, 1) := by decide +kernel
theorem dX2_reads_6 : decode cX2_reads 6 = .ok (.iconst 0, 1) := by decide +kernel
theorem dX2_reads_7 : decode cX2_reads 7 = .ok (.putfield 28, 3) := by decide +kernel
theorem dX2_reads_10 : decode cX2_reads 10 = .ok (.aload_n 0, 1) := by decide +kernel
theorem dX2_reads_11 : decode cX2_reads 11 = .ok (.aload_n 1, 1) := by decide +kernel
theorem dX2_reads_12 : decode cX2_reads 12 = .ok (.getfield 31, 3) := by decide +kernel
theorem dX2_reads_15 : decode cX2_reads 15 = .ok (.putfield 9, 3) := by decide +kernel
theorem dX2_reads_18 : decode cX2_reads 18 = .ok (.aload_n 0, 1) := by decide +kernel
theorem dX2_reads_19 : decode cX2_reads 19 = .ok (.aload_n 1, 1) := by decide +kernel
theorem dX2_reads_20 : decode cX2_reads 20 = .ok (.getfield 34, 3) := by decide +kernel
theorem dX2_reads_23 : decode cX2_reads 23 = .ok (.putfield 37, 3) := by decide +kernel
theorem dX2_reads_26 : decode cX2_reads 26 = .ok (.aload_n 0, 1) := by decide +kernel
theorem dX2_reads_27 : decode cX2_reads 27 = .ok (.iload_n 2, 1) := by decide +kernel
theorem dX2_reads_28 : decode cX2_reads 28 = .ok (.ifCond .ne 8, 3) := by decide +kernel
theorem dX2_reads_31 : decode cX2_reads 31 = .ok (.ldc 38, 2) := by decide +kernel
theorem dX2_reads_33 : decode cX2_reads 33 = .ok (.goto 15, 3) := by decide +kernel
theorem dX2_reads_36 : decode cX2_reads 36 = .ok (.iload_n 2, 1) := by decide +kernel
theorem dX2_reads_37 : decode cX2_reads 37 = .ok (.iconst 1, 1) := by decide +kernel
theorem dX2_reads_38 : decode cX2_reads 38 = .ok (.if_icmp .ne 8, 3) := by decide +kernel
theorem dX2_reads_41 : decode cX2_reads 41 = .ok (.ldc 40, 2) := by decide +kernel
theorem dX2_reads_43 : decode cX2_reads 43 = .ok (.goto 5, 3) := by decide +kernel
theorem dX2_reads_46 : decode cX2_reads 46 = .ok (.ldc 15, 2) := by decide +kernel
theorem dX2_reads_48 : decode cX2_reads 48 = .ok (.putfield 17, 3) := by decide +kernel
theorem dX2_reads_51 : decode cX2_reads 51 = .ok (.aload_n 1, 1) := by decide +kernel
theorem dX2_reads_52 : decode cX2_reads 52 = .ok (.iconst 0, 1) := by decide +kernel
theorem dX2_reads_53 : decode cX2_reads 53 = .ok (.putfield 34, 3) := by decide +kernel
theorem dX2_reads_56 : decode cX2_reads 56 = .ok (.aload_n 0, 1) := by decide +kernel
theorem dX2_reads_57 : decode cX2_reads 57 = .ok (.iconst 0, 1) := by decide +kernel
theorem dX2_reads_58 : decode cX2_reads 58 = .ok (.iconst 0, 1) := by decide +kernel
theorem dX2_reads_59 : decode cX2_reads 59 = .ok (.invokevirtual 42, 3) := by decide +kernel
theorem dX2_reads_62 : decode cX2_reads 62 = .ok (.ifCond .eq 14, 3) := by decide +kernel
theorem dX2_reads_65 : decode cX2_reads 65 = .ok (.aload_n 0, 1) := by decide +kernel
theorem dX2_reads_66 : decode cX2_reads 66 = .ok (.getfield 24, 3) := by decide +kernel
theorem dX2_reads_69 : decode cX2_reads 69 = .ok (.aload_n 0, 1) := by decide +kernel
theorem dX2_reads_70 : decode cX2_reads 70 = .ok (.getfield 37, 3) := by decide +kernel
theorem dX2_reads_73 : decode cX2_reads 73 = .ok (.if_icmp .ge 8, 3) := by decide +kernel
theorem dX2_reads_76 : decode cX2_reads 76 = .ok (.aload_n 0, 1) := by decide +kernel
theorem dX2_reads_77 : decode cX2_reads 77 = .ok (.getfield 24, 3) := by decide +kernel
theorem dX2_reads_80 : decode cX2_reads 80 = .ok (.ireturn, 1) := by decide +kernel
theorem dX2_reads_81 : decode cX2_reads 81 = .ok (.aload_n 1, 1) := by decide +kernel
theorem dX2_reads_82 : decode cX2_reads 82 = .ok (.iload_n 2, 1) := by decide +kernel
theorem dX2_reads_83 : decode cX2_reads 83 = .ok (.aload_n 0, 1) := by decide +kernel
theorem dX2_reads_84 : decode cX2_reads 84 = .ok (.getfield 21, 3) := by decide +kernel
theorem dX2_reads_87 : decode cX2_reads 87 = .ok (.aload_n 0, 1) := by decide +kernel
theorem dX2_reads_88 : decode cX2_reads 88 = .ok (.getfield 28, 3) := by decide +kernel
theorem dX2_reads_91 : decode cX2_reads 91 = .ok (.invokevirtual 46, 3) := by decide +kernel
theorem dX2_reads_94 : decode cX2_reads 94 = .ok (.iconst (-1), 1) := by decide +kernel
theorem dX2_reads_95 : decode cX2_reads 95 = .ok (.ireturn, 1) := by decide +kernel
set_option maxRecDepth 20000 in
theorem ggX2_readsLevel_X2_readsInnermost : GoodIn wsX2_readsLevel wsX2_readsInnermost := goodIn_r _ [26, 27, 1, 13, 14, 15, 5, 16, 17, 18, 28, 29, 30, 31, 32, 33, 34, 19, 20, 21, 22, 23, 24, 35, 36, 37, 38, 39, 40, 41, 42, 43, 44, 45, 46, 47, 48, 49, 50, 51, 52, 53, 54, 55, 56, 57, 58, 59, 60, 61, 62, 63, 64, 65, 66, 67, 68, 69, 70, 71, 72, 73, 74, 75, 76, 77, 78, 79, 80, 81, 82, 83, 84, 85, 86, 87, 88, 89, 90, 91, 92, 93, 94, 95, 96, 97, 98, 99, 100, 101, 102, 103, 104, 105, 106, 107, 108, 109, 110, 111, 112, 113, 114, 115, 116, 117, 118, 119, 120, 121, 122, 123, 124, 125, 126, 127, 128, 129, 25, 2, 3, 4, 130, 6, 7, 8, 0, 9, 10, 11, 12, 131, 132, 133, 134, 135, 136] rfl (by decide +kernel)
set_option maxRecDepth 20000 in
theorem gX2_readsLevel_X2_readsInnermost : GoodIn wsX2_readsLevel (wsV RX2 50 RX2 yX2_readsInnermost wsX2_readsInnermost) := goodIn_app (goodIn_r _ [2, 3, 4, 5] rfl (by decide +kernel)) ggX2_readsLevel_X2_readsInnermost
set_option maxRecDepth 20000 in
theorem ggX2_readsLevel_X2_readsLevel : GoodIn wsX2_readsLevel wsX2_readsLevel := goodIn_r _ [0, 1, 2, 3, 4, 5, 6, 7, 8, 9, 10, 11, 12, 13, 14, 15, 16, 17, 18, 19, 20, 21, 22, 23, 24, 25, 26, 27, 28, 29, 30, 31, 32, 33, 34, 35, 36, 37, 38, 39, 40, 41, 42, 43, 44, 45, 46, 47, 48, 49, 50, 51, 52, 53, 54, 55, 56, 57, 58, 59, 60, 61, 62, 63, 64, 65, 66, 67, 68, 69, 70, 71, 72, 73, 74, 75, 76, 77, 78, 79, 80, 81, 82, 83, 84, 85, 86, 87, 88, 89, 90, 91, 92, 93, 94, 95, 96, 97, 98, 99, 100, 101, 102, 103, 104, 105, 106, 107, 108, 109, 110, 111, 112, 113, 114, 115, 116, 117, 118, 119, 120, 121, 122, 123, 124, 125, 126, 127, 128, 129, 130, 131, 132, 133, 134, 135, 136] rfl (by decide +kernel)
set_option maxRecDepth 20000 in
theorem gX2_readsLevel_X2_readsLevel : GoodIn wsX2_readsLevel (wsV RX2 42 RX2 yX2_readsLevel wsX2_readsLevel) := goodIn_app (goodIn_r _ [6, 7, 8, 5] rfl (by decide +kernel)) ggX2_readsLevel_X2_readsLevel
set_option maxRecDepth 20000 in
theorem ggX2_readsLevel_X2_isJoining : GoodIn wsX2_readsLevel wsX2_isJoining := goodIn_r _ [12, 13, 14, 15, 5, 16, 1, 17, 18, 131, 132, 133, 134, 135, 136] rfl (by decide +kernel)
set_option maxRecDepth 20000 in
theorem gX2_readsLevel_X2_isJoining : GoodIn wsX2_readsLevel (wsV RX2 54 RX2 yX2_isJoining wsX2_isJoining) := goodIn_app (goodIn_r _ [9, 10, 11, 5] rfl (by decide +kernel)) ggX2_readsLevel_X2_isJoining
set_option maxRecDepth 20000 in
theorem ggX2_readsLevel_X2_sign : GoodIn wsX2_readsLevel wsX2_sign := goodIn_r _ [16, 1, 17, 18, 131, 132, 133, 134, 135, 136] rfl (by decide +kernel)
set_option maxRecDepth 20000 in
theorem gX2_readsLevel_X2_sign : GoodIn wsX2_readsLevel (wsV RX2 57 RX2 yX2_sign wsX2_sign) := goodIn_app (goodIn_r _ [13, 14, 15, 5] rfl (by decide +kernel)) ggX2_readsLevel_X2_sign
set_option maxRecDepth 20000 in
theorem ggX2_readsLevel_X2_adds : GoodIn wsX2_readsLevel wsX2_adds := goodIn_r _ [22, 23, 24, 131, 132, 133, 134, 135, 136] rfl (by decide +kernel)
set_option maxRecDepth 20000 in
theorem gX2_readsLevel_X2_adds : GoodIn wsX2_readsLevel (wsV RX2 61 RX2 yX2_adds wsX2_adds) := goodIn_app (goodIn_r _ [19, 20, 21, 5] rfl (by decide +kernel)) ggX2_readsLevel_X2_adds
theorem dX2_readsLevel_0 : decode cX2_readsLevel 0 = .ok (.iload_n 1, 1) := by decide +kernel
theorem dX2_readsLevel_1 : decode cX2_readsLevel 1 = .ok (.iconst 5, 1) := by decide +kernel
theorem dX2_readsLevel_2 : decode cX2_readsLevel 2 = .ok (.if_icmp .lt 9, 3) := by decide +kernel
theorem dX2_readsLevel_5 : decode cX2_readsLevel 5 = .ok (.aload_n 0, 1) := by decide +kernel
theorem dX2_readsLevel_6 : decode cX2_readsLevel 6 = .ok (.iload_n 2, 1) := by decide +kernel
theorem dX2_readsLevel_7 : decode cX2_readsLevel 7 = .ok (.invokevirtual 50, 3) := by decide +kernel
theorem dX2_readsLevel_10 : decode cX2_readsLevel 10 = .ok (.ireturn, 1) := by decide +kernel
theorem dX2_readsLevel_11 : decode cX2_readsLevel 11 = .ok (.aload_n 0, 1) := by decide +kernel
theorem dX2_readsLevel_12 : decode cX2_readsLevel 12 = .ok (.iload_n 1, 1) := by decide +kernel
theorem dX2_readsLevel_13 : decode cX2_readsLevel 13 = .ok (.iconst 1, 1) := by decide +kernel
theorem dX2_readsLevel_14 : decode cX2_readsLevel 14 = .ok (.iadd, 1) := by decide +kernel
theorem dX2_readsLevel_15 : decode cX2_readsLevel 15 = .ok (.iload_n 2, 1) := by decide +kernel
theorem dX2_readsLevel_16 : decode cX2_readsLevel 16 = .ok (.invokevirtual 42, 3) := by decide +kernel
theorem dX2_readsLevel_19 : decode cX2_readsLevel 19 = .ok (.ifCond .ne 5, 3) := by decide +kernel
theorem dX2_readsLevel_22 : decode cX2_readsLevel 22 = .ok (.iconst 0, 1) := by decide +kernel
theorem dX2_readsLevel_23 : decode cX2_readsLevel 23 = .ok (.ireturn, 1) := by decide +kernel
theorem dX2_readsLevel_24 : decode cX2_readsLevel 24 = .ok (.iload_n 1, 1) := by decide +kernel
theorem dX2_readsLevel_25 : decode cX2_readsLevel 25 = .ok (.iconst 2, 1) := by decide +kernel
theorem dX2_readsLevel_26 : decode cX2_readsLevel 26 = .ok (.if_icmp .ne 7, 3) := by decide +kernel
theorem dX2_readsLevel_29 : decode cX2_readsLevel 29 = .ok (.iconst 1, 1) := by decide +kernel
theorem dX2_readsLevel_30 : decode cX2_readsLevel 30 = .ok (.goto 5, 3) := by decide +kernel
theorem dX2_readsLevel_33 : decode cX2_readsLevel 33 = .ok (.bipush 60, 2) := by decide +kernel
theorem dX2_readsLevel_35 : decode cX2_readsLevel 35 = .ok (.istore_n 3, 1) := by decide +kernel
theorem dX2_readsLevel_36 : decode cX2_readsLevel 36 = .ok (.iconst 0, 1) := by decide +kernel
theorem dX2_readsLevel_37 : decode cX2_readsLevel 37 = .ok (.istore 4, 2) := by decide +kernel
theorem dX2_readsLevel_39 : decode cX2_readsLevel 39 = .ok (.iload 4, 2) := by decide +kernel
theorem dX2_readsLevel_41 : decode cX2_readsLevel 41 = .ok (.iload_n 3, 1) := by decide +kernel
theorem dX2_readsLevel_42 : decode cX2_readsLevel 42 = .ok (.if_icmp .ge 53, 3) := by decide +kernel
theorem dX2_readsLevel_45 : decode cX2_readsLevel 45 = .ok (.aload_n 0, 1) := by decide +kernel
theorem dX2_readsLevel_46 : decode cX2_readsLevel 46 = .ok (.iload_n 1, 1) := by decide +kernel
theorem dX2_readsLevel_47 : decode cX2_readsLevel 47 = .ok (.invokevirtual 54, 3) := by decide +kernel
theorem dX2_readsLevel_50 : decode cX2_readsLevel 50 = .ok (.ifCond .eq 45, 3) := by decide +kernel
theorem dX2_readsLevel_53 : decode cX2_readsLevel 53 = .ok (.aload_n 0, 1) := by decide +kernel
theorem dX2_readsLevel_54 : decode cX2_readsLevel 54 = .ok (.invokevirtual 57, 3) := by decide +kernel
theorem dX2_readsLevel_57 : decode cX2_readsLevel 57 = .ok (.istore 5, 2) := by decide +kernel
theorem dX2_readsLevel_59 : decode cX2_readsLevel 59 = .ok (.aload_n 0, 1) := by decide +kernel
theorem dX2_readsLevel_60 : decode cX2_readsLevel 60 = .ok (.dup, 1) := by decide +kernel
theorem dX2_readsLevel_61 : decode cX2_readsLevel 61 = .ok (.getfield 24, 3) := by decide +kernel
theorem dX2_readsLevel_64 : decode cX2_readsLevel 64 = .ok (.iconst 1, 1) := by decide +kernel
theorem dX2_readsLevel_65 : decode cX2_readsLevel 65 = .ok (.iadd, 1) := by decide +kernel
theorem dX2_readsLevel_66 : decode cX2_readsLevel 66 = .ok (.putfield 24, 3) := by decide +kernel
theorem dX2_readsLevel_69 : decode cX2_readsLevel 69 = .ok (.aload_n 0, 1) := by decide +kernel
theorem dX2_readsLevel_70 : decode cX2_readsLevel 70 = .ok (.iload_n 1, 1) := by decide +kernel
theorem dX2_readsLevel_71 : decode cX2_readsLevel 71 = .ok (.iconst 1, 1) := by decide +kernel
theorem dX2_readsLevel_72 : decode cX2_readsLevel 72 = .ok (.iadd, 1) := by decide +kernel
theorem dX2_readsLevel_73 : decode cX2_readsLevel 73 = .ok (.iload_n 2, 1) := by decide +kernel
theorem dX2_readsLevel_74 : decode cX2_readsLevel 74 = .ok (.invokevirtual 42, 3) := by decide +kernel
theorem dX2_readsLevel_77 : decode cX2_readsLevel 77 = .ok (.ifCond .ne 5, 3) := by decide +kernel
theorem dX2_readsLevel_80 : decode cX2_readsLevel 80 = .ok (.iconst 0, 1) := by decide +kernel
theorem dX2_readsLevel_81 : decode cX2_readsLevel 81 = .ok (.ireturn, 1) := by decide +kernel
theorem dX2_readsLevel_82 : decode cX2_readsLevel 82 = .ok (.aload_n 0, 1) := by decide +kernel
theorem dX2_readsLevel_83 : decode cX2_readsLevel 83 = .ok (.iload 5, 2) := by decide +kernel
theorem dX2_readsLevel_85 : decode cX2_readsLevel 85 = .ok (.ineg, 1) := by decide +kernel
theorem dX2_readsLevel_86 : decode cX2_readsLevel 86 = .ok (.invokevirtual 61, 3) := by decide +kernel
theorem dX2_readsLevel_89 : decode cX2_readsLevel 89 = .ok (.iinc 4 1, 3) := by decide +kernel
theorem dX2_readsLevel_92 : decode cX2_readsLevel 92 = .ok (.goto (-53), 3) := by decide +kernel
theorem dX2_readsLevel_95 : decode cX2_readsLevel 95 = .ok (.iconst 1, 1) := by decide +kernel
theorem dX2_readsLevel_96 : decode cX2_readsLevel 96 = .ok (.ireturn, 1) := by decide +kernel
set_option maxRecDepth 20000 in
theorem ggX2_readsInnermost_X2_sign : GoodIn wsX2_readsInnermost wsX2_sign := goodIn_r _ [7, 2, 8, 9, 131, 132, 133, 134, 135, 136] rfl (by decide +kernel)
set_option maxRecDepth 20000 in
theorem gX2_readsInnermost_X2_sign : GoodIn wsX2_readsInnermost (wsV RX2 57 RX2 yX2_sign wsX2_sign) := goodIn_app (goodIn_r _ [3, 4, 5, 6] rfl (by decide +kernel)) ggX2_readsInnermost_X2_sign
set_option maxRecDepth 20000 in
theorem ggX2_readsInnermost_X2_isDigit : GoodIn wsX2_readsInnermost wsX2_isDigit := goodIn_r _ [12] rfl (by decide +kernel)
set_option maxRecDepth 20000 in
theorem gX2_readsInnermost_X2_isDigit : GoodIn wsX2_readsInnermost (va_wsS RX2 65 yX2_isDigit wsX2_isDigit) := goodIn_app (goodIn_r _ [10, 11, 6] rfl (by decide +kernel)) ggX2_readsInnermost_X2_isDigit
set_option maxRecDepth 20000 in
theorem ggX2_readsInnermost_X2_readsNumber : GoodIn wsX2_readsInnermost wsX2_readsNumber := goodIn_r _ [16, 2, 3, 4, 5, 6, 7, 8, 9, 10, 11, 12, 17, 18, 19, 20, 21, 22, 131, 132, 133, 134, 135, 136] rfl (by decide +kernel)
set_option maxRecDepth 20000 in
theorem gX2_readsInnermost_X2_readsNumber : GoodIn wsX2_readsInnermost (wsV RX2 68 RX2 yX2_readsNumber wsX2_readsNumber) := goodIn_app (goodIn_r _ [13, 14, 15, 6] rfl (by decide +kernel)) ggX2_readsInnermost_X2_readsNumber
set_option maxRecDepth 20000 in
theorem ggX2_readsInnermost_J0_indexOf_0f7a4 : GoodIn wsX2_readsInnermost wsJ0_indexOf_0f7a4 := goodIn_r _ [27, 28, 29, 30, 26, 31, 32, 33, 34, 35, 36, 37, 38, 39, 40, 41, 42, 43, 44, 45, 46, 47, 48, 49, 50, 51, 52, 53, 54, 55, 56, 57, 58, 59, 60, 61, 62, 63, 64, 65, 66, 67, 68, 69, 70, 71, 72, 73, 74, 75, 76, 77, 78, 79, 80, 81, 82, 83, 84, 85, 86, 87, 88, 89, 90, 91, 92, 93, 94, 95, 96, 97, 98, 99, 100, 101, 102, 103, 104, 105, 106, 107, 108, 109, 110, 111] rfl (by decide +kernel)
set_option maxRecDepth 20000 in
theorem gX2_readsInnermost_J0_indexOf_0f7a4 : GoodIn wsX2_readsInnermost (wsV RX2 71 RJ0 yJ0_indexOf_0f7a4 wsJ0_indexOf_0f7a4) := goodIn_app (goodIn_r _ [23, 24, 25, 26] rfl (by decide +kernel)) ggX2_readsInnermost_J0_indexOf_0f7a4
set_option maxRecDepth 20000 in
theorem ggX2_readsInnermost_X2_adds : GoodIn wsX2_readsInnermost wsX2_adds := goodIn_r _ [20, 21, 22, 131, 132, 133, 134, 135, 136] rfl (by decide +kernel)
set_option maxRecDepth 20000 in
theorem gX2_readsInnermost_X2_adds : GoodIn wsX2_readsInnermost (wsV RX2 61 RX2 yX2_adds wsX2_adds) := goodIn_app (goodIn_r _ [17, 18, 19, 6] rfl (by decide +kernel)) ggX2_readsInnermost_X2_adds
set_option maxRecDepth 20000 in
theorem ggX2_readsInnermost_X2_readsDenied : GoodIn wsX2_readsInnermost wsX2_readsDenied := goodIn_r _ [118, 119, 120, 121, 6, 17, 18, 19, 20, 21, 22, 0, 1, 2, 3, 4, 5, 7, 8, 9, 10, 11, 12, 13, 14, 15, 16, 23, 24, 25, 26, 27, 28, 29, 30, 31, 32, 33, 34, 35, 36, 37, 38, 39, 40, 41, 42, 43, 44, 45, 46, 47, 48, 49, 50, 51, 52, 53, 54, 55, 56, 57, 58, 59, 60, 61, 62, 63, 64, 65, 66, 67, 68, 69, 70, 71, 72, 73, 74, 75, 76, 77, 78, 79, 80, 81, 82, 83, 84, 85, 86, 87, 88, 89, 90, 91, 92, 93, 94, 95, 96, 97, 98, 99, 100, 101, 102, 103, 104, 105, 106, 107, 108, 109, 110, 111, 112, 113, 114, 115, 116, 117, 122, 123, 124, 125, 126, 127, 128, 129, 130, 131, 132, 133, 134, 135, 136] rfl (by decide +kernel)
set_option maxRecDepth 20000 in
theorem gX2_readsInnermost_X2_readsDenied : GoodIn wsX2_readsInnermost (wsV RX2 77 RX2 yX2_readsDenied wsX2_readsDenied) := goodIn_app (goodIn_r _ [112, 113, 114, 6] rfl (by decide +kernel)) ggX2_readsInnermost_X2_readsDenied
set_option maxRecDepth 20000 in
theorem ggX2_readsInnermost_X2_readsInside : GoodIn wsX2_readsInnermost wsX2_readsInside := goodIn_r _ [122, 2, 123, 124, 125, 6, 3, 4, 5, 7, 8, 9, 118, 119, 120, 121, 17, 18, 19, 20, 21, 22, 0, 1, 10, 11, 12, 13, 14, 15, 16, 23, 24, 25, 26, 27, 28, 29, 30, 31, 32, 33, 34, 35, 36, 37, 38, 39, 40, 41, 42, 43, 44, 45, 46, 47, 48, 49, 50, 51, 52, 53, 54, 55, 56, 57, 58, 59, 60, 61, 62, 63, 64, 65, 66, 67, 68, 69, 70, 71, 72, 73, 74, 75, 76, 77, 78, 79, 80, 81, 82, 83, 84, 85, 86, 87, 88, 89, 90, 91, 92, 93, 94, 95, 96, 97, 98, 99, 100, 101, 102, 103, 104, 105, 106, 107, 108, 109, 110, 111, 112, 113, 114, 115, 116, 117, 126, 127, 128, 129, 130, 131, 132, 133, 134, 135, 136] rfl (by decide +kernel)
set_option maxRecDepth 20000 in
theorem gX2_readsInnermost_X2_readsInside : GoodIn wsX2_readsInnermost (wsV RX2 80 RX2 yX2_readsInside wsX2_readsInside) := goodIn_app (goodIn_r _ [115, 116, 117, 6] rfl (by decide +kernel)) ggX2_readsInnermost_X2_readsInside
theorem dX2_readsInnermost_0 : decode cX2_readsInnermost 0 = .ok (.aload_n 0, 1) := by decide +kernel
theorem dX2_readsInnermost_1 : decode cX2_readsInnermost 1 = .ok (.invokevirtual 57, 3) := by decide +kernel
theorem dX2_readsInnermost_4 : decode cX2_readsInnermost 4 = .ok (.istore_n 2, 1) := by decide +kernel
theorem dX2_readsInnermost_5 : decode cX2_readsInnermost 5 = .ok (.iload_n 2, 1) := by decide +kernel
theorem dX2_readsInnermost_6 : decode cX2_readsInnermost 6 = .ok (.invokestatic 65, 3) := by decide +kernel
theorem dX2_readsInnermost_9 : decode cX2_readsInnermost 9 = .ok (.ifCond .eq 9, 3) := by decide +kernel
theorem dX2_readsInnermost_12 : decode cX2_readsInnermost 12 = .ok (.aload_n 0, 1) := by decide +kernel
theorem dX2_readsInnermost_13 : decode cX2_readsInnermost 13 = .ok (.invokevirtual 68, 3) := by decide +kernel
theorem dX2_readsInnermost_16 : decode cX2_readsInnermost 16 = .ok (.iconst 1, 1) := by decide +kernel
theorem dX2_readsInnermost_17 : decode cX2_readsInnermost 17 = .ok (.ireturn, 1) := by decide +kernel
theorem dX2_readsInnermost_18 : decode cX2_readsInnermost 18 = .ok (.iload_n 2, 1) := by decide +kernel
theorem dX2_readsInnermost_19 : decode cX2_readsInnermost 19 = .ok (.ifCond .ge 7, 3) := by decide +kernel
theorem dX2_readsInnermost_22 : decode cX2_readsInnermost 22 = .ok (.iconst (-1), 1) := by decide +kernel
theorem dX2_readsInnermost_23 : decode cX2_readsInnermost 23 = .ok (.goto 12, 3) := by decide +kernel
theorem dX2_readsInnermost_26 : decode cX2_readsInnermost 26 = .ok (.aload_n 0, 1) := by decide +kernel
theorem dX2_readsInnermost_27 : decode cX2_readsInnermost 27 = .ok (.getfield 17, 3) := by decide +kernel
theorem dX2_readsInnermost_30 : decode cX2_readsInnermost 30 = .ok (.iload_n 2, 1) := by decide +kernel
theorem dX2_readsInnermost_31 : decode cX2_readsInnermost 31 = .ok (.i2c, 1) := by decide +kernel
theorem dX2_readsInnermost_32 : decode cX2_readsInnermost 32 = .ok (.invokevirtual 71, 3) := by decide +kernel
theorem dX2_readsInnermost_35 : decode cX2_readsInnermost 35 = .ok (.istore_n 3, 1) := by decide +kernel
theorem dX2_readsInnermost_36 : decode cX2_readsInnermost 36 = .ok (.iload_n 3, 1) := by decide +kernel
theorem dX2_readsInnermost_37 : decode cX2_readsInnermost 37 = .ok (.ifCond .lt 22, 3) := by decide +kernel
theorem dX2_readsInnermost_40 : decode cX2_readsInnermost 40 = .ok (.aload_n 0, 1) := by decide +kernel
theorem dX2_readsInnermost_41 : decode cX2_readsInnermost 41 = .ok (.dup, 1) := by decide +kernel
theorem dX2_readsInnermost_42 : decode cX2_readsInnermost 42 = .ok (.getfield 24, 3) := by decide +kernel
theorem dX2_readsInnermost_45 : decode cX2_readsInnermost 45 = .ok (.iconst 1, 1) := by decide +kernel
theorem dX2_readsInnermost_46 : decode cX2_readsInnermost 46 = .ok (.iadd, 1) := by decide +kernel
theorem dX2_readsInnermost_47 : decode cX2_readsInnermost 47 = .ok (.putfield 24, 3) := by decide +kernel
theorem dX2_readsInnermost_50 : decode cX2_readsInnermost 50 = .ok (.aload_n 0, 1) := by decide +kernel
theorem dX2_readsInnermost_51 : decode cX2_readsInnermost 51 = .ok (.iconst (-1), 1) := by decide +kernel
theorem dX2_readsInnermost_52 : decode cX2_readsInnermost 52 = .ok (.iload_n 3, 1) := by decide +kernel
theorem dX2_readsInnermost_53 : decode cX2_readsInnermost 53 = .ok (.isub, 1) := by decide +kernel
theorem dX2_readsInnermost_54 : decode cX2_readsInnermost 54 = .ok (.invokevirtual 61, 3) := by decide +kernel
theorem dX2_readsInnermost_57 : decode cX2_readsInnermost 57 = .ok (.iconst 1, 1) := by decide +kernel
theorem dX2_readsInnermost_58 : decode cX2_readsInnermost 58 = .ok (.ireturn, 1) := by decide +kernel
theorem dX2_readsInnermost_59 : decode cX2_readsInnermost 59 = .ok (.iload_n 1, 1) := by decide +kernel
theorem dX2_readsInnermost_60 : decode cX2_readsInnermost 60 = .ok (.iconst 5, 1) := by decide +kernel
theorem dX2_readsInnermost_61 : decode cX2_readsInnermost 61 = .ok (.if_icmp .ge 15, 3) := by decide +kernel
theorem dX2_readsInnermost_64 : decode cX2_readsInnermost 64 = .ok (.iload_n 2, 1) := by decide +kernel
theorem dX2_readsInnermost_65 : decode cX2_readsInnermost 65 = .ok (.bipush 33, 2) := by decide +kernel
theorem dX2_readsInnermost_67 : decode cX2_readsInnermost 67 = .ok (.if_icmp .eq 11, 3) := by decide +kernel
theorem dX2_readsInnermost_70 : decode cX2_readsInnermost 70 = .ok (.iload_n 2, 1) := by decide +kernel
theorem dX2_readsInnermost_71 : decode cX2_readsInnermost 71 = .ok (.bipush 40, 2) := by decide +kernel
theorem dX2_readsInnermost_73 : decode cX2_readsInnermost 73 = .ok (.if_icmp .eq 5, 3) := by decide +kernel
theorem dX2_readsInnermost_76 : decode cX2_readsInnermost 76 = .ok (.iconst 0, 1) := by decide +kernel
theorem dX2_readsInnermost_77 : decode cX2_readsInnermost 77 = .ok (.ireturn, 1) := by decide +kernel
theorem dX2_readsInnermost_78 : decode cX2_readsInnermost 78 = .ok (.aload_n 0, 1) := by decide +kernel
theorem dX2_readsInnermost_79 : decode cX2_readsInnermost 79 = .ok (.dup, 1) := by decide +kernel
theorem dX2_readsInnermost_80 : decode cX2_readsInnermost 80 = .ok (.getfield 24, 3) := by decide +kernel
theorem dX2_readsInnermost_83 : decode cX2_readsInnermost 83 = .ok (.iconst 1, 1) := by decide +kernel
theorem dX2_readsInnermost_84 : decode cX2_readsInnermost 84 = .ok (.iadd, 1) := by decide +kernel
theorem dX2_readsInnermost_85 : decode cX2_readsInnermost 85 = .ok (.putfield 24, 3) := by decide +kernel
theorem dX2_readsInnermost_88 : decode cX2_readsInnermost 88 = .ok (.iload_n 2, 1) := by decide +kernel
theorem dX2_readsInnermost_89 : decode cX2_readsInnermost 89 = .ok (.bipush 33, 2) := by decide +kernel
theorem dX2_readsInnermost_91 : decode cX2_readsInnermost 91 = .ok (.if_icmp .ne 13, 3) := by decide +kernel
theorem dX2_readsInnermost_94 : decode cX2_readsInnermost 94 = .ok (.aload_n 0, 1) := by decide +kernel
theorem dX2_readsInnermost_95 : decode cX2_readsInnermost 95 = .ok (.iload_n 1, 1) := by decide +kernel
theorem dX2_readsInnermost_96 : decode cX2_readsInnermost 96 = .ok (.iconst 1, 1) := by decide +kernel
theorem dX2_readsInnermost_97 : decode cX2_readsInnermost 97 = .ok (.iadd, 1) := by decide +kernel
theorem dX2_readsInnermost_98 : decode cX2_readsInnermost 98 = .ok (.invokevirtual 77, 3) := by decide +kernel
theorem dX2_readsInnermost_101 : decode cX2_readsInnermost 101 = .ok (.goto 10, 3) := by decide +kernel
theorem dX2_readsInnermost_104 : decode cX2_readsInnermost 104 = .ok (.aload_n 0, 1) := by decide +kernel
theorem dX2_readsInnermost_105 : decode cX2_readsInnermost 105 = .ok (.iload_n 1, 1) := by decide +kernel
theorem dX2_readsInnermost_106 : decode cX2_readsInnermost 106 = .ok (.iconst 1, 1) := by decide +kernel
theorem dX2_readsInnermost_107 : decode cX2_readsInnermost 107 = .ok (.iadd, 1) := by decide +kernel
theorem dX2_readsInnermost_108 : decode cX2_readsInnermost 108 = .ok (.invokevirtual 80, 3) := by decide +kernel
theorem dX2_readsInnermost_111 : decode cX2_readsInnermost 111 = .ok (.ireturn, 1) := by decide +kernel
set_option maxRecDepth 20000 in
theorem ggX2_readsDenied_X2_readsInnermost : GoodIn wsX2_readsDenied wsX2_readsInnermost := goodIn_r _ [11, 12, 13, 14, 15, 16, 4, 17, 18, 19, 20, 21, 22, 23, 24, 25, 26, 5, 6, 7, 8, 9, 10, 27, 28, 29, 30, 31, 32, 33, 34, 35, 36, 37, 38, 39, 40, 41, 42, 43, 44, 45, 46, 47, 48, 49, 50, 51, 52, 53, 54, 55, 56, 57, 58, 59, 60, 61, 62, 63, 64, 65, 66, 67, 68, 69, 70, 71, 72, 73, 74, 75, 76, 77, 78, 79, 80, 81, 82, 83, 84, 85, 86, 87, 88, 89, 90, 91, 92, 93, 94, 95, 96, 97, 98, 99, 100, 101, 102, 103, 104, 105, 106, 107, 108, 109, 110, 111, 112, 113, 114, 115, 116, 117, 118, 119, 120, 121, 0, 1, 2, 3, 122, 123, 124, 125, 126, 127, 128, 129, 130, 131, 132, 133, 134, 135, 136] rfl (by decide +kernel)
set_option maxRecDepth 20000 in
theorem gX2_readsDenied_X2_readsInnermost : GoodIn wsX2_readsDenied (wsV RX2 50 RX2 yX2_readsInnermost wsX2_readsInnermost) := goodIn_app (goodIn_r _ [1, 2, 3, 4] rfl (by decide +kernel)) ggX2_readsDenied_X2_readsInnermost
set_option maxRecDepth 20000 in
theorem ggX2_readsDenied_X2_adds : GoodIn wsX2_readsDenied wsX2_adds := goodIn_r _ [8, 9, 10, 131, 132, 133, 134, 135, 136] rfl (by decide +kernel)
set_option maxRecDepth 20000 in
theorem gX2_readsDenied_X2_adds : GoodIn wsX2_readsDenied (wsV RX2 61 RX2 yX2_adds wsX2_adds) := goodIn_app (goodIn_r _ [5, 6, 7, 4] rfl (by decide +kernel)) ggX2_readsDenied_X2_adds
theorem dX2_readsDenied_0 : decode cX2_readsDenied 0 = .ok (.aload_n 0, 1) := by decide +kernel
theorem dX2_readsDenied_1 : decode cX2_readsDenied 1 = .ok (.iload_n 1, 1) := by decide +kernel
