theorem dX8_isReal_5 : decode cX8_isReal 5 = .ok (.lload_n 1, 1) := by decide +kernel
theorem dX8_isReal_6 : decode cX8_isReal 6 = .ok (.iload_n 0, 1) := by decide +kernel
theorem dX8_isReal_7 : decode cX8_isReal 7 = .ok (.iconst 1, 1) := by decide +kernel
theorem dX8_isReal_8 : decode cX8_isReal 8 = .ok (.isub, 1) := by decide +kernel
theorem dX8_isReal_9 : decode cX8_isReal 9 = .ok (.lshr, 1) := by decide +kernel
theorem dX8_isReal_10 : decode cX8_isReal 10 = .ok (.lconst 1, 1) := by decide +kernel
theorem dX8_isReal_11 : decode cX8_isReal 11 = .ok (.land, 1) := by decide +kernel
theorem dX8_isReal_12 : decode cX8_isReal 12 = .ok (.lconst 1, 1) := by decide +kernel
theorem dX8_isReal_13 : decode cX8_isReal 13 = .ok (.lcmp, 1) := by decide +kernel
theorem dX8_isReal_14 : decode cX8_isReal 14 = .ok (.ifCond .ne 7, 3) := by decide +kernel
theorem dX8_isReal_17 : decode cX8_isReal 17 = .ok (.iconst 1, 1) := by decide +kernel
theorem dX8_isReal_18 : decode cX8_isReal 18 = .ok (.goto 4, 3) := by decide +kernel
theorem dX8_isReal_21 : decode cX8_isReal 21 = .ok (.iconst 0, 1) := by decide +kernel
theorem dX8_isReal_22 : decode cX8_isReal 22 = .ok (.ireturn, 1) := by decide +kernel
set_option maxRecDepth 20000 in
theorem ggX8_tell_X8_isField : GoodIn wsX8_tell wsX8_isField := goodIn_r _ [8, 9, 10, 11, 7, 12, 49, 50, 51, 52, 53, 54, 55, 56, 57, 58] (by decide +kernel) (by decide +kernel)
set_option maxRecDepth 20000 in
theorem gX8_tell_X8_isField : GoodIn wsX8_tell (wsV RX8 100 RX8 yX8_isField wsX8_isField) := goodIn_app (goodIn_of _ (by decide +kernel)) ggX8_tell_X8_isField
set_option maxRecDepth 20000 in
theorem ggX8_tell_X8_degree : GoodIn wsX8_tell wsX8_degree := goodIn_r _ [15, 16, 17, 7, 18, 19, 20, 21, 10, 11, 12, 22, 23, 24, 25, 26, 27] (by decide +kernel) (by decide +kernel)
set_option maxRecDepth 20000 in
theorem gX8_tell_X8_degree : GoodIn wsX8_tell (va_wsS RX8 117 yX8_degree wsX8_degree) := goodIn_app (goodIn_of _ (by decide +kernel)) ggX8_tell_X8_degree
set_option maxRecDepth 20000 in
theorem ggX8_tell_X8_isReal : GoodIn wsX8_tell wsX8_isReal := goodIn_r _ [30] (by decide +kernel) (by decide +kernel)
set_option maxRecDepth 20000 in
theorem gX8_tell_X8_isReal : GoodIn wsX8_tell (va_wsS RX8 120 yX8_isReal wsX8_isReal) := goodIn_app (goodIn_of _ (by decide +kernel)) ggX8_tell_X8_isReal
set_option maxRecDepth 20000 in
theorem ggX8_tell_X8_isCyclic : GoodIn wsX8_tell wsX8_isCyclic := goodIn_r _ [33, 19, 20, 7, 21, 10, 11, 12, 22, 23, 24, 34, 35, 36, 37, 38, 39, 16, 17, 18] (by decide +kernel) (by decide +kernel)
set_option maxRecDepth 20000 in
theorem gX8_tell_X8_isCyclic : GoodIn wsX8_tell (va_wsS RX8 124 yX8_isCyclic wsX8_isCyclic) := goodIn_app (goodIn_of _ (by decide +kernel)) ggX8_tell_X8_isCyclic
set_option maxRecDepth 20000 in
theorem ggX8_tell_X8_between : GoodIn wsX8_tell wsX8_between := goodIn_r _ [43, 44, 3, 19, 20, 7, 21, 10, 11, 12, 22, 23, 24, 34, 35, 36, 37, 38, 39, 45, 46, 47, 48, 49, 50, 51, 52, 53, 54, 55, 56, 57, 58] (by decide +kernel) (by decide +kernel)
set_option maxRecDepth 20000 in
theorem gX8_tell_X8_between : GoodIn wsX8_tell (wsV RX8 127 RX8 yX8_between wsX8_between) := goodIn_app (goodIn_of _ (by decide +kernel)) ggX8_tell_X8_between
theorem dX8_tell_0 : decode cX8_tell 0 = .ok (.aload_n 0, 1) := by decide +kernel
theorem dX8_tell_1 : decode cX8_tell 1 = .ok (.iload_n 1, 1) := by decide +kernel
theorem dX8_tell_2 : decode cX8_tell 2 = .ok (.invokevirtual 100, 3) := by decide +kernel
theorem dX8_tell_5 : decode cX8_tell 5 = .ok (.ifCond .ne 6, 3) := by decide +kernel
theorem dX8_tell_8 : decode cX8_tell 8 = .ok (.bipush (-9), 2) := by decide +kernel
theorem dX8_tell_10 : decode cX8_tell 10 = .ok (.ireturn, 1) := by decide +kernel
theorem dX8_tell_11 : decode cX8_tell 11 = .ok (.aload_n 0, 1) := by decide +kernel
theorem dX8_tell_12 : decode cX8_tell 12 = .ok (.getfield 7, 3) := by decide +kernel
theorem dX8_tell_15 : decode cX8_tell 15 = .ok (.iload_n 1, 1) := by decide +kernel
theorem dX8_tell_16 : decode cX8_tell 16 = .ok (.iaload, 1) := by decide +kernel
theorem dX8_tell_17 : decode cX8_tell 17 = .ok (.istore_n 3, 1) := by decide +kernel
theorem dX8_tell_18 : decode cX8_tell 18 = .ok (.aload_n 0, 1) := by decide +kernel
theorem dX8_tell_19 : decode cX8_tell 19 = .ok (.getfield 13, 3) := by decide +kernel
theorem dX8_tell_22 : decode cX8_tell 22 = .ok (.iload_n 1, 1) := by decide +kernel
theorem dX8_tell_23 : decode cX8_tell 23 = .ok (.laload, 1) := by decide +kernel
theorem dX8_tell_24 : decode cX8_tell 24 = .ok (.lstore 4, 2) := by decide +kernel
theorem dX8_tell_26 : decode cX8_tell 26 = .ok (.iload_n 2, 1) := by decide +kernel
theorem dX8_tell_27 : decode cX8_tell 27 = .ok (.tableswitch 117 0 5 #[37, 39, 46, 61, 76, 105], 37) := by decide +kernel
theorem dX8_tell_64 : decode cX8_tell 64 = .ok (.iload_n 3, 1) := by decide +kernel
theorem dX8_tell_65 : decode cX8_tell 65 = .ok (.ireturn, 1) := by decide +kernel
theorem dX8_tell_66 : decode cX8_tell 66 = .ok (.iload_n 3, 1) := by decide +kernel
theorem dX8_tell_67 : decode cX8_tell 67 = .ok (.lload 4, 2) := by decide +kernel
theorem dX8_tell_69 : decode cX8_tell 69 = .ok (.invokestatic 117, 3) := by decide +kernel
theorem dX8_tell_72 : decode cX8_tell 72 = .ok (.ireturn, 1) := by decide +kernel
theorem dX8_tell_73 : decode cX8_tell 73 = .ok (.iload_n 3, 1) := by decide +kernel
theorem dX8_tell_74 : decode cX8_tell 74 = .ok (.lload 4, 2) := by decide +kernel
theorem dX8_tell_76 : decode cX8_tell 76 = .ok (.invokestatic 120, 3) := by decide +kernel
theorem dX8_tell_79 : decode cX8_tell 79 = .ok (.ifCond .eq 7, 3) := by decide +kernel
theorem dX8_tell_82 : decode cX8_tell 82 = .ok (.iconst 1, 1) := by decide +kernel
theorem dX8_tell_83 : decode cX8_tell 83 = .ok (.goto 4, 3) := by decide +kernel
theorem dX8_tell_86 : decode cX8_tell 86 = .ok (.iconst 0, 1) := by decide +kernel
theorem dX8_tell_87 : decode cX8_tell 87 = .ok (.ireturn, 1) := by decide +kernel
theorem dX8_tell_88 : decode cX8_tell 88 = .ok (.iload_n 3, 1) := by decide +kernel
theorem dX8_tell_89 : decode cX8_tell 89 = .ok (.lload 4, 2) := by decide +kernel
theorem dX8_tell_91 : decode cX8_tell 91 = .ok (.invokestatic 124, 3) := by decide +kernel
theorem dX8_tell_94 : decode cX8_tell 94 = .ok (.ifCond .eq 7, 3) := by decide +kernel
theorem dX8_tell_97 : decode cX8_tell 97 = .ok (.iconst 1, 1) := by decide +kernel
theorem dX8_tell_98 : decode cX8_tell 98 = .ok (.goto 4, 3) := by decide +kernel
theorem dX8_tell_101 : decode cX8_tell 101 = .ok (.iconst 0, 1) := by decide +kernel
theorem dX8_tell_102 : decode cX8_tell 102 = .ok (.ireturn, 1) := by decide +kernel
theorem dX8_tell_103 : decode cX8_tell 103 = .ok (.iload_n 3, 1) := by decide +kernel
theorem dX8_tell_104 : decode cX8_tell 104 = .ok (.lload 4, 2) := by decide +kernel
theorem dX8_tell_106 : decode cX8_tell 106 = .ok (.invokestatic 120, 3) := by decide +kernel
theorem dX8_tell_109 : decode cX8_tell 109 = .ok (.ifCond .ne 21, 3) := by decide +kernel
theorem dX8_tell_112 : decode cX8_tell 112 = .ok (.iload_n 3, 1) := by decide +kernel
theorem dX8_tell_113 : decode cX8_tell 113 = .ok (.lload 4, 2) := by decide +kernel
theorem dX8_tell_115 : decode cX8_tell 115 = .ok (.invokestatic 117, 3) := by decide +kernel
theorem dX8_tell_118 : decode cX8_tell 118 = .ok (.iconst 2, 1) := by decide +kernel
theorem dX8_tell_119 : decode cX8_tell 119 = .ok (.idiv, 1) := by decide +kernel
theorem dX8_tell_120 : decode cX8_tell 120 = .ok (.iconst 2, 1) := by decide +kernel
theorem dX8_tell_121 : decode cX8_tell 121 = .ok (.irem, 1) := by decide +kernel
theorem dX8_tell_122 : decode cX8_tell 122 = .ok (.iconst 1, 1) := by decide +kernel
theorem dX8_tell_123 : decode cX8_tell 123 = .ok (.if_icmp .ne 7, 3) := by decide +kernel
theorem dX8_tell_126 : decode cX8_tell 126 = .ok (.iconst (-1), 1) := by decide +kernel
theorem dX8_tell_127 : decode cX8_tell 127 = .ok (.goto 4, 3) := by decide +kernel
theorem dX8_tell_130 : decode cX8_tell 130 = .ok (.iconst 1, 1) := by decide +kernel
theorem dX8_tell_131 : decode cX8_tell 131 = .ok (.ireturn, 1) := by decide +kernel
theorem dX8_tell_132 : decode cX8_tell 132 = .ok (.aload_n 0, 1) := by decide +kernel
theorem dX8_tell_133 : decode cX8_tell 133 = .ok (.iload_n 3, 1) := by decide +kernel
theorem dX8_tell_134 : decode cX8_tell 134 = .ok (.lload 4, 2) := by decide +kernel
theorem dX8_tell_136 : decode cX8_tell 136 = .ok (.invokevirtual 127, 3) := by decide +kernel
theorem dX8_tell_139 : decode cX8_tell 139 = .ok (.aload_n 0, 1) := by decide +kernel
theorem dX8_tell_140 : decode cX8_tell 140 = .ok (.getfield 109, 3) := by decide +kernel
theorem dX8_tell_143 : decode cX8_tell 143 = .ok (.ireturn, 1) := by decide +kernel
theorem dX8_tell_144 : decode cX8_tell 144 = .ok (.bipush (-9), 2) := by decide +kernel
theorem dX8_tell_146 : decode cX8_tell 146 = .ok (.ireturn, 1) := by decide +kernel
set_option maxRecDepth 20000 in
theorem ggX8_group_X8_isField : GoodIn wsX8_group wsX8_isField := goodIn_r _ [7, 8, 9, 10, 6, 11, 12, 13, 14, 15, 16, 17, 18, 19, 20, 21] (by decide +kernel) (by decide +kernel)
set_option maxRecDepth 20000 in
theorem gX8_group_X8_isField : GoodIn wsX8_group (wsV RX8 100 RX8 yX8_isField wsX8_isField) := goodIn_app (goodIn_of _ (by decide +kernel)) ggX8_group_X8_isField
theorem dX8_group_0 : decode cX8_group 0 = .ok (.aload_n 0, 1) := by decide +kernel
theorem dX8_group_1 : decode cX8_group 1 = .ok (.iload_n 1, 1) := by decide +kernel
theorem dX8_group_2 : decode cX8_group 2 = .ok (.invokevirtual 100, 3) := by decide +kernel
theorem dX8_group_5 : decode cX8_group 5 = .ok (.ifCond .eq 12, 3) := by decide +kernel
theorem dX8_group_8 : decode cX8_group 8 = .ok (.aload_n 0, 1) := by decide +kernel
theorem dX8_group_9 : decode cX8_group 9 = .ok (.getfield 13, 3) := by decide +kernel
theorem dX8_group_12 : decode cX8_group 12 = .ok (.iload_n 1, 1) := by decide +kernel
theorem dX8_group_13 : decode cX8_group 13 = .ok (.laload, 1) := by decide +kernel
theorem dX8_group_14 : decode cX8_group 14 = .ok (.goto 6, 3) := by decide +kernel
theorem dX8_group_17 : decode cX8_group 17 = .ok (.ldc2_w 88, 3) := by decide +kernel
theorem dX8_group_20 : decode cX8_group 20 = .ok (.lreturn, 1) := by decide +kernel
set_option maxRecDepth 20000 in
theorem ggX8_isAsked_X8_isIn : GoodIn wsX8_isAsked wsX8_isIn := goodIn_r _ [4] (by decide +kernel) (by decide +kernel)
set_option maxRecDepth 20000 in
theorem gX8_isAsked_X8_isIn : GoodIn wsX8_isAsked (va_wsS RX8 37 yX8_isIn wsX8_isIn) := goodIn_app (goodIn_of _ (by decide +kernel)) ggX8_isAsked_X8_isIn
set_option maxRecDepth 20000 in
theorem ggX8_isAsked_X8_isPrime : GoodIn wsX8_isAsked wsX8_isPrime := goodIn_r _ [7] (by decide +kernel) (by decide +kernel)
set_option maxRecDepth 20000 in
theorem gX8_isAsked_X8_isPrime : GoodIn wsX8_isAsked (va_wsS RX8 64 yX8_isPrime wsX8_isPrime) := goodIn_app (goodIn_of _ (by decide +kernel)) ggX8_isAsked_X8_isPrime
theorem dX8_isAsked_0 : decode cX8_isAsked 0 = .ok (.iload_n 0, 1) := by decide +kernel
theorem dX8_isAsked_1 : decode cX8_isAsked 1 = .ok (.iconst 2, 1) := by decide +kernel
theorem dX8_isAsked_2 : decode cX8_isAsked 2 = .ok (.sipush 997, 3) := by decide +kernel
theorem dX8_isAsked_5 : decode cX8_isAsked 5 = .ok (.invokestatic 37, 3) := by decide +kernel
theorem dX8_isAsked_8 : decode cX8_isAsked 8 = .ok (.ifCond .eq 14, 3) := by decide +kernel
theorem dX8_isAsked_11 : decode cX8_isAsked 11 = .ok (.iload_n 0, 1) := by decide +kernel
theorem dX8_isAsked_12 : decode cX8_isAsked 12 = .ok (.invokestatic 64, 3) := by decide +kernel
theorem dX8_isAsked_15 : decode cX8_isAsked 15 = .ok (.ifCond .eq 7, 3) := by decide +kernel
theorem dX8_isAsked_18 : decode cX8_isAsked 18 = .ok (.iconst 1, 1) := by decide +kernel
theorem dX8_isAsked_19 : decode cX8_isAsked 19 = .ok (.goto 4, 3) := by decide +kernel
theorem dX8_isAsked_22 : decode cX8_isAsked 22 = .ok (.iconst 0, 1) := by decide +kernel
theorem dX8_isAsked_23 : decode cX8_isAsked 23 = .ok (.ireturn, 1) := by decide +kernel
set_option maxRecDepth 20000 in
theorem ggX8_parts_X8_isField : GoodIn wsX8_parts wsX8_isField := goodIn_r _ [7, 8, 9, 10, 6, 11, 48, 49, 50, 51, 52, 53, 54, 55, 56, 57] (by decide +kernel) (by decide +kernel)
set_option maxRecDepth 20000 in
theorem gX8_parts_X8_isField : GoodIn wsX8_parts (wsV RX8 100 RX8 yX8_isField wsX8_isField) := goodIn_app (goodIn_of _ (by decide +kernel)) ggX8_parts_X8_isField
set_option maxRecDepth 20000 in
theorem ggX8_parts_X8_isAsked : GoodIn wsX8_parts wsX8_isAsked := goodIn_r _ [14, 9, 10, 6, 11, 15, 16, 17] (by decide +kernel) (by decide +kernel)
set_option maxRecDepth 20000 in
theorem gX8_parts_X8_isAsked : GoodIn wsX8_parts (va_wsS RX8 131 yX8_isAsked wsX8_isAsked) := goodIn_app (goodIn_of _ (by decide +kernel)) ggX8_parts_X8_isAsked
set_option maxRecDepth 20000 in
theorem ggX8_parts_X8_isIn : GoodIn wsX8_parts wsX8_isIn := goodIn_r _ [11] (by decide +kernel) (by decide +kernel)
set_option maxRecDepth 20000 in
theorem gX8_parts_X8_isIn : GoodIn wsX8_parts (va_wsS RX8 37 yX8_isIn wsX8_isIn) := goodIn_app (goodIn_of _ (by decide +kernel)) ggX8_parts_X8_isIn
set_option maxRecDepth 20000 in
theorem ggX8_parts_X8_onesBy : GoodIn wsX8_parts wsX8_onesBy := goodIn_r _ [20, 21, 22, 6, 23, 9, 10, 11, 24, 25, 26] (by decide +kernel) (by decide +kernel)
set_option maxRecDepth 20000 in
theorem gX8_parts_X8_onesBy : GoodIn wsX8_parts (va_wsS RX8 77 yX8_onesBy wsX8_onesBy) := goodIn_app (goodIn_of _ (by decide +kernel)) ggX8_parts_X8_onesBy
set_option maxRecDepth 20000 in
theorem ggX8_parts_X8_product : GoodIn wsX8_parts wsX8_product := goodIn_r _ [29, 30, 31, 6, 32, 33, 34, 35] (by decide +kernel) (by decide +kernel)
set_option maxRecDepth 20000 in
theorem gX8_parts_X8_product : GoodIn wsX8_parts (va_wsS RX8 93 yX8_product wsX8_product) := goodIn_app (goodIn_of _ (by decide +kernel)) ggX8_parts_X8_product
set_option maxRecDepth 20000 in
theorem ggX8_parts_X8_many : GoodIn wsX8_parts wsX8_many := goodIn_r _ [38] (by decide +kernel) (by decide +kernel)
set_option maxRecDepth 20000 in
theorem gX8_parts_X8_many : GoodIn wsX8_parts (va_wsS RX8 53 yX8_many wsX8_many) := goodIn_app (goodIn_of _ (by decide +kernel)) ggX8_parts_X8_many
set_option maxRecDepth 20000 in
theorem ggX8_parts_X8_isAmong : GoodIn wsX8_parts wsX8_isAmong := goodIn_r _ [41] (by decide +kernel) (by decide +kernel)
set_option maxRecDepth 20000 in
theorem gX8_parts_X8_isAmong : GoodIn wsX8_parts (va_wsS RX8 134 yX8_isAmong wsX8_isAmong) := goodIn_app (goodIn_of _ (by decide +kernel)) ggX8_parts_X8_isAmong
set_option maxRecDepth 20000 in
theorem ggX8_parts_X8_degree : GoodIn wsX8_parts wsX8_degree := goodIn_r _ [44, 45, 46, 6, 47, 21, 22, 23, 9, 10, 11, 24, 25, 26, 36, 37, 38] (by decide +kernel) (by decide +kernel)
set_option maxRecDepth 20000 in
theorem gX8_parts_X8_degree : GoodIn wsX8_parts (va_wsS RX8 117 yX8_degree wsX8_degree) := goodIn_app (goodIn_of _ (by decide +kernel)) ggX8_parts_X8_degree
theorem dX8_parts_0 : decode cX8_parts 0 = .ok (.aload_n 0, 1) := by decide +kernel
theorem dX8_parts_1 : decode cX8_parts 1 = .ok (.iload_n 1, 1) := by decide +kernel
theorem dX8_parts_2 : decode cX8_parts 2 = .ok (.invokevirtual 100, 3) := by decide +kernel
theorem dX8_parts_5 : decode cX8_parts 5 = .ok (.ifCond .eq 19, 3) := by decide +kernel
theorem dX8_parts_8 : decode cX8_parts 8 = .ok (.iload_n 2, 1) := by decide +kernel
theorem dX8_parts_9 : decode cX8_parts 9 = .ok (.invokestatic 131, 3) := by decide +kernel
theorem dX8_parts_12 : decode cX8_parts 12 = .ok (.ifCond .eq 12, 3) := by decide +kernel
theorem dX8_parts_15 : decode cX8_parts 15 = .ok (.iload_n 3, 1) := by decide +kernel
theorem dX8_parts_16 : decode cX8_parts 16 = .ok (.iconst 0, 1) := by decide +kernel
theorem dX8_parts_17 : decode cX8_parts 17 = .ok (.iconst 2, 1) := by decide +kernel
theorem dX8_parts_18 : decode cX8_parts 18 = .ok (.invokestatic 37, 3) := by decide +kernel
theorem dX8_parts_21 : decode cX8_parts 21 = .ok (.ifCond .ne 5, 3) := by decide +kernel
theorem dX8_parts_24 : decode cX8_parts 24 = .ok (.iconst (-1), 1) := by decide +kernel
theorem dX8_parts_25 : decode cX8_parts 25 = .ok (.ireturn, 1) := by decide +kernel
theorem dX8_parts_26 : decode cX8_parts 26 = .ok (.aload_n 0, 1) := by decide +kernel
theorem dX8_parts_27 : decode cX8_parts 27 = .ok (.getfield 7, 3) := by decide +kernel
theorem dX8_parts_30 : decode cX8_parts 30 = .ok (.iload_n 1, 1) := by decide +kernel
theorem dX8_parts_31 : decode cX8_parts 31 = .ok (.iaload, 1) := by decide +kernel
theorem dX8_parts_32 : decode cX8_parts 32 = .ok (.istore 4, 2) := by decide +kernel
theorem dX8_parts_34 : decode cX8_parts 34 = .ok (.iload 4, 2) := by decide +kernel
theorem dX8_parts_36 : decode cX8_parts 36 = .ok (.istore 5, 2) := by decide +kernel
theorem dX8_parts_38 : decode cX8_parts 38 = .ok (.iload 5, 2) := by decide +kernel
theorem dX8_parts_40 : decode cX8_parts 40 = .ok (.iload_n 2, 1) := by decide +kernel
theorem dX8_parts_41 : decode cX8_parts 41 = .ok (.irem, 1) := by decide +kernel
theorem dX8_parts_42 : decode cX8_parts 42 = .ok (.ifCond .ne 12, 3) := by decide +kernel
theorem dX8_parts_45 : decode cX8_parts 45 = .ok (.iload 5, 2) := by decide +kernel
theorem dX8_parts_47 : decode cX8_parts 47 = .ok (.iload_n 2, 1) := by decide +kernel
theorem dX8_parts_48 : decode cX8_parts 48 = .ok (.idiv, 1) := by decide +kernel
theorem dX8_parts_49 : decode cX8_parts 49 = .ok (.istore 5, 2) := by decide +kernel
theorem dX8_parts_51 : decode cX8_parts 51 = .ok (.goto (-13), 3) := by decide +kernel
theorem dX8_parts_54 : decode cX8_parts 54 = .ok (.iload 4, 2) := by decide +kernel
theorem dX8_parts_56 : decode cX8_parts 56 = .ok (.aload_n 0, 1) := by decide +kernel
theorem dX8_parts_57 : decode cX8_parts 57 = .ok (.getfield 13, 3) := by decide +kernel
theorem dX8_parts_60 : decode cX8_parts 60 = .ok (.iload_n 1, 1) := by decide +kernel
theorem dX8_parts_61 : decode cX8_parts 61 = .ok (.laload, 1) := by decide +kernel
theorem dX8_parts_62 : decode cX8_parts 62 = .ok (.iload 4, 2) := by decide +kernel
theorem dX8_parts_64 : decode cX8_parts 64 = .ok (.iload 5, 2) := by decide +kernel
theorem dX8_parts_66 : decode cX8_parts 66 = .ok (.invokestatic 77, 3) := by decide +kernel
theorem dX8_parts_69 : decode cX8_parts 69 = .ok (.invokestatic 93, 3) := by decide +kernel
theorem dX8_parts_72 : decode cX8_parts 72 = .ok (.lstore 6, 2) := by decide +kernel
theorem dX8_parts_74 : decode cX8_parts 74 = .ok (.lload 6, 2) := by decide +kernel
theorem dX8_parts_76 : decode cX8_parts 76 = .ok (.invokestatic 53, 3) := by decide +kernel
theorem dX8_parts_79 : decode cX8_parts 79 = .ok (.aload_n 0, 1) := by decide +kernel
theorem dX8_parts_80 : decode cX8_parts 80 = .ok (.getfield 13, 3) := by decide +kernel
theorem dX8_parts_83 : decode cX8_parts 83 = .ok (.iload_n 1, 1) := by decide +kernel
theorem dX8_parts_84 : decode cX8_parts 84 = .ok (.laload, 1) := by decide +kernel
theorem dX8_parts_85 : decode cX8_parts 85 = .ok (.invokestatic 53, 3) := by decide +kernel
theorem dX8_parts_88 : decode cX8_parts 88 = .ok (.idiv, 1) := by decide +kernel
theorem dX8_parts_89 : decode cX8_parts 89 = .ok (.istore 8, 2) := by decide +kernel
theorem dX8_parts_91 : decode cX8_parts 91 = .ok (.iconst 1, 1) := by decide +kernel
theorem dX8_parts_92 : decode cX8_parts 92 = .ok (.istore 9, 2) := by decide +kernel
theorem dX8_parts_94 : decode cX8_parts 94 = .ok (.iload_n 2, 1) := by decide +kernel
theorem dX8_parts_95 : decode cX8_parts 95 = .ok (.iload 5, 2) := by decide +kernel
theorem dX8_parts_97 : decode cX8_parts 97 = .ok (.irem, 1) := by decide +kernel
theorem dX8_parts_98 : decode cX8_parts 98 = .ok (.istore 10, 2) := by decide +kernel
theorem dX8_parts_100 : decode cX8_parts 100 = .ok (.iload 4, 2) := by decide +kernel
theorem dX8_parts_102 : decode cX8_parts 102 = .ok (.iload 5, 2) := by decide +kernel
theorem dX8_parts_104 : decode cX8_parts 104 = .ok (.iload 10, 2) := by decide +kernel
theorem dX8_parts_106 : decode cX8_parts 106 = .ok (.lload 6, 2) := by decide +kernel
theorem dX8_parts_108 : decode cX8_parts 108 = .ok (.invokestatic 134, 3) := by decide +kernel
theorem dX8_parts_111 : decode cX8_parts 111 = .ok (.ifCond .ne 21, 3) := by decide +kernel
theorem dX8_parts_114 : decode cX8_parts 114 = .ok (.iload 10, 2) := by decide +kernel
theorem dX8_parts_116 : decode cX8_parts 116 = .ok (.iload_n 2, 1) := by decide +kernel
theorem dX8_parts_117 : decode cX8_parts 117 = .ok (.iload 5, 2) := by decide +kernel
theorem dX8_parts_119 : decode cX8_parts 119 = .ok (.irem, 1) := by decide +kernel
theorem dX8_parts_120 : decode cX8_parts 120 = .ok (.imul, 1) := by decide +kernel
theorem dX8_parts_121 : decode cX8_parts 121 = .ok (.iload 5, 2) := by decide +kernel
theorem dX8_parts_123 : decode cX8_parts 123 = .ok (.irem, 1) := by decide +kernel
theorem dX8_parts_124 : decode cX8_parts 124 = .ok (.istore 10, 2) := by decide +kernel
theorem dX8_parts_126 : decode cX8_parts 126 = .ok (.iinc 9 1, 3) := by decide +kernel
theorem dX8_parts_129 : decode cX8_parts 129 = .ok (.goto (-29), 3) := by decide +kernel
theorem dX8_parts_132 : decode cX8_parts 132 = .ok (.iload_n 3, 1) := by decide +kernel
theorem dX8_parts_133 : decode cX8_parts 133 = .ok (.ifCond .ne 8, 3) := by decide +kernel
theorem dX8_parts_136 : decode cX8_parts 136 = .ok (.iload 8, 2) := by decide +kernel
theorem dX8_parts_138 : decode cX8_parts 138 = .ok (.goto 30, 3) := by decide +kernel
theorem dX8_parts_141 : decode cX8_parts 141 = .ok (.iload_n 3, 1) := by decide +kernel
theorem dX8_parts_142 : decode cX8_parts 142 = .ok (.iconst 1, 1) := by decide +kernel
theorem dX8_parts_143 : decode cX8_parts 143 = .ok (.if_icmp .ne 8, 3) := by decide +kernel
theorem dX8_parts_146 : decode cX8_parts 146 = .ok (.iload 9, 2) := by decide +kernel
theorem dX8_parts_148 : decode cX8_parts 148 = .ok (.goto 20, 3) := by decide +kernel
theorem dX8_parts_151 : decode cX8_parts 151 = .ok (.iload 4, 2) := by decide +kernel
theorem dX8_parts_153 : decode cX8_parts 153 = .ok (.aload_n 0, 1) := by decide +kernel
theorem dX8_parts_154 : decode cX8_parts 154 = .ok (.getfield 13, 3) := by decide +kernel
theorem dX8_parts_157 : decode cX8_parts 157 = .ok (.iload_n 1, 1) := by decide +kernel
theorem dX8_parts_158 : decode cX8_parts 158 = .ok (.laload, 1) := by decide +kernel
theorem dX8_parts_159 : decode cX8_parts 159 = .ok (.invokestatic 117, 3) := by decide +kernel
theorem dX8_parts_162 : decode cX8_parts 162 = .ok (.iload 8, 2) := by decide +kernel
theorem dX8_parts_164 : decode cX8_parts 164 = .ok (.iload 9, 2) := by decide +kernel
theorem dX8_parts_166 : decode cX8_parts 166 = .ok (.imul, 1) := by decide +kernel
theorem dX8_parts_167 : decode cX8_parts 167 = .ok (.idiv, 1) := by decide +kernel
theorem dX8_parts_168 : decode cX8_parts 168 = .ok (.ireturn, 1) := by decide +kernel
theorem dX8_isAmong_0 : decode cX8_isAmong 0 = .ok (.iconst 0, 1) := by decide +kernel
theorem dX8_isAmong_1 : decode cX8_isAmong 1 = .ok (.istore 5, 2) := by decide +kernel
theorem dX8_isAmong_3 : decode cX8_isAmong 3 = .ok (.iconst 0, 1) := by decide +kernel
theorem dX8_isAmong_4 : decode cX8_isAmong 4 = .ok (.istore 6, 2) := by decide +kernel
theorem dX8_isAmong_6 : decode cX8_isAmong 6 = .ok (.iload 6, 2) := by decide +kernel
theorem dX8_isAmong_8 : decode cX8_isAmong 8 = .ok (.iload_n 0, 1) := by decide +kernel
theorem dX8_isAmong_9 : decode cX8_isAmong 9 = .ok (.if_icmp .ge 40, 3) := by decide +kernel
theorem dX8_isAmong_12 : decode cX8_isAmong 12 = .ok (.iload 5, 2) := by decide +kernel
theorem dX8_isAmong_14 : decode cX8_isAmong 14 = .ok (.ifCond .ne 22, 3) := by decide +kernel
theorem dX8_isAmong_17 : decode cX8_isAmong 17 = .ok (.lload_n 3, 1) := by decide +kernel
theorem dX8_isAmong_18 : decode cX8_isAmong 18 = .ok (.iload 6, 2) := by decide +kernel
theorem dX8_isAmong_20 : decode cX8_isAmong 20 = .ok (.lshr, 1) := by decide +kernel
theorem dX8_isAmong_21 : decode cX8_isAmong 21 = .ok (.lconst 1, 1) := by decide +kernel
theorem dX8_isAmong_22 : decode cX8_isAmong 22 = .ok (.land, 1) := by decide +kernel
theorem dX8_isAmong_23 : decode cX8_isAmong 23 = .ok (.lconst 1, 1) := by decide +kernel
theorem dX8_isAmong_24 : decode cX8_isAmong 24 = .ok (.lcmp, 1) := by decide +kernel
theorem dX8_isAmong_25 : decode cX8_isAmong 25 = .ok (.ifCond .ne 15, 3) := by decide +kernel
theorem dX8_isAmong_28 : decode cX8_isAmong 28 = .ok (.iload 6, 2) := by decide +kernel
theorem dX8_isAmong_30 : decode cX8_isAmong 30 = .ok (.iload_n 1, 1) := by decide +kernel
theorem dX8_isAmong_31 : decode cX8_isAmong 31 = .ok (.irem, 1) := by decide +kernel
theorem dX8_isAmong_32 : decode cX8_isAmong 32 = .ok (.iload_n 2, 1) := by decide +kernel
theorem dX8_isAmong_33 : decode cX8_isAmong 33 = .ok (.if_icmp .ne 7, 3) := by decide +kernel
theorem dX8_isAmong_36 : decode cX8_isAmong 36 = .ok (.iconst 1, 1) := by decide +kernel
theorem dX8_isAmong_37 : decode cX8_isAmong 37 = .ok (.goto 4, 3) := by decide +kernel
theorem dX8_isAmong_40 : decode cX8_isAmong 40 = .ok (.iconst 0, 1) := by decide +kernel
theorem dX8_isAmong_41 : decode cX8_isAmong 41 = .ok (.istore 5, 2) := by decide +kernel
theorem dX8_isAmong_43 : decode cX8_isAmong 43 = .ok (.iinc 6 1, 3) := by decide +kernel
theorem dX8_isAmong_46 : decode cX8_isAmong 46 = .ok (.goto (-40), 3) := by decide +kernel
theorem dX8_isAmong_49 : decode cX8_isAmong 49 = .ok (.iload 5, 2) := by decide +kernel
theorem dX8_isAmong_51 : decode cX8_isAmong 51 = .ok (.ireturn, 1) := by decide +kernel
set_option maxRecDepth 20000 in
theorem ggX8_prime0_X8_divisor : GoodIn wsX8_prime0 wsX8_divisor := goodIn_r _ [4] (by decide +kernel) (by decide +kernel)
set_option maxRecDepth 20000 in
theorem gX8_prime0_X8_divisor : GoodIn wsX8_prime0 (va_wsS RX8 33 yX8_divisor wsX8_divisor) := goodIn_app (goodIn_of _ (by decide +kernel)) ggX8_prime0_X8_divisor
theorem dX8_prime0_0 : decode cX8_prime0 0 = .ok (.iconst 0, 1) := by decide +kernel
theorem dX8_prime0_1 : decode cX8_prime0 1 = .ok (.istore_n 1, 1) := by decide +kernel
theorem dX8_prime0_2 : decode cX8_prime0 2 = .ok (.iconst 1, 1) := by decide +kernel
theorem dX8_prime0_3 : decode cX8_prime0 3 = .ok (.istore_n 2, 1) := by decide +kernel
theorem dX8_prime0_4 : decode cX8_prime0 4 = .ok (.iload_n 2, 1) := by decide +kernel
theorem dX8_prime0_5 : decode cX8_prime0 5 = .ok (.iload_n 0, 1) := by decide +kernel
theorem dX8_prime0_6 : decode cX8_prime0 6 = .ok (.if_icmp .gt 26, 3) := by decide +kernel
theorem dX8_prime0_9 : decode cX8_prime0 9 = .ok (.iload_n 1, 1) := by decide +kernel
theorem dX8_prime0_10 : decode cX8_prime0 10 = .ok (.iload_n 2, 1) := by decide +kernel
theorem dX8_prime0_11 : decode cX8_prime0 11 = .ok (.iload_n 0, 1) := by decide +kernel
theorem dX8_prime0_12 : decode cX8_prime0 12 = .ok (.invokestatic 33, 3) := by decide +kernel
theorem dX8_prime0_15 : decode cX8_prime0 15 = .ok (.iconst 1, 1) := by decide +kernel
theorem dX8_prime0_16 : decode cX8_prime0 16 = .ok (.if_icmp .ne 7, 3) := by decide +kernel
theorem dX8_prime0_19 : decode cX8_prime0 19 = .ok (.iconst 1, 1) := by decide +kernel
theorem dX8_prime0_20 : decode cX8_prime0 20 = .ok (.goto 4, 3) := by decide +kernel
theorem dX8_prime0_23 : decode cX8_prime0 23 = .ok (.iconst 0, 1) := by decide +kernel
theorem dX8_prime0_24 : decode cX8_prime0 24 = .ok (.iadd, 1) := by decide +kernel
theorem dX8_prime0_25 : decode cX8_prime0 25 = .ok (.istore_n 1, 1) := by decide +kernel
theorem dX8_prime0_26 : decode cX8_prime0 26 = .ok (.iinc 2 1, 3) := by decide +kernel
theorem dX8_prime0_29 : decode cX8_prime0 29 = .ok (.goto (-25), 3) := by decide +kernel
theorem dX8_prime0_32 : decode cX8_prime0 32 = .ok (.iload_n 1, 1) := by decide +kernel
theorem dX8_prime0_33 : decode cX8_prime0 33 = .ok (.ireturn, 1) := by decide +kernel
set_option maxRecDepth 20000 in
theorem ggX8_discriminant_X8_isField : GoodIn wsX8_discriminant wsX8_isField := goodIn_r _ [9, 10, 11, 12, 8, 13, 61, 62, 63, 64, 65, 66, 67, 68, 69, 70] (by decide +kernel) (by decide +kernel)
set_option maxRecDepth 20000 in
theorem gX8_discriminant_X8_isField : GoodIn wsX8_discriminant (wsV RX8 100 RX8 yX8_isField wsX8_isField) := goodIn_app (goodIn_of _ (by decide +kernel)) ggX8_discriminant_X8_isField
set_option maxRecDepth 20000 in
theorem ggX8_discriminant_X8_isAsked : GoodIn wsX8_discriminant wsX8_isAsked := goodIn_r _ [16, 11, 12, 8, 13, 17, 18, 19] (by decide +kernel) (by decide +kernel)
set_option maxRecDepth 20000 in
theorem gX8_discriminant_X8_isAsked : GoodIn wsX8_discriminant (va_wsS RX8 131 yX8_isAsked wsX8_isAsked) := goodIn_app (goodIn_of _ (by decide +kernel)) ggX8_discriminant_X8_isAsked
set_option maxRecDepth 20000 in
theorem ggX8_discriminant_X8_between : GoodIn wsX8_discriminant wsX8_between := goodIn_r _ [23, 4, 3, 24, 25, 8, 26, 11, 12, 13, 27, 28, 29, 30, 31, 32, 33, 34, 35, 36, 37, 38, 39, 61, 62, 63, 64, 65, 66, 67, 68, 69, 70] (by decide +kernel) (by decide +kernel)
set_option maxRecDepth 20000 in
theorem gX8_discriminant_X8_between : GoodIn wsX8_discriminant (wsV RX8 127 RX8 yX8_between wsX8_between) := goodIn_app (goodIn_of _ (by decide +kernel)) ggX8_discriminant_X8_between
set_option maxRecDepth 20000 in
theorem ggX8_discriminant_X8_isCyclic : GoodIn wsX8_discriminant wsX8_isCyclic := goodIn_r _ [42, 24, 25, 8, 26, 11, 12, 13, 27, 28, 29, 30, 31, 32, 33, 34, 35, 43, 44, 45] (by decide +kernel) (by decide +kernel)
set_option maxRecDepth 20000 in
theorem gX8_discriminant_X8_isCyclic : GoodIn wsX8_discriminant (va_wsS RX8 124 yX8_isCyclic wsX8_isCyclic) := goodIn_app (goodIn_of _ (by decide +kernel)) ggX8_discriminant_X8_isCyclic
set_option maxRecDepth 20000 in
theorem ggX8_discriminant_X8_degree : GoodIn wsX8_discriminant wsX8_degree := goodIn_r _ [48, 43, 44, 8, 45, 24, 25, 26, 11, 12, 13, 27, 28, 29, 49, 50, 51] (by decide +kernel) (by decide +kernel)
set_option maxRecDepth 20000 in
theorem gX8_discriminant_X8_degree : GoodIn wsX8_discriminant (va_wsS RX8 117 yX8_degree wsX8_degree) := goodIn_app (goodIn_of _ (by decide +kernel)) ggX8_discriminant_X8_degree
set_option maxRecDepth 20000 in
theorem ggX8_discriminant_X8_prime0 : GoodIn wsX8_discriminant wsX8_prime0 := goodIn_r _ [54, 27, 28, 8, 29] (by decide +kernel) (by decide +kernel)
set_option maxRecDepth 20000 in
theorem gX8_discriminant_X8_prime0 : GoodIn wsX8_discriminant (va_wsS RX8 138 yX8_prime0 wsX8_prime0) := goodIn_app (goodIn_of _ (by decide +kernel)) ggX8_discriminant_X8_prime0
set_option maxRecDepth 20000 in
theorem ggX8_discriminant_X8_barOf : GoodIn wsX8_discriminant wsX8_barOf := goodIn_r _ [57, 58, 59, 8, 60, 24, 25, 26, 11, 12, 13, 27, 28, 29] (by decide +kernel) (by decide +kernel)
set_option maxRecDepth 20000 in
theorem gX8_discriminant_X8_barOf : GoodIn wsX8_discriminant (va_wsS RX8 81 yX8_barOf wsX8_barOf) := goodIn_app (goodIn_of _ (by decide +kernel)) ggX8_discriminant_X8_barOf
theorem dX8_discriminant_0 : decode cX8_discriminant 0 = .ok (.aload_n 0, 1) := by decide +kernel
theorem dX8_discriminant_1 : decode cX8_discriminant 1 = .ok (.iload_n 1, 1) := by decide +kernel
theorem dX8_discriminant_2 : decode cX8_discriminant 2 = .ok (.invokevirtual 100, 3) := by decide +kernel
theorem dX8_discriminant_5 : decode cX8_discriminant 5 = .ok (.ifCond .eq 10, 3) := by decide +kernel
theorem dX8_discriminant_8 : decode cX8_discriminant 8 = .ok (.iload_n 2, 1) := by decide +kernel
theorem dX8_discriminant_9 : decode cX8_discriminant 9 = .ok (.invokestatic 131, 3) := by decide +kernel
theorem dX8_discriminant_12 : decode cX8_discriminant 12 = .ok (.ifCond .ne 5, 3) := by decide +kernel
theorem dX8_discriminant_15 : decode cX8_discriminant 15 = .ok (.iconst (-1), 1) := by decide +kernel
theorem dX8_discriminant_16 : decode cX8_discriminant 16 = .ok (.ireturn, 1) := by decide +kernel
theorem dX8_discriminant_17 : decode cX8_discriminant 17 = .ok (.aload_n 0, 1) := by decide +kernel
theorem dX8_discriminant_18 : decode cX8_discriminant 18 = .ok (.getfield 7, 3) := by decide +kernel
theorem dX8_discriminant_21 : decode cX8_discriminant 21 = .ok (.iload_n 1, 1) := by decide +kernel
theorem dX8_discriminant_22 : decode cX8_discriminant 22 = .ok (.iaload, 1) := by decide +kernel
theorem dX8_discriminant_23 : decode cX8_discriminant 23 = .ok (.istore_n 3, 1) := by decide +kernel
theorem dX8_discriminant_24 : decode cX8_discriminant 24 = .ok (.aload_n 0, 1) := by decide +kernel
theorem dX8_discriminant_25 : decode cX8_discriminant 25 = .ok (.iload_n 3, 1) := by decide +kernel
theorem dX8_discriminant_26 : decode cX8_discriminant 26 = .ok (.aload_n 0, 1) := by decide +kernel
theorem dX8_discriminant_27 : decode cX8_discriminant 27 = .ok (.getfield 13, 3) := by decide +kernel
theorem dX8_discriminant_30 : decode cX8_discriminant 30 = .ok (.iload_n 1, 1) := by decide +kernel
theorem dX8_discriminant_31 : decode cX8_discriminant 31 = .ok (.laload, 1) := by decide +kernel
theorem dX8_discriminant_32 : decode cX8_discriminant 32 = .ok (.invokevirtual 127, 3) := by decide +kernel
theorem dX8_discriminant_35 : decode cX8_discriminant 35 = .ok (.iconst 0, 1) := by decide +kernel
theorem dX8_discriminant_36 : decode cX8_discriminant 36 = .ok (.istore 4, 2) := by decide +kernel
theorem dX8_discriminant_38 : decode cX8_discriminant 38 = .ok (.iconst 0, 1) := by decide +kernel
theorem dX8_discriminant_39 : decode cX8_discriminant 39 = .ok (.istore 5, 2) := by decide +kernel
theorem dX8_discriminant_41 : decode cX8_discriminant 41 = .ok (.iload 5, 2) := by decide +kernel
theorem dX8_discriminant_43 : decode cX8_discriminant 43 = .ok (.aload_n 0, 1) := by decide +kernel
theorem dX8_discriminant_44 : decode cX8_discriminant 44 = .ok (.getfield 109, 3) := by decide +kernel
theorem dX8_discriminant_47 : decode cX8_discriminant 47 = .ok (.if_icmp .ge 78, 3) := by decide +kernel
theorem dX8_discriminant_50 : decode cX8_discriminant 50 = .ok (.iload_n 3, 1) := by decide +kernel
theorem dX8_discriminant_51 : decode cX8_discriminant 51 = .ok (.aload_n 0, 1) := by decide +kernel
theorem dX8_discriminant_52 : decode cX8_discriminant 52 = .ok (.getfield 24, 3) := by decide +kernel
theorem dX8_discriminant_55 : decode cX8_discriminant 55 = .ok (.iload 5, 2) := by decide +kernel
theorem dX8_discriminant_57 : decode cX8_discriminant 57 = .ok (.laload, 1) := by decide +kernel
theorem dX8_discriminant_58 : decode cX8_discriminant 58 = .ok (.invokestatic 124, 3) := by decide +kernel
theorem dX8_discriminant_61 : decode cX8_discriminant 61 = .ok (.ifCond .ne 6, 3) := by decide +kernel
theorem dX8_discriminant_64 : decode cX8_discriminant 64 = .ok (.goto 55, 3) := by decide +kernel
theorem dX8_discriminant_67 : decode cX8_discriminant 67 = .ok (.iload_n 3, 1) := by decide +kernel
theorem dX8_discriminant_68 : decode cX8_discriminant 68 = .ok (.aload_n 0, 1) := by decide +kernel
theorem dX8_discriminant_69 : decode cX8_discriminant 69 = .ok (.getfield 24, 3) := by decide +kernel
theorem dX8_discriminant_72 : decode cX8_discriminant 72 = .ok (.iload 5, 2) := by decide +kernel
theorem dX8_discriminant_74 : decode cX8_discriminant 74 = .ok (.laload, 1) := by decide +kernel
theorem dX8_discriminant_75 : decode cX8_discriminant 75 = .ok (.invokestatic 117, 3) := by decide +kernel
theorem dX8_discriminant_78 : decode cX8_discriminant 78 = .ok (.invokestatic 138, 3) := by decide +kernel
theorem dX8_discriminant_81 : decode cX8_discriminant 81 = .ok (.istore 6, 2) := by decide +kernel
theorem dX8_discriminant_83 : decode cX8_discriminant 83 = .ok (.iload_n 3, 1) := by decide +kernel
theorem dX8_discriminant_84 : decode cX8_discriminant 84 = .ok (.aload_n 0, 1) := by decide +kernel
theorem dX8_discriminant_85 : decode cX8_discriminant 85 = .ok (.getfield 24, 3) := by decide +kernel
theorem dX8_discriminant_88 : decode cX8_discriminant 88 = .ok (.iload 5, 2) := by decide +kernel
theorem dX8_discriminant_90 : decode cX8_discriminant 90 = .ok (.laload, 1) := by decide +kernel
theorem dX8_discriminant_91 : decode cX8_discriminant 91 = .ok (.invokestatic 81, 3) := by decide +kernel
theorem dX8_discriminant_94 : decode cX8_discriminant 94 = .ok (.istore 7, 2) := by decide +kernel
theorem dX8_discriminant_96 : decode cX8_discriminant 96 = .ok (.iload 7, 2) := by decide +kernel
theorem dX8_discriminant_98 : decode cX8_discriminant 98 = .ok (.iload_n 2, 1) := by decide +kernel
theorem dX8_discriminant_99 : decode cX8_discriminant 99 = .ok (.irem, 1) := by decide +kernel
theorem dX8_discriminant_100 : decode cX8_discriminant 100 = .ok (.ifCond .ne 19, 3) := by decide +kernel
theorem dX8_discriminant_103 : decode cX8_discriminant 103 = .ok (.iload 4, 2) := by decide +kernel
theorem dX8_discriminant_105 : decode cX8_discriminant 105 = .ok (.iload 6, 2) := by decide +kernel
theorem dX8_discriminant_107 : decode cX8_discriminant 107 = .ok (.iadd, 1) := by decide +kernel
theorem dX8_discriminant_108 : decode cX8_discriminant 108 = .ok (.istore 4, 2) := by decide +kernel
theorem dX8_discriminant_110 : decode cX8_discriminant 110 = .ok (.iload 7, 2) := by decide +kernel
theorem dX8_discriminant_112 : decode cX8_discriminant 112 = .ok (.iload_n 2, 1) := by decide +kernel
theorem dX8_discriminant_113 : decode cX8_discriminant 113 = .ok (.idiv, 1) := by decide +kernel
theorem dX8_discriminant_114 : decode cX8_discriminant 114 = .ok (.istore 7, 2) := by decide +kernel
theorem dX8_discriminant_116 : decode cX8_discriminant 116 = .ok (.goto (-20), 3) := by decide +kernel
theorem dX8_discriminant_119 : decode cX8_discriminant 119 = .ok (.iinc 5 1, 3) := by decide +kernel
theorem dX8_discriminant_122 : decode cX8_discriminant 122 = .ok (.goto (-81), 3) := by decide +kernel
theorem dX8_discriminant_125 : decode cX8_discriminant 125 = .ok (.iload 4, 2) := by decide +kernel
theorem dX8_discriminant_127 : decode cX8_discriminant 127 = .ok (.ireturn, 1) := by decide +kernel
set_option maxRecDepth 20000 in
theorem ggX8_passes_X8_one : GoodIn wsX8_passes wsX8_one := goodIn_r _ [9] (by decide +kernel) (by decide +kernel)
set_option maxRecDepth 20000 in
theorem gX8_passes_X8_one : GoodIn wsX8_passes (va_wsS RX8 90 yX8_one wsX8_one) := goodIn_app (goodIn_of _ (by decide +kernel)) ggX8_passes_X8_one
set_option maxRecDepth 20000 in
theorem ggX8_passes_X8_between : GoodIn wsX8_passes wsX8_between := goodIn_r _ [13, 3, 2, 14, 15, 8, 16, 17, 18, 19, 20, 21, 22, 23, 24, 25, 26, 27, 28, 29, 30, 31, 32, 48, 49, 50, 51, 52, 53, 54, 55, 56, 57] (by decide +kernel) (by decide +kernel)
set_option maxRecDepth 20000 in
theorem gX8_passes_X8_between : GoodIn wsX8_passes (wsV RX8 127 RX8 yX8_between wsX8_between) := goodIn_app (goodIn_of _ (by decide +kernel)) ggX8_passes_X8_between
set_option maxRecDepth 20000 in
theorem ggX8_passes_X8_degree : GoodIn wsX8_passes wsX8_degree := goodIn_r _ [35, 36, 37, 8, 38, 14, 15, 16, 17, 18, 19, 20, 21, 22, 39, 40, 41] (by decide +kernel) (by decide +kernel)
set_option maxRecDepth 20000 in
theorem gX8_passes_X8_degree : GoodIn wsX8_passes (va_wsS RX8 117 yX8_degree wsX8_degree) := goodIn_app (goodIn_of _ (by decide +kernel)) ggX8_passes_X8_degree
set_option maxRecDepth 20000 in
theorem ggX8_passes_X8_barOf : GoodIn wsX8_passes wsX8_barOf := goodIn_r _ [44, 45, 46, 8, 47, 14, 15, 16, 17, 18, 19, 20, 21, 22] (by decide +kernel) (by decide +kernel)
set_option maxRecDepth 20000 in
theorem gX8_passes_X8_barOf : GoodIn wsX8_passes (va_wsS RX8 81 yX8_barOf wsX8_barOf) := goodIn_app (goodIn_of _ (by decide +kernel)) ggX8_passes_X8_barOf
theorem dX8_passes_0 : decode cX8_passes 0 = .ok (.aload_n 0, 1) := by decide +kernel
theorem dX8_passes_1 : decode cX8_passes 1 = .ok (.iload_n 2, 1) := by decide +kernel
theorem dX8_passes_2 : decode cX8_passes 2 = .ok (.iload_n 2, 1) := by decide +kernel
theorem dX8_passes_3 : decode cX8_passes 3 = .ok (.invokestatic 90, 3) := by decide +kernel
theorem dX8_passes_6 : decode cX8_passes 6 = .ok (.invokevirtual 127, 3) := by decide +kernel
theorem dX8_passes_9 : decode cX8_passes 9 = .ok (.ldc2_w 88, 3) := by decide +kernel
theorem dX8_passes_12 : decode cX8_passes 12 = .ok (.lstore 4, 2) := by decide +kernel
theorem dX8_passes_14 : decode cX8_passes 14 = .ok (.iconst 1, 1) := by decide +kernel
theorem dX8_passes_15 : decode cX8_passes 15 = .ok (.istore 6, 2) := by decide +kernel
theorem dX8_passes_17 : decode cX8_passes 17 = .ok (.iload 6, 2) := by decide +kernel
theorem dX8_passes_19 : decode cX8_passes 19 = .ok (.ifCond .eq 135, 3) := by decide +kernel
theorem dX8_passes_22 : decode cX8_passes 22 = .ok (.ldc2_w 88, 3) := by decide +kernel
theorem dX8_passes_25 : decode cX8_passes 25 = .ok (.lstore 7, 2) := by decide +kernel
theorem dX8_passes_27 : decode cX8_passes 27 = .ok (.iconst 0, 1) := by decide +kernel
theorem dX8_passes_28 : decode cX8_passes 28 = .ok (.istore 9, 2) := by decide +kernel
theorem dX8_passes_30 : decode cX8_passes 30 = .ok (.iload 9, 2) := by decide +kernel
theorem dX8_passes_32 : decode cX8_passes 32 = .ok (.aload_n 0, 1) := by decide +kernel
theorem dX8_passes_33 : decode cX8_passes 33 = .ok (.getfield 109, 3) := by decide +kernel
theorem dX8_passes_36 : decode cX8_passes 36 = .ok (.if_icmp .ge 65, 3) := by decide +kernel
theorem dX8_passes_39 : decode cX8_passes 39 = .ok (.aload_n 0, 1) := by decide +kernel
theorem dX8_passes_40 : decode cX8_passes 40 = .ok (.getfield 24, 3) := by decide +kernel
theorem dX8_passes_43 : decode cX8_passes 43 = .ok (.iload 9, 2) := by decide +kernel
theorem dX8_passes_45 : decode cX8_passes 45 = .ok (.laload, 1) := by decide +kernel
theorem dX8_passes_46 : decode cX8_passes 46 = .ok (.lstore 10, 2) := by decide +kernel
theorem dX8_passes_48 : decode cX8_passes 48 = .ok (.lload 10, 2) := by decide +kernel
theorem dX8_passes_50 : decode cX8_passes 50 = .ok (.lload 4, 2) := by decide +kernel
theorem dX8_passes_52 : decode cX8_passes 52 = .ok (.lcmp, 1) := by decide +kernel
theorem dX8_passes_53 : decode cX8_passes 53 = .ok (.ifCond .le 42, 3) := by decide +kernel
theorem dX8_passes_56 : decode cX8_passes 56 = .ok (.lload 7, 2) := by decide +kernel
theorem dX8_passes_58 : decode cX8_passes 58 = .ok (.lconst 0, 1) := by decide +kernel
theorem dX8_passes_59 : decode cX8_passes 59 = .ok (.lcmp, 1) := by decide +kernel
theorem dX8_passes_60 : decode cX8_passes 60 = .ok (.ifCond .lt 11, 3) := by decide +kernel
theorem dX8_passes_63 : decode cX8_passes 63 = .ok (.lload 10, 2) := by decide +kernel
theorem dX8_passes_65 : decode cX8_passes 65 = .ok (.lload 7, 2) := by decide +kernel
theorem dX8_passes_67 : decode cX8_passes 67 = .ok (.lcmp, 1) := by decide +kernel
theorem dX8_passes_68 : decode cX8_passes 68 = .ok (.ifCond .ge 27, 3) := by decide +kernel
theorem dX8_passes_71 : decode cX8_passes 71 = .ok (.iload_n 2, 1) := by decide +kernel
theorem dX8_passes_72 : decode cX8_passes 72 = .ok (.lload 10, 2) := by decide +kernel
theorem dX8_passes_74 : decode cX8_passes 74 = .ok (.invokestatic 117, 3) := by decide +kernel
theorem dX8_passes_77 : decode cX8_passes 77 = .ok (.iload_n 1, 1) := by decide +kernel
theorem dX8_passes_78 : decode cX8_passes 78 = .ok (.if_icmp .ne 17, 3) := by decide +kernel
theorem dX8_passes_81 : decode cX8_passes 81 = .ok (.iload_n 2, 1) := by decide +kernel
theorem dX8_passes_82 : decode cX8_passes 82 = .ok (.lload 10, 2) := by decide +kernel
theorem dX8_passes_84 : decode cX8_passes 84 = .ok (.invokestatic 81, 3) := by decide +kernel
theorem dX8_passes_87 : decode cX8_passes 87 = .ok (.iload_n 2, 1) := by decide +kernel
theorem dX8_passes_88 : decode cX8_passes 88 = .ok (.if_icmp .ne 7, 3) := by decide +kernel
theorem dX8_passes_91 : decode cX8_passes 91 = .ok (.lload 10, 2) := by decide +kernel
theorem dX8_passes_93 : decode cX8_passes 93 = .ok (.lstore 7, 2) := by decide +kernel
theorem dX8_passes_95 : decode cX8_passes 95 = .ok (.iinc 9 1, 3) := by decide +kernel
theorem dX8_passes_98 : decode cX8_passes 98 = .ok (.goto (-68), 3) := by decide +kernel
theorem dX8_passes_101 : decode cX8_passes 101 = .ok (.lload 7, 2) := by decide +kernel
theorem dX8_passes_103 : decode cX8_passes 103 = .ok (.lconst 0, 1) := by decide +kernel
theorem dX8_passes_104 : decode cX8_passes 104 = .ok (.lcmp, 1) := by decide +kernel
theorem dX8_passes_105 : decode cX8_passes 105 = .ok (.ifCond .lt 7, 3) := by decide +kernel
theorem dX8_passes_108 : decode cX8_passes 108 = .ok (.iconst 1, 1) := by decide +kernel
theorem dX8_passes_109 : decode cX8_passes 109 = .ok (.goto 4, 3) := by decide +kernel
theorem dX8_passes_112 : decode cX8_passes 112 = .ok (.iconst 0, 1) := by decide +kernel
theorem dX8_passes_113 : decode cX8_passes 113 = .ok (.istore 6, 2) := by decide +kernel
theorem dX8_passes_115 : decode cX8_passes 115 = .ok (.iload 6, 2) := by decide +kernel
theorem dX8_passes_117 : decode cX8_passes 117 = .ok (.ifCond .ne 6, 3) := by decide +kernel
theorem dX8_passes_120 : decode cX8_passes 120 = .ok (.goto (-103), 3) := by decide +kernel
theorem dX8_passes_123 : decode cX8_passes 123 = .ok (.aload_n 0, 1) := by decide +kernel
theorem dX8_passes_124 : decode cX8_passes 124 = .ok (.getfield 142, 3) := by decide +kernel
theorem dX8_passes_127 : decode cX8_passes 127 = .ok (.iload_n 3, 1) := by decide +kernel
theorem dX8_passes_128 : decode cX8_passes 128 = .ok (.if_icmp .ne 9, 3) := by decide +kernel
theorem dX8_passes_131 : decode cX8_passes 131 = .ok (.aload_n 0, 1) := by decide +kernel
theorem dX8_passes_132 : decode cX8_passes 132 = .ok (.lload 7, 2) := by decide +kernel
theorem dX8_passes_134 : decode cX8_passes 134 = .ok (.putfield 145, 3) := by decide +kernel
theorem dX8_passes_137 : decode cX8_passes 137 = .ok (.aload_n 0, 1) := by decide +kernel
theorem dX8_passes_138 : decode cX8_passes 138 = .ok (.dup, 1) := by decide +kernel
theorem dX8_passes_139 : decode cX8_passes 139 = .ok (.getfield 142, 3) := by decide +kernel
theorem dX8_passes_142 : decode cX8_passes 142 = .ok (.iconst 1, 1) := by decide +kernel
theorem dX8_passes_143 : decode cX8_passes 143 = .ok (.iadd, 1) := by decide +kernel
theorem dX8_passes_144 : decode cX8_passes 144 = .ok (.putfield 142, 3) := by decide +kernel
theorem dX8_passes_147 : decode cX8_passes 147 = .ok (.lload 7, 2) := by decide +kernel
theorem dX8_passes_149 : decode cX8_passes 149 = .ok (.lstore 4, 2) := by decide +kernel
theorem dX8_passes_151 : decode cX8_passes 151 = .ok (.goto (-134), 3) := by decide +kernel
theorem dX8_passes_154 : decode cX8_passes 154 = .ok (.return_, 1) := by decide +kernel
set_option maxRecDepth 20000 in
theorem ggX8_isList_X8_isIn : GoodIn wsX8_isList wsX8_isIn := goodIn_r _ [4] (by decide +kernel) (by decide +kernel)
set_option maxRecDepth 20000 in
theorem gX8_isList_X8_isIn : GoodIn wsX8_isList (va_wsS RX8 37 yX8_isIn wsX8_isIn) := goodIn_app (goodIn_of _ (by decide +kernel)) ggX8_isList_X8_isIn
set_option maxRecDepth 20000 in
theorem ggX8_isList_X8_isM : GoodIn wsX8_isList wsX8_isM := goodIn_r _ [7, 1, 2, 3, 4] (by decide +kernel) (by decide +kernel)
set_option maxRecDepth 20000 in
theorem gX8_isList_X8_isM : GoodIn wsX8_isList (va_wsS RX8 45 yX8_isM wsX8_isM) := goodIn_app (goodIn_of _ (by decide +kernel)) ggX8_isList_X8_isM
theorem dX8_isList_0 : decode cX8_isList 0 = .ok (.iload_n 0, 1) := by decide +kernel
theorem dX8_isList_1 : decode cX8_isList 1 = .ok (.iconst 1, 1) := by decide +kernel
theorem dX8_isList_2 : decode cX8_isList 2 = .ok (.bipush 8, 2) := by decide +kernel
theorem dX8_isList_4 : decode cX8_isList 4 = .ok (.invokestatic 37, 3) := by decide +kernel
theorem dX8_isList_7 : decode cX8_isList 7 = .ok (.ifCond .eq 14, 3) := by decide +kernel
theorem dX8_isList_10 : decode cX8_isList 10 = .ok (.iload_n 1, 1) := by decide +kernel
theorem dX8_isList_11 : decode cX8_isList 11 = .ok (.invokestatic 45, 3) := by decide +kernel
theorem dX8_isList_14 : decode cX8_isList 14 = .ok (.ifCond .eq 7, 3) := by decide +kernel
theorem dX8_isList_17 : decode cX8_isList 17 = .ok (.iconst 1, 1) := by decide +kernel
theorem dX8_isList_18 : decode cX8_isList 18 = .ok (.goto 4, 3) := by decide +kernel
theorem dX8_isList_21 : decode cX8_isList 21 = .ok (.iconst 0, 1) := by decide +kernel
theorem dX8_isList_22 : decode cX8_isList 22 = .ok (.ireturn, 1) := by decide +kernel
set_option maxRecDepth 20000 in
theorem ggX8_list_X8_isList : GoodIn wsX8_list wsX8_isList := goodIn_r _ [5, 6, 7, 4, 8, 9, 10, 11] (by decide +kernel) (by decide +kernel)
set_option maxRecDepth 20000 in
theorem gX8_list_X8_isList : GoodIn wsX8_list (va_wsS RX8 149 yX8_isList wsX8_isList) := goodIn_app (goodIn_of _ (by decide +kernel)) ggX8_list_X8_isList
set_option maxRecDepth 20000 in
theorem ggX8_list_X8_passes : GoodIn wsX8_list wsX8_passes := goodIn_r _ [15, 16, 17, 18, 1, 19, 20, 21, 4, 22, 23, 24, 25, 26, 27, 28, 29, 6, 7, 8, 30, 31, 32, 33, 34, 35, 36, 37, 38, 39, 40, 41, 42, 43, 44, 45, 46, 47, 48, 49, 50, 51, 52, 53, 54, 55, 56, 57, 58, 59, 60, 61, 62, 63, 64, 65, 66, 67] (by decide +kernel) (by decide +kernel)
set_option maxRecDepth 20000 in
theorem gX8_list_X8_passes : GoodIn wsX8_list (wsV RX8 152 RX8 yX8_passes wsX8_passes) := goodIn_app (goodIn_of _ (by decide +kernel)) ggX8_list_X8_passes
theorem dX8_list_0 : decode cX8_list 0 = .ok (.iload_n 1, 1) := by decide +kernel
theorem dX8_list_1 : decode cX8_list 1 = .ok (.iload_n 2, 1) := by decide +kernel
theorem dX8_list_2 : decode cX8_list 2 = .ok (.invokestatic 149, 3) := by decide +kernel
theorem dX8_list_5 : decode cX8_list 5 = .ok (.ifCond .ne 5, 3) := by decide +kernel
theorem dX8_list_8 : decode cX8_list 8 = .ok (.iconst (-1), 1) := by decide +kernel
theorem dX8_list_9 : decode cX8_list 9 = .ok (.ireturn, 1) := by decide +kernel
theorem dX8_list_10 : decode cX8_list 10 = .ok (.aload_n 0, 1) := by decide +kernel
theorem dX8_list_11 : decode cX8_list 11 = .ok (.iconst 0, 1) := by decide +kernel
theorem dX8_list_12 : decode cX8_list 12 = .ok (.putfield 142, 3) := by decide +kernel
theorem dX8_list_15 : decode cX8_list 15 = .ok (.iconst 1, 1) := by decide +kernel
theorem dX8_list_16 : decode cX8_list 16 = .ok (.istore_n 3, 1) := by decide +kernel
theorem dX8_list_17 : decode cX8_list 17 = .ok (.iload_n 3, 1) := by decide +kernel
theorem dX8_list_18 : decode cX8_list 18 = .ok (.iload_n 2, 1) := by decide +kernel
theorem dX8_list_19 : decode cX8_list 19 = .ok (.if_icmp .gt 16, 3) := by decide +kernel
theorem dX8_list_22 : decode cX8_list 22 = .ok (.aload_n 0, 1) := by decide +kernel
theorem dX8_list_23 : decode cX8_list 23 = .ok (.iload_n 1, 1) := by decide +kernel
theorem dX8_list_24 : decode cX8_list 24 = .ok (.iload_n 3, 1) := by decide +kernel
theorem dX8_list_25 : decode cX8_list 25 = .ok (.iconst (-1), 1) := by decide +kernel
theorem dX8_list_26 : decode cX8_list 26 = .ok (.invokevirtual 152, 3) := by decide +kernel
theorem dX8_list_29 : decode cX8_list 29 = .ok (.iinc 3 1, 3) := by decide +kernel
theorem dX8_list_32 : decode cX8_list 32 = .ok (.goto (-15), 3) := by decide +kernel
theorem dX8_list_35 : decode cX8_list 35 = .ok (.aload_n 0, 1) := by decide +kernel
theorem dX8_list_36 : decode cX8_list 36 = .ok (.getfield 142, 3) := by decide +kernel
theorem dX8_list_39 : decode cX8_list 39 = .ok (.ireturn, 1) := by decide +kernel
set_option maxRecDepth 20000 in
theorem ggX8_listed_X8_isList : GoodIn wsX8_listed wsX8_isList := goodIn_r _ [6, 7, 8, 5, 9, 10, 11, 12] (by decide +kernel) (by decide +kernel)
set_option maxRecDepth 20000 in
theorem gX8_listed_X8_isList : GoodIn wsX8_listed (va_wsS RX8 149 yX8_isList wsX8_isList) := goodIn_app (goodIn_of _ (by decide +kernel)) ggX8_listed_X8_isList
set_option maxRecDepth 20000 in
theorem ggX8_listed_X8_passes : GoodIn wsX8_listed wsX8_passes := goodIn_r _ [16, 17, 18, 19, 1, 2, 20, 21, 5, 22, 23, 24, 25, 26, 27, 28, 29, 7, 8, 9, 30, 31, 32, 33, 34, 35, 36, 37, 38, 39, 40, 41, 42, 43, 44, 45, 46, 47, 48, 49, 50, 51, 52, 53, 54, 55, 56, 57, 68, 69, 70, 71, 72, 73, 74, 75, 76, 77] (by decide +kernel) (by decide +kernel)
set_option maxRecDepth 20000 in
theorem gX8_listed_X8_passes : GoodIn wsX8_listed (wsV RX8 152 RX8 yX8_passes wsX8_passes) := goodIn_app (goodIn_of _ (by decide +kernel)) ggX8_listed_X8_passes
set_option maxRecDepth 20000 in
theorem ggX8_listed_X8_keeps : GoodIn wsX8_listed wsX8_keeps := goodIn_r _ [61, 62, 63, 64, 52, 53, 5, 54, 55, 56, 57, 27, 28, 29, 7, 8, 9, 30, 31, 32, 65, 66, 67, 68, 69, 70, 71, 72, 73, 74, 75, 76, 77] (by decide +kernel) (by decide +kernel)
set_option maxRecDepth 20000 in
theorem gX8_listed_X8_keeps : GoodIn wsX8_listed (wsV RX8 97 RX8 yX8_keeps wsX8_keeps) := goodIn_app (goodIn_of _ (by decide +kernel)) ggX8_listed_X8_keeps
theorem dX8_listed_0 : decode cX8_listed 0 = .ok (.iload_n 1, 1) := by decide +kernel
theorem dX8_listed_1 : decode cX8_listed 1 = .ok (.iload_n 2, 1) := by decide +kernel
theorem dX8_listed_2 : decode cX8_listed 2 = .ok (.invokestatic 149, 3) := by decide +kernel
theorem dX8_listed_5 : decode cX8_listed 5 = .ok (.ifCond .eq 7, 3) := by decide +kernel
theorem dX8_listed_8 : decode cX8_listed 8 = .ok (.iload_n 3, 1) := by decide +kernel
theorem dX8_listed_9 : decode cX8_listed 9 = .ok (.ifCond .ge 5, 3) := by decide +kernel
theorem dX8_listed_12 : decode cX8_listed 12 = .ok (.iconst (-1), 1) := by decide +kernel
theorem dX8_listed_13 : decode cX8_listed 13 = .ok (.ireturn, 1) := by decide +kernel
theorem dX8_listed_14 : decode cX8_listed 14 = .ok (.aload_n 0, 1) := by decide +kernel
theorem dX8_listed_15 : decode cX8_listed 15 = .ok (.iconst 0, 1) := by decide +kernel
theorem dX8_listed_16 : decode cX8_listed 16 = .ok (.putfield 142, 3) := by decide +kernel
theorem dX8_listed_19 : decode cX8_listed 19 = .ok (.iconst 1, 1) := by decide +kernel
theorem dX8_listed_20 : decode cX8_listed 20 = .ok (.istore 4, 2) := by decide +kernel
theorem dX8_listed_22 : decode cX8_listed 22 = .ok (.iload 4, 2) := by decide +kernel
theorem dX8_listed_24 : decode cX8_listed 24 = .ok (.iload_n 2, 1) := by decide +kernel
theorem dX8_listed_25 : decode cX8_listed 25 = .ok (.if_icmp .gt 36, 3) := by decide +kernel
theorem dX8_listed_28 : decode cX8_listed 28 = .ok (.aload_n 0, 1) := by decide +kernel
theorem dX8_listed_29 : decode cX8_listed 29 = .ok (.iload_n 1, 1) := by decide +kernel
theorem dX8_listed_30 : decode cX8_listed 30 = .ok (.iload 4, 2) := by decide +kernel
theorem dX8_listed_32 : decode cX8_listed 32 = .ok (.iload_n 3, 1) := by decide +kernel
theorem dX8_listed_33 : decode cX8_listed 33 = .ok (.invokevirtual 152, 3) := by decide +kernel
theorem dX8_listed_36 : decode cX8_listed 36 = .ok (.aload_n 0, 1) := by decide +kernel
theorem dX8_listed_37 : decode cX8_listed 37 = .ok (.getfield 142, 3) := by decide +kernel
theorem dX8_listed_40 : decode cX8_listed 40 = .ok (.iload_n 3, 1) := by decide +kernel
theorem dX8_listed_41 : decode cX8_listed 41 = .ok (.if_icmp .le 14, 3) := by decide +kernel
theorem dX8_listed_44 : decode cX8_listed 44 = .ok (.aload_n 0, 1) := by decide +kernel
theorem dX8_listed_45 : decode cX8_listed 45 = .ok (.iload 4, 2) := by decide +kernel
theorem dX8_listed_47 : decode cX8_listed 47 = .ok (.aload_n 0, 1) := by decide +kernel
theorem dX8_listed_48 : decode cX8_listed 48 = .ok (.getfield 145, 3) := by decide +kernel
theorem dX8_listed_51 : decode cX8_listed 51 = .ok (.invokevirtual 97, 3) := by decide +kernel
theorem dX8_listed_54 : decode cX8_listed 54 = .ok (.ireturn, 1) := by decide +kernel
