theorem dX8_down_17 : decode cX8_down 17 = .ok (.land, 1) := by decide +kernel
theorem dX8_down_18 : decode cX8_down 18 = .ok (.lconst 1, 1) := by decide +kernel
theorem dX8_down_19 : decode cX8_down 19 = .ok (.lcmp, 1) := by decide +kernel
theorem dX8_down_20 : decode cX8_down 20 = .ok (.ifCond .ne 14, 3) := by decide +kernel
theorem dX8_down_23 : decode cX8_down 23 = .ok (.lload 4, 2) := by decide +kernel
theorem dX8_down_25 : decode cX8_down 25 = .ok (.lconst 1, 1) := by decide +kernel
theorem dX8_down_26 : decode cX8_down 26 = .ok (.iload 6, 2) := by decide +kernel
theorem dX8_down_28 : decode cX8_down 28 = .ok (.iload_n 3, 1) := by decide +kernel
theorem dX8_down_29 : decode cX8_down 29 = .ok (.irem, 1) := by decide +kernel
theorem dX8_down_30 : decode cX8_down 30 = .ok (.lshl, 1) := by decide +kernel
theorem dX8_down_31 : decode cX8_down 31 = .ok (.lor, 1) := by decide +kernel
theorem dX8_down_32 : decode cX8_down 32 = .ok (.lstore 4, 2) := by decide +kernel
theorem dX8_down_34 : decode cX8_down 34 = .ok (.iinc 6 1, 3) := by decide +kernel
theorem dX8_down_37 : decode cX8_down 37 = .ok (.goto (-31), 3) := by decide +kernel
theorem dX8_down_40 : decode cX8_down 40 = .ok (.lload 4, 2) := by decide +kernel
theorem dX8_down_42 : decode cX8_down 42 = .ok (.lreturn, 1) := by decide +kernel
set_option maxRecDepth 20000 in
theorem ggX8_up_X8_isRest : GoodIn wsX8_up wsX8_isRest := goodIn_r _ [4, 5, 6, 3, 7, 8, 9, 10] (by decide +kernel) (by decide +kernel)
set_option maxRecDepth 20000 in
theorem gX8_up_X8_isRest : GoodIn wsX8_up (va_wsS RX8 41 yX8_isRest wsX8_isRest) := goodIn_app (goodIn_of _ (by decide +kernel)) ggX8_up_X8_isRest
theorem dX8_up_0 : decode cX8_up 0 = .ok (.lconst 0, 1) := by decide +kernel
theorem dX8_up_1 : decode cX8_up 1 = .ok (.lstore 4, 2) := by decide +kernel
theorem dX8_up_3 : decode cX8_up 3 = .ok (.iconst 0, 1) := by decide +kernel
theorem dX8_up_4 : decode cX8_up 4 = .ok (.istore 6, 2) := by decide +kernel
theorem dX8_up_6 : decode cX8_up 6 = .ok (.iload 6, 2) := by decide +kernel
theorem dX8_up_8 : decode cX8_up 8 = .ok (.iload_n 3, 1) := by decide +kernel
theorem dX8_up_9 : decode cX8_up 9 = .ok (.if_icmp .ge 40, 3) := by decide +kernel
theorem dX8_up_12 : decode cX8_up 12 = .ok (.iload_n 3, 1) := by decide +kernel
theorem dX8_up_13 : decode cX8_up 13 = .ok (.iload 6, 2) := by decide +kernel
theorem dX8_up_15 : decode cX8_up 15 = .ok (.invokestatic 41, 3) := by decide +kernel
theorem dX8_up_18 : decode cX8_up 18 = .ok (.ifCond .eq 25, 3) := by decide +kernel
theorem dX8_up_21 : decode cX8_up 21 = .ok (.lload_n 1, 1) := by decide +kernel
theorem dX8_up_22 : decode cX8_up 22 = .ok (.iload 6, 2) := by decide +kernel
theorem dX8_up_24 : decode cX8_up 24 = .ok (.iload_n 0, 1) := by decide +kernel
theorem dX8_up_25 : decode cX8_up 25 = .ok (.irem, 1) := by decide +kernel
theorem dX8_up_26 : decode cX8_up 26 = .ok (.lshr, 1) := by decide +kernel
theorem dX8_up_27 : decode cX8_up 27 = .ok (.lconst 1, 1) := by decide +kernel
theorem dX8_up_28 : decode cX8_up 28 = .ok (.land, 1) := by decide +kernel
theorem dX8_up_29 : decode cX8_up 29 = .ok (.lconst 1, 1) := by decide +kernel
theorem dX8_up_30 : decode cX8_up 30 = .ok (.lcmp, 1) := by decide +kernel
theorem dX8_up_31 : decode cX8_up 31 = .ok (.ifCond .ne 12, 3) := by decide +kernel
theorem dX8_up_34 : decode cX8_up 34 = .ok (.lload 4, 2) := by decide +kernel
theorem dX8_up_36 : decode cX8_up 36 = .ok (.lconst 1, 1) := by decide +kernel
theorem dX8_up_37 : decode cX8_up 37 = .ok (.iload 6, 2) := by decide +kernel
theorem dX8_up_39 : decode cX8_up 39 = .ok (.lshl, 1) := by decide +kernel
theorem dX8_up_40 : decode cX8_up 40 = .ok (.lor, 1) := by decide +kernel
theorem dX8_up_41 : decode cX8_up 41 = .ok (.lstore 4, 2) := by decide +kernel
theorem dX8_up_43 : decode cX8_up 43 = .ok (.iinc 6 1, 3) := by decide +kernel
theorem dX8_up_46 : decode cX8_up 46 = .ok (.goto (-40), 3) := by decide +kernel
theorem dX8_up_49 : decode cX8_up 49 = .ok (.lload 4, 2) := by decide +kernel
theorem dX8_up_51 : decode cX8_up 51 = .ok (.lreturn, 1) := by decide +kernel
set_option maxRecDepth 20000 in
theorem ggX8_keeps_X8_barOf : GoodIn wsX8_keeps wsX8_barOf := goodIn_r _ [7, 8, 9, 6, 10, 11, 12, 13, 14, 15, 16, 17, 18, 19] (by decide +kernel) (by decide +kernel)
set_option maxRecDepth 20000 in
theorem gX8_keeps_X8_barOf : GoodIn wsX8_keeps (va_wsS RX8 81 yX8_barOf wsX8_barOf) := goodIn_app (goodIn_of _ (by decide +kernel)) ggX8_keeps_X8_barOf
set_option maxRecDepth 20000 in
theorem ggX8_keeps_X8_down : GoodIn wsX8_keeps wsX8_down := goodIn_r _ [22] (by decide +kernel) (by decide +kernel)
set_option maxRecDepth 20000 in
theorem gX8_keeps_X8_down : GoodIn wsX8_keeps (va_wsS RX8 85 yX8_down wsX8_down) := goodIn_app (goodIn_of _ (by decide +kernel)) ggX8_keeps_X8_down
theorem dX8_keeps_0 : decode cX8_keeps 0 = .ok (.iload_n 1, 1) := by decide +kernel
theorem dX8_keeps_1 : decode cX8_keeps 1 = .ok (.lload_n 2, 1) := by decide +kernel
theorem dX8_keeps_2 : decode cX8_keeps 2 = .ok (.invokestatic 81, 3) := by decide +kernel
theorem dX8_keeps_5 : decode cX8_keeps 5 = .ok (.istore 4, 2) := by decide +kernel
theorem dX8_keeps_7 : decode cX8_keeps 7 = .ok (.iload_n 1, 1) := by decide +kernel
theorem dX8_keeps_8 : decode cX8_keeps 8 = .ok (.lload_n 2, 1) := by decide +kernel
theorem dX8_keeps_9 : decode cX8_keeps 9 = .ok (.iload 4, 2) := by decide +kernel
theorem dX8_keeps_11 : decode cX8_keeps 11 = .ok (.invokestatic 85, 3) := by decide +kernel
theorem dX8_keeps_14 : decode cX8_keeps 14 = .ok (.lstore 5, 2) := by decide +kernel
theorem dX8_keeps_16 : decode cX8_keeps 16 = .ok (.iconst 0, 1) := by decide +kernel
theorem dX8_keeps_17 : decode cX8_keeps 17 = .ok (.istore 7, 2) := by decide +kernel
theorem dX8_keeps_19 : decode cX8_keeps 19 = .ok (.iload 7, 2) := by decide +kernel
theorem dX8_keeps_21 : decode cX8_keeps 21 = .ok (.aload_n 0, 1) := by decide +kernel
theorem dX8_keeps_22 : decode cX8_keeps 22 = .ok (.getfield 17, 3) := by decide +kernel
theorem dX8_keeps_25 : decode cX8_keeps 25 = .ok (.iconst 0, 1) := by decide +kernel
theorem dX8_keeps_26 : decode cX8_keeps 26 = .ok (.iaload, 1) := by decide +kernel
theorem dX8_keeps_27 : decode cX8_keeps 27 = .ok (.if_icmp .ge 37, 3) := by decide +kernel
theorem dX8_keeps_30 : decode cX8_keeps 30 = .ok (.aload_n 0, 1) := by decide +kernel
theorem dX8_keeps_31 : decode cX8_keeps 31 = .ok (.getfield 7, 3) := by decide +kernel
theorem dX8_keeps_34 : decode cX8_keeps 34 = .ok (.iload 7, 2) := by decide +kernel
theorem dX8_keeps_36 : decode cX8_keeps 36 = .ok (.iaload, 1) := by decide +kernel
theorem dX8_keeps_37 : decode cX8_keeps 37 = .ok (.iload 4, 2) := by decide +kernel
theorem dX8_keeps_39 : decode cX8_keeps 39 = .ok (.if_icmp .ne 19, 3) := by decide +kernel
theorem dX8_keeps_42 : decode cX8_keeps 42 = .ok (.aload_n 0, 1) := by decide +kernel
theorem dX8_keeps_43 : decode cX8_keeps 43 = .ok (.getfield 13, 3) := by decide +kernel
theorem dX8_keeps_46 : decode cX8_keeps 46 = .ok (.iload 7, 2) := by decide +kernel
theorem dX8_keeps_48 : decode cX8_keeps 48 = .ok (.laload, 1) := by decide +kernel
theorem dX8_keeps_49 : decode cX8_keeps 49 = .ok (.lload 5, 2) := by decide +kernel
theorem dX8_keeps_51 : decode cX8_keeps 51 = .ok (.lcmp, 1) := by decide +kernel
theorem dX8_keeps_52 : decode cX8_keeps 52 = .ok (.ifCond .ne 6, 3) := by decide +kernel
theorem dX8_keeps_55 : decode cX8_keeps 55 = .ok (.iload 7, 2) := by decide +kernel
theorem dX8_keeps_57 : decode cX8_keeps 57 = .ok (.ireturn, 1) := by decide +kernel
theorem dX8_keeps_58 : decode cX8_keeps 58 = .ok (.iinc 7 1, 3) := by decide +kernel
theorem dX8_keeps_61 : decode cX8_keeps 61 = .ok (.goto (-42), 3) := by decide +kernel
theorem dX8_keeps_64 : decode cX8_keeps 64 = .ok (.aload_n 0, 1) := by decide +kernel
theorem dX8_keeps_65 : decode cX8_keeps 65 = .ok (.getfield 17, 3) := by decide +kernel
theorem dX8_keeps_68 : decode cX8_keeps 68 = .ok (.iconst 0, 1) := by decide +kernel
theorem dX8_keeps_69 : decode cX8_keeps 69 = .ok (.iaload, 1) := by decide +kernel
theorem dX8_keeps_70 : decode cX8_keeps 70 = .ok (.bipush 40, 2) := by decide +kernel
theorem dX8_keeps_72 : decode cX8_keeps 72 = .ok (.if_icmp .ne 5, 3) := by decide +kernel
theorem dX8_keeps_75 : decode cX8_keeps 75 = .ok (.iconst (-1), 1) := by decide +kernel
theorem dX8_keeps_76 : decode cX8_keeps 76 = .ok (.ireturn, 1) := by decide +kernel
theorem dX8_keeps_77 : decode cX8_keeps 77 = .ok (.aload_n 0, 1) := by decide +kernel
theorem dX8_keeps_78 : decode cX8_keeps 78 = .ok (.getfield 7, 3) := by decide +kernel
theorem dX8_keeps_81 : decode cX8_keeps 81 = .ok (.aload_n 0, 1) := by decide +kernel
theorem dX8_keeps_82 : decode cX8_keeps 82 = .ok (.getfield 17, 3) := by decide +kernel
theorem dX8_keeps_85 : decode cX8_keeps 85 = .ok (.iconst 0, 1) := by decide +kernel
theorem dX8_keeps_86 : decode cX8_keeps 86 = .ok (.iaload, 1) := by decide +kernel
theorem dX8_keeps_87 : decode cX8_keeps 87 = .ok (.iload 4, 2) := by decide +kernel
theorem dX8_keeps_89 : decode cX8_keeps 89 = .ok (.iastore, 1) := by decide +kernel
theorem dX8_keeps_90 : decode cX8_keeps 90 = .ok (.aload_n 0, 1) := by decide +kernel
theorem dX8_keeps_91 : decode cX8_keeps 91 = .ok (.getfield 13, 3) := by decide +kernel
theorem dX8_keeps_94 : decode cX8_keeps 94 = .ok (.aload_n 0, 1) := by decide +kernel
theorem dX8_keeps_95 : decode cX8_keeps 95 = .ok (.getfield 17, 3) := by decide +kernel
theorem dX8_keeps_98 : decode cX8_keeps 98 = .ok (.iconst 0, 1) := by decide +kernel
theorem dX8_keeps_99 : decode cX8_keeps 99 = .ok (.iaload, 1) := by decide +kernel
theorem dX8_keeps_100 : decode cX8_keeps 100 = .ok (.lload 5, 2) := by decide +kernel
theorem dX8_keeps_102 : decode cX8_keeps 102 = .ok (.lastore, 1) := by decide +kernel
theorem dX8_keeps_103 : decode cX8_keeps 103 = .ok (.aload_n 0, 1) := by decide +kernel
theorem dX8_keeps_104 : decode cX8_keeps 104 = .ok (.getfield 17, 3) := by decide +kernel
theorem dX8_keeps_107 : decode cX8_keeps 107 = .ok (.iconst 0, 1) := by decide +kernel
theorem dX8_keeps_108 : decode cX8_keeps 108 = .ok (.dup2, 1) := by decide +kernel
theorem dX8_keeps_109 : decode cX8_keeps 109 = .ok (.iaload, 1) := by decide +kernel
theorem dX8_keeps_110 : decode cX8_keeps 110 = .ok (.iconst 1, 1) := by decide +kernel
theorem dX8_keeps_111 : decode cX8_keeps 111 = .ok (.iadd, 1) := by decide +kernel
theorem dX8_keeps_112 : decode cX8_keeps 112 = .ok (.iastore, 1) := by decide +kernel
theorem dX8_keeps_113 : decode cX8_keeps 113 = .ok (.aload_n 0, 1) := by decide +kernel
theorem dX8_keeps_114 : decode cX8_keeps 114 = .ok (.getfield 17, 3) := by decide +kernel
theorem dX8_keeps_117 : decode cX8_keeps 117 = .ok (.iconst 0, 1) := by decide +kernel
theorem dX8_keeps_118 : decode cX8_keeps 118 = .ok (.iaload, 1) := by decide +kernel
theorem dX8_keeps_119 : decode cX8_keeps 119 = .ok (.iconst 1, 1) := by decide +kernel
theorem dX8_keeps_120 : decode cX8_keeps 120 = .ok (.isub, 1) := by decide +kernel
theorem dX8_keeps_121 : decode cX8_keeps 121 = .ok (.ireturn, 1) := by decide +kernel
set_option maxRecDepth 20000 in
theorem ggX8_make_X8_isM : GoodIn wsX8_make wsX8_isM := goodIn_r _ [5, 6, 7, 4, 8] (by decide +kernel) (by decide +kernel)
set_option maxRecDepth 20000 in
theorem gX8_make_X8_isM : GoodIn wsX8_make (va_wsS RX8 45 yX8_isM wsX8_isM) := goodIn_app (goodIn_of _ (by decide +kernel)) ggX8_make_X8_isM
set_option maxRecDepth 20000 in
theorem ggX8_make_X8_all : GoodIn wsX8_make wsX8_all := goodIn_r _ [11, 12, 13, 4, 14, 6, 7, 8, 15, 16, 17] (by decide +kernel) (by decide +kernel)
set_option maxRecDepth 20000 in
theorem gX8_make_X8_all : GoodIn wsX8_make (va_wsS RX8 49 yX8_all wsX8_all) := goodIn_app (goodIn_of _ (by decide +kernel)) ggX8_make_X8_all
set_option maxRecDepth 20000 in
theorem ggX8_make_X8_one : GoodIn wsX8_make wsX8_one := goodIn_r _ [20] (by decide +kernel) (by decide +kernel)
set_option maxRecDepth 20000 in
theorem gX8_make_X8_one : GoodIn wsX8_make (va_wsS RX8 90 yX8_one wsX8_one) := goodIn_app (goodIn_of _ (by decide +kernel)) ggX8_make_X8_one
set_option maxRecDepth 20000 in
theorem ggX8_make_X8_product : GoodIn wsX8_make wsX8_product := goodIn_r _ [23, 24, 25, 4, 26, 27, 28, 29] (by decide +kernel) (by decide +kernel)
set_option maxRecDepth 20000 in
theorem gX8_make_X8_product : GoodIn wsX8_make (va_wsS RX8 93 yX8_product wsX8_product) := goodIn_app (goodIn_of _ (by decide +kernel)) ggX8_make_X8_product
set_option maxRecDepth 20000 in
theorem ggX8_make_X8_keeps : GoodIn wsX8_make wsX8_keeps := goodIn_r _ [33, 34, 35, 36, 37, 38, 4, 39, 40, 41, 42, 12, 13, 14, 6, 7, 8, 15, 16, 17, 43, 44, 45, 46, 47, 48, 49, 50, 51, 52, 53, 54, 55] (by decide +kernel) (by decide +kernel)
set_option maxRecDepth 20000 in
theorem gX8_make_X8_keeps : GoodIn wsX8_make (wsV RX8 97 RX8 yX8_keeps wsX8_keeps) := goodIn_app (goodIn_of _ (by decide +kernel)) ggX8_make_X8_keeps
theorem dX8_make_0 : decode cX8_make 0 = .ok (.iload_n 1, 1) := by decide +kernel
theorem dX8_make_1 : decode cX8_make 1 = .ok (.invokestatic 45, 3) := by decide +kernel
theorem dX8_make_4 : decode cX8_make 4 = .ok (.ifCond .eq 18, 3) := by decide +kernel
theorem dX8_make_7 : decode cX8_make 7 = .ok (.lload_n 2, 1) := by decide +kernel
theorem dX8_make_8 : decode cX8_make 8 = .ok (.iload_n 1, 1) := by decide +kernel
theorem dX8_make_9 : decode cX8_make 9 = .ok (.invokestatic 49, 3) := by decide +kernel
theorem dX8_make_12 : decode cX8_make 12 = .ok (.ldc2_w 88, 3) := by decide +kernel
theorem dX8_make_15 : decode cX8_make 15 = .ok (.lxor, 1) := by decide +kernel
theorem dX8_make_16 : decode cX8_make 16 = .ok (.land, 1) := by decide +kernel
theorem dX8_make_17 : decode cX8_make 17 = .ok (.lconst 0, 1) := by decide +kernel
theorem dX8_make_18 : decode cX8_make 18 = .ok (.lcmp, 1) := by decide +kernel
theorem dX8_make_19 : decode cX8_make 19 = .ok (.ifCond .eq 5, 3) := by decide +kernel
theorem dX8_make_22 : decode cX8_make 22 = .ok (.iconst (-1), 1) := by decide +kernel
theorem dX8_make_23 : decode cX8_make 23 = .ok (.ireturn, 1) := by decide +kernel
theorem dX8_make_24 : decode cX8_make 24 = .ok (.aload_n 0, 1) := by decide +kernel
theorem dX8_make_25 : decode cX8_make 25 = .ok (.iload_n 1, 1) := by decide +kernel
theorem dX8_make_26 : decode cX8_make 26 = .ok (.iload_n 1, 1) := by decide +kernel
theorem dX8_make_27 : decode cX8_make 27 = .ok (.iload_n 1, 1) := by decide +kernel
theorem dX8_make_28 : decode cX8_make 28 = .ok (.invokestatic 90, 3) := by decide +kernel
theorem dX8_make_31 : decode cX8_make 31 = .ok (.lload_n 2, 1) := by decide +kernel
theorem dX8_make_32 : decode cX8_make 32 = .ok (.invokestatic 93, 3) := by decide +kernel
theorem dX8_make_35 : decode cX8_make 35 = .ok (.invokevirtual 97, 3) := by decide +kernel
theorem dX8_make_38 : decode cX8_make 38 = .ok (.ireturn, 1) := by decide +kernel
set_option maxRecDepth 20000 in
theorem ggX8_powers_X8_isM : GoodIn wsX8_powers wsX8_isM := goodIn_r _ [4, 5, 6, 3, 7] (by decide +kernel) (by decide +kernel)
set_option maxRecDepth 20000 in
theorem gX8_powers_X8_isM : GoodIn wsX8_powers (va_wsS RX8 45 yX8_isM wsX8_isM) := goodIn_app (goodIn_of _ (by decide +kernel)) ggX8_powers_X8_isM
set_option maxRecDepth 20000 in
theorem ggX8_powers_X8_isIn : GoodIn wsX8_powers wsX8_isIn := goodIn_r _ [7] (by decide +kernel) (by decide +kernel)
set_option maxRecDepth 20000 in
theorem gX8_powers_X8_isIn : GoodIn wsX8_powers (va_wsS RX8 37 yX8_isIn wsX8_isIn) := goodIn_app (goodIn_of _ (by decide +kernel)) ggX8_powers_X8_isIn
set_option maxRecDepth 20000 in
theorem ggX8_powers_X8_isRest : GoodIn wsX8_powers wsX8_isRest := goodIn_r _ [10, 5, 6, 3, 7, 11, 12, 13] (by decide +kernel) (by decide +kernel)
set_option maxRecDepth 20000 in
theorem gX8_powers_X8_isRest : GoodIn wsX8_powers (va_wsS RX8 41 yX8_isRest wsX8_isRest) := goodIn_app (goodIn_of _ (by decide +kernel)) ggX8_powers_X8_isRest
set_option maxRecDepth 20000 in
theorem ggX8_powers_X8_power : GoodIn wsX8_powers wsX8_power := goodIn_r _ [16] (by decide +kernel) (by decide +kernel)
set_option maxRecDepth 20000 in
theorem gX8_powers_X8_power : GoodIn wsX8_powers (va_wsS RX8 57 yX8_power wsX8_power) := goodIn_app (goodIn_of _ (by decide +kernel)) ggX8_powers_X8_power
set_option maxRecDepth 20000 in
theorem ggX8_powers_X8_keeps : GoodIn wsX8_powers wsX8_keeps := goodIn_r _ [20, 21, 22, 23, 24, 25, 3, 26, 27, 28, 29, 8, 9, 10, 5, 6, 7, 11, 12, 13, 30, 31, 32, 33, 34, 35, 36, 37, 38, 39, 40, 41, 42] (by decide +kernel) (by decide +kernel)
set_option maxRecDepth 20000 in
theorem gX8_powers_X8_keeps : GoodIn wsX8_powers (wsV RX8 97 RX8 yX8_keeps wsX8_keeps) := goodIn_app (goodIn_of _ (by decide +kernel)) ggX8_powers_X8_keeps
theorem dX8_powers_0 : decode cX8_powers 0 = .ok (.iload_n 1, 1) := by decide +kernel
theorem dX8_powers_1 : decode cX8_powers 1 = .ok (.invokestatic 45, 3) := by decide +kernel
theorem dX8_powers_4 : decode cX8_powers 4 = .ok (.ifCond .eq 13, 3) := by decide +kernel
theorem dX8_powers_7 : decode cX8_powers 7 = .ok (.iload_n 2, 1) := by decide +kernel
theorem dX8_powers_8 : decode cX8_powers 8 = .ok (.iconst 1, 1) := by decide +kernel
theorem dX8_powers_9 : decode cX8_powers 9 = .ok (.bipush 60, 2) := by decide +kernel
theorem dX8_powers_11 : decode cX8_powers 11 = .ok (.invokestatic 37, 3) := by decide +kernel
theorem dX8_powers_14 : decode cX8_powers 14 = .ok (.ifCond .ne 5, 3) := by decide +kernel
theorem dX8_powers_17 : decode cX8_powers 17 = .ok (.iconst (-1), 1) := by decide +kernel
theorem dX8_powers_18 : decode cX8_powers 18 = .ok (.ireturn, 1) := by decide +kernel
theorem dX8_powers_19 : decode cX8_powers 19 = .ok (.lconst 0, 1) := by decide +kernel
theorem dX8_powers_20 : decode cX8_powers 20 = .ok (.lstore_n 3, 1) := by decide +kernel
theorem dX8_powers_21 : decode cX8_powers 21 = .ok (.iconst 0, 1) := by decide +kernel
theorem dX8_powers_22 : decode cX8_powers 22 = .ok (.istore 5, 2) := by decide +kernel
theorem dX8_powers_24 : decode cX8_powers 24 = .ok (.iload 5, 2) := by decide +kernel
theorem dX8_powers_26 : decode cX8_powers 26 = .ok (.iload_n 1, 1) := by decide +kernel
theorem dX8_powers_27 : decode cX8_powers 27 = .ok (.if_icmp .ge 30, 3) := by decide +kernel
theorem dX8_powers_30 : decode cX8_powers 30 = .ok (.iload_n 1, 1) := by decide +kernel
theorem dX8_powers_31 : decode cX8_powers 31 = .ok (.iload 5, 2) := by decide +kernel
theorem dX8_powers_33 : decode cX8_powers 33 = .ok (.invokestatic 41, 3) := by decide +kernel
theorem dX8_powers_36 : decode cX8_powers 36 = .ok (.ifCond .eq 15, 3) := by decide +kernel
theorem dX8_powers_39 : decode cX8_powers 39 = .ok (.lload_n 3, 1) := by decide +kernel
theorem dX8_powers_40 : decode cX8_powers 40 = .ok (.lconst 1, 1) := by decide +kernel
theorem dX8_powers_41 : decode cX8_powers 41 = .ok (.iload_n 1, 1) := by decide +kernel
theorem dX8_powers_42 : decode cX8_powers 42 = .ok (.iload 5, 2) := by decide +kernel
theorem dX8_powers_44 : decode cX8_powers 44 = .ok (.iload_n 2, 1) := by decide +kernel
theorem dX8_powers_45 : decode cX8_powers 45 = .ok (.invokestatic 57, 3) := by decide +kernel
theorem dX8_powers_48 : decode cX8_powers 48 = .ok (.lshl, 1) := by decide +kernel
theorem dX8_powers_49 : decode cX8_powers 49 = .ok (.lor, 1) := by decide +kernel
theorem dX8_powers_50 : decode cX8_powers 50 = .ok (.lstore_n 3, 1) := by decide +kernel
theorem dX8_powers_51 : decode cX8_powers 51 = .ok (.iinc 5 1, 3) := by decide +kernel
theorem dX8_powers_54 : decode cX8_powers 54 = .ok (.goto (-30), 3) := by decide +kernel
theorem dX8_powers_57 : decode cX8_powers 57 = .ok (.aload_n 0, 1) := by decide +kernel
theorem dX8_powers_58 : decode cX8_powers 58 = .ok (.iload_n 1, 1) := by decide +kernel
theorem dX8_powers_59 : decode cX8_powers 59 = .ok (.lload_n 3, 1) := by decide +kernel
theorem dX8_powers_60 : decode cX8_powers 60 = .ok (.invokevirtual 97, 3) := by decide +kernel
theorem dX8_powers_63 : decode cX8_powers 63 = .ok (.ireturn, 1) := by decide +kernel
set_option maxRecDepth 20000 in
theorem ggX8_isField_X8_isIn : GoodIn wsX8_isField wsX8_isIn := goodIn_r _ [5] (by decide +kernel) (by decide +kernel)
set_option maxRecDepth 20000 in
theorem gX8_isField_X8_isIn : GoodIn wsX8_isField (va_wsS RX8 37 yX8_isIn wsX8_isIn) := goodIn_app (goodIn_of _ (by decide +kernel)) ggX8_isField_X8_isIn
theorem dX8_isField_0 : decode cX8_isField 0 = .ok (.iload_n 1, 1) := by decide +kernel
theorem dX8_isField_1 : decode cX8_isField 1 = .ok (.iconst 0, 1) := by decide +kernel
theorem dX8_isField_2 : decode cX8_isField 2 = .ok (.aload_n 0, 1) := by decide +kernel
theorem dX8_isField_3 : decode cX8_isField 3 = .ok (.getfield 17, 3) := by decide +kernel
theorem dX8_isField_6 : decode cX8_isField 6 = .ok (.iconst 0, 1) := by decide +kernel
theorem dX8_isField_7 : decode cX8_isField 7 = .ok (.iaload, 1) := by decide +kernel
theorem dX8_isField_8 : decode cX8_isField 8 = .ok (.iconst 1, 1) := by decide +kernel
theorem dX8_isField_9 : decode cX8_isField 9 = .ok (.isub, 1) := by decide +kernel
theorem dX8_isField_10 : decode cX8_isField 10 = .ok (.invokestatic 37, 3) := by decide +kernel
theorem dX8_isField_13 : decode cX8_isField 13 = .ok (.ireturn, 1) := by decide +kernel
set_option maxRecDepth 20000 in
theorem ggX8_join_X8_isField : GoodIn wsX8_join wsX8_isField := goodIn_r _ [7, 8, 9, 10, 6, 11, 37, 38, 39, 40, 41, 42, 43, 44, 45, 46] (by decide +kernel) (by decide +kernel)
set_option maxRecDepth 20000 in
theorem gX8_join_X8_isField : GoodIn wsX8_join (wsV RX8 100 RX8 yX8_isField wsX8_isField) := goodIn_app (goodIn_of _ (by decide +kernel)) ggX8_join_X8_isField
set_option maxRecDepth 20000 in
theorem ggX8_join_X8_multiple : GoodIn wsX8_join wsX8_multiple := goodIn_r _ [14, 15, 16, 6, 17] (by decide +kernel) (by decide +kernel)
set_option maxRecDepth 20000 in
theorem gX8_join_X8_multiple : GoodIn wsX8_join (va_wsS RX8 103 yX8_multiple wsX8_multiple) := goodIn_app (goodIn_of _ (by decide +kernel)) ggX8_join_X8_multiple
set_option maxRecDepth 20000 in
theorem ggX8_join_X8_up : GoodIn wsX8_join wsX8_up := goodIn_r _ [20, 21, 22, 6, 23, 9, 10, 11, 15, 16, 17] (by decide +kernel) (by decide +kernel)
set_option maxRecDepth 20000 in
theorem gX8_join_X8_up : GoodIn wsX8_join (va_wsS RX8 106 yX8_up wsX8_up) := goodIn_app (goodIn_of _ (by decide +kernel)) ggX8_join_X8_up
set_option maxRecDepth 20000 in
theorem ggX8_join_X8_keeps : GoodIn wsX8_join wsX8_keeps := goodIn_r _ [27, 8, 1, 2, 28, 29, 6, 30, 31, 32, 33, 21, 22, 23, 9, 10, 11, 15, 16, 17, 34, 35, 36, 37, 38, 39, 40, 41, 42, 43, 44, 45, 46] (by decide +kernel) (by decide +kernel)
set_option maxRecDepth 20000 in
theorem gX8_join_X8_keeps : GoodIn wsX8_join (wsV RX8 97 RX8 yX8_keeps wsX8_keeps) := goodIn_app (goodIn_of _ (by decide +kernel)) ggX8_join_X8_keeps
theorem dX8_join_0 : decode cX8_join 0 = .ok (.aload_n 0, 1) := by decide +kernel
theorem dX8_join_1 : decode cX8_join 1 = .ok (.iload_n 1, 1) := by decide +kernel
theorem dX8_join_2 : decode cX8_join 2 = .ok (.invokevirtual 100, 3) := by decide +kernel
theorem dX8_join_5 : decode cX8_join 5 = .ok (.ifCond .eq 31, 3) := by decide +kernel
theorem dX8_join_8 : decode cX8_join 8 = .ok (.aload_n 0, 1) := by decide +kernel
theorem dX8_join_9 : decode cX8_join 9 = .ok (.iload_n 2, 1) := by decide +kernel
theorem dX8_join_10 : decode cX8_join 10 = .ok (.invokevirtual 100, 3) := by decide +kernel
theorem dX8_join_13 : decode cX8_join 13 = .ok (.ifCond .eq 23, 3) := by decide +kernel
theorem dX8_join_16 : decode cX8_join 16 = .ok (.aload_n 0, 1) := by decide +kernel
theorem dX8_join_17 : decode cX8_join 17 = .ok (.getfield 7, 3) := by decide +kernel
theorem dX8_join_20 : decode cX8_join 20 = .ok (.iload_n 1, 1) := by decide +kernel
theorem dX8_join_21 : decode cX8_join 21 = .ok (.iaload, 1) := by decide +kernel
theorem dX8_join_22 : decode cX8_join 22 = .ok (.aload_n 0, 1) := by decide +kernel
theorem dX8_join_23 : decode cX8_join 23 = .ok (.getfield 7, 3) := by decide +kernel
theorem dX8_join_26 : decode cX8_join 26 = .ok (.iload_n 2, 1) := by decide +kernel
theorem dX8_join_27 : decode cX8_join 27 = .ok (.iaload, 1) := by decide +kernel
theorem dX8_join_28 : decode cX8_join 28 = .ok (.invokestatic 103, 3) := by decide +kernel
theorem dX8_join_31 : decode cX8_join 31 = .ok (.bipush 63, 2) := by decide +kernel
theorem dX8_join_33 : decode cX8_join 33 = .ok (.if_icmp .le 5, 3) := by decide +kernel
theorem dX8_join_36 : decode cX8_join 36 = .ok (.iconst (-1), 1) := by decide +kernel
theorem dX8_join_37 : decode cX8_join 37 = .ok (.ireturn, 1) := by decide +kernel
theorem dX8_join_38 : decode cX8_join 38 = .ok (.aload_n 0, 1) := by decide +kernel
theorem dX8_join_39 : decode cX8_join 39 = .ok (.getfield 7, 3) := by decide +kernel
theorem dX8_join_42 : decode cX8_join 42 = .ok (.iload_n 1, 1) := by decide +kernel
theorem dX8_join_43 : decode cX8_join 43 = .ok (.iaload, 1) := by decide +kernel
theorem dX8_join_44 : decode cX8_join 44 = .ok (.aload_n 0, 1) := by decide +kernel
theorem dX8_join_45 : decode cX8_join 45 = .ok (.getfield 7, 3) := by decide +kernel
theorem dX8_join_48 : decode cX8_join 48 = .ok (.iload_n 2, 1) := by decide +kernel
theorem dX8_join_49 : decode cX8_join 49 = .ok (.iaload, 1) := by decide +kernel
theorem dX8_join_50 : decode cX8_join 50 = .ok (.invokestatic 103, 3) := by decide +kernel
theorem dX8_join_53 : decode cX8_join 53 = .ok (.istore_n 3, 1) := by decide +kernel
theorem dX8_join_54 : decode cX8_join 54 = .ok (.aload_n 0, 1) := by decide +kernel
theorem dX8_join_55 : decode cX8_join 55 = .ok (.iload_n 3, 1) := by decide +kernel
theorem dX8_join_56 : decode cX8_join 56 = .ok (.aload_n 0, 1) := by decide +kernel
theorem dX8_join_57 : decode cX8_join 57 = .ok (.getfield 7, 3) := by decide +kernel
theorem dX8_join_60 : decode cX8_join 60 = .ok (.iload_n 1, 1) := by decide +kernel
theorem dX8_join_61 : decode cX8_join 61 = .ok (.iaload, 1) := by decide +kernel
theorem dX8_join_62 : decode cX8_join 62 = .ok (.aload_n 0, 1) := by decide +kernel
theorem dX8_join_63 : decode cX8_join 63 = .ok (.getfield 13, 3) := by decide +kernel
theorem dX8_join_66 : decode cX8_join 66 = .ok (.iload_n 1, 1) := by decide +kernel
theorem dX8_join_67 : decode cX8_join 67 = .ok (.laload, 1) := by decide +kernel
theorem dX8_join_68 : decode cX8_join 68 = .ok (.iload_n 3, 1) := by decide +kernel
theorem dX8_join_69 : decode cX8_join 69 = .ok (.invokestatic 106, 3) := by decide +kernel
theorem dX8_join_72 : decode cX8_join 72 = .ok (.aload_n 0, 1) := by decide +kernel
theorem dX8_join_73 : decode cX8_join 73 = .ok (.getfield 7, 3) := by decide +kernel
theorem dX8_join_76 : decode cX8_join 76 = .ok (.iload_n 2, 1) := by decide +kernel
theorem dX8_join_77 : decode cX8_join 77 = .ok (.iaload, 1) := by decide +kernel
theorem dX8_join_78 : decode cX8_join 78 = .ok (.aload_n 0, 1) := by decide +kernel
theorem dX8_join_79 : decode cX8_join 79 = .ok (.getfield 13, 3) := by decide +kernel
theorem dX8_join_82 : decode cX8_join 82 = .ok (.iload_n 2, 1) := by decide +kernel
theorem dX8_join_83 : decode cX8_join 83 = .ok (.laload, 1) := by decide +kernel
theorem dX8_join_84 : decode cX8_join 84 = .ok (.iload_n 3, 1) := by decide +kernel
theorem dX8_join_85 : decode cX8_join 85 = .ok (.invokestatic 106, 3) := by decide +kernel
theorem dX8_join_88 : decode cX8_join 88 = .ok (.land, 1) := by decide +kernel
theorem dX8_join_89 : decode cX8_join 89 = .ok (.invokevirtual 97, 3) := by decide +kernel
theorem dX8_join_92 : decode cX8_join 92 = .ok (.ireturn, 1) := by decide +kernel
set_option maxRecDepth 20000 in
theorem ggX8_meet_X8_isField : GoodIn wsX8_meet wsX8_isField := goodIn_r _ [7, 8, 9, 10, 6, 11, 46, 47, 48, 49, 50, 51, 52, 53, 54, 55] (by decide +kernel) (by decide +kernel)
set_option maxRecDepth 20000 in
theorem gX8_meet_X8_isField : GoodIn wsX8_meet (wsV RX8 100 RX8 yX8_isField wsX8_isField) := goodIn_app (goodIn_of _ (by decide +kernel)) ggX8_meet_X8_isField
set_option maxRecDepth 20000 in
theorem ggX8_meet_X8_multiple : GoodIn wsX8_meet wsX8_multiple := goodIn_r _ [14, 15, 16, 6, 17] (by decide +kernel) (by decide +kernel)
set_option maxRecDepth 20000 in
theorem gX8_meet_X8_multiple : GoodIn wsX8_meet (va_wsS RX8 103 yX8_multiple wsX8_multiple) := goodIn_app (goodIn_of _ (by decide +kernel)) ggX8_meet_X8_multiple
set_option maxRecDepth 20000 in
theorem ggX8_meet_X8_up : GoodIn wsX8_meet wsX8_up := goodIn_r _ [20, 21, 22, 6, 23, 9, 10, 11, 15, 16, 17] (by decide +kernel) (by decide +kernel)
set_option maxRecDepth 20000 in
theorem gX8_meet_X8_up : GoodIn wsX8_meet (va_wsS RX8 106 yX8_up wsX8_up) := goodIn_app (goodIn_of _ (by decide +kernel)) ggX8_meet_X8_up
set_option maxRecDepth 20000 in
theorem ggX8_meet_X8_product : GoodIn wsX8_meet wsX8_product := goodIn_r _ [26, 27, 28, 6, 29, 30, 31, 32] (by decide +kernel) (by decide +kernel)
set_option maxRecDepth 20000 in
theorem gX8_meet_X8_product : GoodIn wsX8_meet (va_wsS RX8 93 yX8_product wsX8_product) := goodIn_app (goodIn_of _ (by decide +kernel)) ggX8_meet_X8_product
set_option maxRecDepth 20000 in
theorem ggX8_meet_X8_keeps : GoodIn wsX8_meet wsX8_keeps := goodIn_r _ [36, 8, 1, 2, 37, 38, 6, 39, 40, 41, 42, 21, 22, 23, 9, 10, 11, 15, 16, 17, 43, 44, 45, 46, 47, 48, 49, 50, 51, 52, 53, 54, 55] (by decide +kernel) (by decide +kernel)
set_option maxRecDepth 20000 in
theorem gX8_meet_X8_keeps : GoodIn wsX8_meet (wsV RX8 97 RX8 yX8_keeps wsX8_keeps) := goodIn_app (goodIn_of _ (by decide +kernel)) ggX8_meet_X8_keeps
theorem dX8_meet_0 : decode cX8_meet 0 = .ok (.aload_n 0, 1) := by decide +kernel
theorem dX8_meet_1 : decode cX8_meet 1 = .ok (.iload_n 1, 1) := by decide +kernel
theorem dX8_meet_2 : decode cX8_meet 2 = .ok (.invokevirtual 100, 3) := by decide +kernel
theorem dX8_meet_5 : decode cX8_meet 5 = .ok (.ifCond .eq 31, 3) := by decide +kernel
theorem dX8_meet_8 : decode cX8_meet 8 = .ok (.aload_n 0, 1) := by decide +kernel
theorem dX8_meet_9 : decode cX8_meet 9 = .ok (.iload_n 2, 1) := by decide +kernel
theorem dX8_meet_10 : decode cX8_meet 10 = .ok (.invokevirtual 100, 3) := by decide +kernel
theorem dX8_meet_13 : decode cX8_meet 13 = .ok (.ifCond .eq 23, 3) := by decide +kernel
theorem dX8_meet_16 : decode cX8_meet 16 = .ok (.aload_n 0, 1) := by decide +kernel
theorem dX8_meet_17 : decode cX8_meet 17 = .ok (.getfield 7, 3) := by decide +kernel
theorem dX8_meet_20 : decode cX8_meet 20 = .ok (.iload_n 1, 1) := by decide +kernel
theorem dX8_meet_21 : decode cX8_meet 21 = .ok (.iaload, 1) := by decide +kernel
theorem dX8_meet_22 : decode cX8_meet 22 = .ok (.aload_n 0, 1) := by decide +kernel
theorem dX8_meet_23 : decode cX8_meet 23 = .ok (.getfield 7, 3) := by decide +kernel
theorem dX8_meet_26 : decode cX8_meet 26 = .ok (.iload_n 2, 1) := by decide +kernel
theorem dX8_meet_27 : decode cX8_meet 27 = .ok (.iaload, 1) := by decide +kernel
theorem dX8_meet_28 : decode cX8_meet 28 = .ok (.invokestatic 103, 3) := by decide +kernel
theorem dX8_meet_31 : decode cX8_meet 31 = .ok (.bipush 63, 2) := by decide +kernel
theorem dX8_meet_33 : decode cX8_meet 33 = .ok (.if_icmp .le 5, 3) := by decide +kernel
theorem dX8_meet_36 : decode cX8_meet 36 = .ok (.iconst (-1), 1) := by decide +kernel
theorem dX8_meet_37 : decode cX8_meet 37 = .ok (.ireturn, 1) := by decide +kernel
theorem dX8_meet_38 : decode cX8_meet 38 = .ok (.aload_n 0, 1) := by decide +kernel
theorem dX8_meet_39 : decode cX8_meet 39 = .ok (.getfield 7, 3) := by decide +kernel
theorem dX8_meet_42 : decode cX8_meet 42 = .ok (.iload_n 1, 1) := by decide +kernel
theorem dX8_meet_43 : decode cX8_meet 43 = .ok (.iaload, 1) := by decide +kernel
theorem dX8_meet_44 : decode cX8_meet 44 = .ok (.aload_n 0, 1) := by decide +kernel
theorem dX8_meet_45 : decode cX8_meet 45 = .ok (.getfield 7, 3) := by decide +kernel
theorem dX8_meet_48 : decode cX8_meet 48 = .ok (.iload_n 2, 1) := by decide +kernel
theorem dX8_meet_49 : decode cX8_meet 49 = .ok (.iaload, 1) := by decide +kernel
theorem dX8_meet_50 : decode cX8_meet 50 = .ok (.invokestatic 103, 3) := by decide +kernel
theorem dX8_meet_53 : decode cX8_meet 53 = .ok (.istore_n 3, 1) := by decide +kernel
theorem dX8_meet_54 : decode cX8_meet 54 = .ok (.aload_n 0, 1) := by decide +kernel
theorem dX8_meet_55 : decode cX8_meet 55 = .ok (.iload_n 3, 1) := by decide +kernel
theorem dX8_meet_56 : decode cX8_meet 56 = .ok (.iload_n 3, 1) := by decide +kernel
theorem dX8_meet_57 : decode cX8_meet 57 = .ok (.aload_n 0, 1) := by decide +kernel
theorem dX8_meet_58 : decode cX8_meet 58 = .ok (.getfield 7, 3) := by decide +kernel
theorem dX8_meet_61 : decode cX8_meet 61 = .ok (.iload_n 1, 1) := by decide +kernel
theorem dX8_meet_62 : decode cX8_meet 62 = .ok (.iaload, 1) := by decide +kernel
theorem dX8_meet_63 : decode cX8_meet 63 = .ok (.aload_n 0, 1) := by decide +kernel
theorem dX8_meet_64 : decode cX8_meet 64 = .ok (.getfield 13, 3) := by decide +kernel
theorem dX8_meet_67 : decode cX8_meet 67 = .ok (.iload_n 1, 1) := by decide +kernel
theorem dX8_meet_68 : decode cX8_meet 68 = .ok (.laload, 1) := by decide +kernel
theorem dX8_meet_69 : decode cX8_meet 69 = .ok (.iload_n 3, 1) := by decide +kernel
theorem dX8_meet_70 : decode cX8_meet 70 = .ok (.invokestatic 106, 3) := by decide +kernel
theorem dX8_meet_73 : decode cX8_meet 73 = .ok (.aload_n 0, 1) := by decide +kernel
theorem dX8_meet_74 : decode cX8_meet 74 = .ok (.getfield 7, 3) := by decide +kernel
theorem dX8_meet_77 : decode cX8_meet 77 = .ok (.iload_n 2, 1) := by decide +kernel
theorem dX8_meet_78 : decode cX8_meet 78 = .ok (.iaload, 1) := by decide +kernel
theorem dX8_meet_79 : decode cX8_meet 79 = .ok (.aload_n 0, 1) := by decide +kernel
theorem dX8_meet_80 : decode cX8_meet 80 = .ok (.getfield 13, 3) := by decide +kernel
theorem dX8_meet_83 : decode cX8_meet 83 = .ok (.iload_n 2, 1) := by decide +kernel
theorem dX8_meet_84 : decode cX8_meet 84 = .ok (.laload, 1) := by decide +kernel
theorem dX8_meet_85 : decode cX8_meet 85 = .ok (.iload_n 3, 1) := by decide +kernel
theorem dX8_meet_86 : decode cX8_meet 86 = .ok (.invokestatic 106, 3) := by decide +kernel
theorem dX8_meet_89 : decode cX8_meet 89 = .ok (.invokestatic 93, 3) := by decide +kernel
theorem dX8_meet_92 : decode cX8_meet 92 = .ok (.invokevirtual 97, 3) := by decide +kernel
theorem dX8_meet_95 : decode cX8_meet 95 = .ok (.ireturn, 1) := by decide +kernel
set_option maxRecDepth 20000 in
theorem ggX8_liesIn_X8_isField : GoodIn wsX8_liesIn wsX8_isField := goodIn_r _ [8, 9, 10, 11, 7, 12, 22, 23, 24, 25, 26, 27, 28, 29, 30, 31] (by decide +kernel) (by decide +kernel)
set_option maxRecDepth 20000 in
theorem gX8_liesIn_X8_isField : GoodIn wsX8_liesIn (wsV RX8 100 RX8 yX8_isField wsX8_isField) := goodIn_app (goodIn_of _ (by decide +kernel)) ggX8_liesIn_X8_isField
set_option maxRecDepth 20000 in
theorem ggX8_liesIn_X8_up : GoodIn wsX8_liesIn wsX8_up := goodIn_r _ [15, 16, 17, 7, 18, 10, 11, 12, 19, 20, 21] (by decide +kernel) (by decide +kernel)
set_option maxRecDepth 20000 in
theorem gX8_liesIn_X8_up : GoodIn wsX8_liesIn (va_wsS RX8 106 yX8_up wsX8_up) := goodIn_app (goodIn_of _ (by decide +kernel)) ggX8_liesIn_X8_up
theorem dX8_liesIn_0 : decode cX8_liesIn 0 = .ok (.aload_n 0, 1) := by decide +kernel
theorem dX8_liesIn_1 : decode cX8_liesIn 1 = .ok (.iload_n 1, 1) := by decide +kernel
theorem dX8_liesIn_2 : decode cX8_liesIn 2 = .ok (.invokevirtual 100, 3) := by decide +kernel
theorem dX8_liesIn_5 : decode cX8_liesIn 5 = .ok (.ifCond .eq 27, 3) := by decide +kernel
theorem dX8_liesIn_8 : decode cX8_liesIn 8 = .ok (.aload_n 0, 1) := by decide +kernel
theorem dX8_liesIn_9 : decode cX8_liesIn 9 = .ok (.iload_n 2, 1) := by decide +kernel
theorem dX8_liesIn_10 : decode cX8_liesIn 10 = .ok (.invokevirtual 100, 3) := by decide +kernel
theorem dX8_liesIn_13 : decode cX8_liesIn 13 = .ok (.ifCond .eq 19, 3) := by decide +kernel
theorem dX8_liesIn_16 : decode cX8_liesIn 16 = .ok (.aload_n 0, 1) := by decide +kernel
theorem dX8_liesIn_17 : decode cX8_liesIn 17 = .ok (.getfield 7, 3) := by decide +kernel
theorem dX8_liesIn_20 : decode cX8_liesIn 20 = .ok (.iload_n 2, 1) := by decide +kernel
theorem dX8_liesIn_21 : decode cX8_liesIn 21 = .ok (.iaload, 1) := by decide +kernel
theorem dX8_liesIn_22 : decode cX8_liesIn 22 = .ok (.aload_n 0, 1) := by decide +kernel
theorem dX8_liesIn_23 : decode cX8_liesIn 23 = .ok (.getfield 7, 3) := by decide +kernel
theorem dX8_liesIn_26 : decode cX8_liesIn 26 = .ok (.iload_n 1, 1) := by decide +kernel
theorem dX8_liesIn_27 : decode cX8_liesIn 27 = .ok (.iaload, 1) := by decide +kernel
theorem dX8_liesIn_28 : decode cX8_liesIn 28 = .ok (.irem, 1) := by decide +kernel
theorem dX8_liesIn_29 : decode cX8_liesIn 29 = .ok (.ifCond .eq 5, 3) := by decide +kernel
theorem dX8_liesIn_32 : decode cX8_liesIn 32 = .ok (.iconst 0, 1) := by decide +kernel
theorem dX8_liesIn_33 : decode cX8_liesIn 33 = .ok (.ireturn, 1) := by decide +kernel
theorem dX8_liesIn_34 : decode cX8_liesIn 34 = .ok (.aload_n 0, 1) := by decide +kernel
theorem dX8_liesIn_35 : decode cX8_liesIn 35 = .ok (.getfield 13, 3) := by decide +kernel
theorem dX8_liesIn_38 : decode cX8_liesIn 38 = .ok (.iload_n 2, 1) := by decide +kernel
theorem dX8_liesIn_39 : decode cX8_liesIn 39 = .ok (.laload, 1) := by decide +kernel
theorem dX8_liesIn_40 : decode cX8_liesIn 40 = .ok (.aload_n 0, 1) := by decide +kernel
theorem dX8_liesIn_41 : decode cX8_liesIn 41 = .ok (.getfield 7, 3) := by decide +kernel
theorem dX8_liesIn_44 : decode cX8_liesIn 44 = .ok (.iload_n 1, 1) := by decide +kernel
theorem dX8_liesIn_45 : decode cX8_liesIn 45 = .ok (.iaload, 1) := by decide +kernel
theorem dX8_liesIn_46 : decode cX8_liesIn 46 = .ok (.aload_n 0, 1) := by decide +kernel
theorem dX8_liesIn_47 : decode cX8_liesIn 47 = .ok (.getfield 13, 3) := by decide +kernel
theorem dX8_liesIn_50 : decode cX8_liesIn 50 = .ok (.iload_n 1, 1) := by decide +kernel
theorem dX8_liesIn_51 : decode cX8_liesIn 51 = .ok (.laload, 1) := by decide +kernel
theorem dX8_liesIn_52 : decode cX8_liesIn 52 = .ok (.aload_n 0, 1) := by decide +kernel
theorem dX8_liesIn_53 : decode cX8_liesIn 53 = .ok (.getfield 7, 3) := by decide +kernel
theorem dX8_liesIn_56 : decode cX8_liesIn 56 = .ok (.iload_n 2, 1) := by decide +kernel
theorem dX8_liesIn_57 : decode cX8_liesIn 57 = .ok (.iaload, 1) := by decide +kernel
theorem dX8_liesIn_58 : decode cX8_liesIn 58 = .ok (.invokestatic 106, 3) := by decide +kernel
theorem dX8_liesIn_61 : decode cX8_liesIn 61 = .ok (.ldc2_w 88, 3) := by decide +kernel
theorem dX8_liesIn_64 : decode cX8_liesIn 64 = .ok (.lxor, 1) := by decide +kernel
theorem dX8_liesIn_65 : decode cX8_liesIn 65 = .ok (.land, 1) := by decide +kernel
theorem dX8_liesIn_66 : decode cX8_liesIn 66 = .ok (.lconst 0, 1) := by decide +kernel
theorem dX8_liesIn_67 : decode cX8_liesIn 67 = .ok (.lcmp, 1) := by decide +kernel
theorem dX8_liesIn_68 : decode cX8_liesIn 68 = .ok (.ifCond .ne 7, 3) := by decide +kernel
theorem dX8_liesIn_71 : decode cX8_liesIn 71 = .ok (.iconst 1, 1) := by decide +kernel
theorem dX8_liesIn_72 : decode cX8_liesIn 72 = .ok (.goto 4, 3) := by decide +kernel
theorem dX8_liesIn_75 : decode cX8_liesIn 75 = .ok (.iconst 0, 1) := by decide +kernel
theorem dX8_liesIn_76 : decode cX8_liesIn 76 = .ok (.ireturn, 1) := by decide +kernel
set_option maxRecDepth 20000 in
theorem ggX8_degree_X8_all : GoodIn wsX8_degree wsX8_all := goodIn_r _ [4, 5, 6, 3, 7, 8, 9, 10, 11, 12, 13] (by decide +kernel) (by decide +kernel)
set_option maxRecDepth 20000 in
theorem gX8_degree_X8_all : GoodIn wsX8_degree (va_wsS RX8 49 yX8_all wsX8_all) := goodIn_app (goodIn_of _ (by decide +kernel)) ggX8_degree_X8_all
set_option maxRecDepth 20000 in
theorem ggX8_degree_X8_many : GoodIn wsX8_degree wsX8_many := goodIn_r _ [16] (by decide +kernel) (by decide +kernel)
set_option maxRecDepth 20000 in
theorem gX8_degree_X8_many : GoodIn wsX8_degree (va_wsS RX8 53 yX8_many wsX8_many) := goodIn_app (goodIn_of _ (by decide +kernel)) ggX8_degree_X8_many
theorem dX8_degree_0 : decode cX8_degree 0 = .ok (.iload_n 0, 1) := by decide +kernel
theorem dX8_degree_1 : decode cX8_degree 1 = .ok (.invokestatic 49, 3) := by decide +kernel
theorem dX8_degree_4 : decode cX8_degree 4 = .ok (.invokestatic 53, 3) := by decide +kernel
theorem dX8_degree_7 : decode cX8_degree 7 = .ok (.lload_n 1, 1) := by decide +kernel
theorem dX8_degree_8 : decode cX8_degree 8 = .ok (.invokestatic 53, 3) := by decide +kernel
theorem dX8_degree_11 : decode cX8_degree 11 = .ok (.idiv, 1) := by decide +kernel
theorem dX8_degree_12 : decode cX8_degree 12 = .ok (.ireturn, 1) := by decide +kernel
set_option maxRecDepth 20000 in
theorem ggX8_isCyclic_X8_isRest : GoodIn wsX8_isCyclic wsX8_isRest := goodIn_r _ [4, 5, 6, 3, 7, 8, 9, 10] (by decide +kernel) (by decide +kernel)
set_option maxRecDepth 20000 in
theorem gX8_isCyclic_X8_isRest : GoodIn wsX8_isCyclic (va_wsS RX8 41 yX8_isRest wsX8_isRest) := goodIn_app (goodIn_of _ (by decide +kernel)) ggX8_isCyclic_X8_isRest
set_option maxRecDepth 20000 in
theorem ggX8_isCyclic_X8_with : GoodIn wsX8_isCyclic wsX8_with := goodIn_r _ [13, 14, 15, 3, 16] (by decide +kernel) (by decide +kernel)
set_option maxRecDepth 20000 in
theorem gX8_isCyclic_X8_with : GoodIn wsX8_isCyclic (va_wsS RX8 74 yX8_with wsX8_with) := goodIn_app (goodIn_of _ (by decide +kernel)) ggX8_isCyclic_X8_with
set_option maxRecDepth 20000 in
theorem ggX8_isCyclic_X8_all : GoodIn wsX8_isCyclic wsX8_all := goodIn_r _ [19, 1, 2, 3, 4, 5, 6, 7, 8, 9, 10] (by decide +kernel) (by decide +kernel)
set_option maxRecDepth 20000 in
theorem gX8_isCyclic_X8_all : GoodIn wsX8_isCyclic (va_wsS RX8 49 yX8_all wsX8_all) := goodIn_app (goodIn_of _ (by decide +kernel)) ggX8_isCyclic_X8_all
theorem dX8_isCyclic_0 : decode cX8_isCyclic 0 = .ok (.iconst 0, 1) := by decide +kernel
theorem dX8_isCyclic_1 : decode cX8_isCyclic 1 = .ok (.istore_n 3, 1) := by decide +kernel
theorem dX8_isCyclic_2 : decode cX8_isCyclic 2 = .ok (.iconst 0, 1) := by decide +kernel
theorem dX8_isCyclic_3 : decode cX8_isCyclic 3 = .ok (.istore 4, 2) := by decide +kernel
theorem dX8_isCyclic_5 : decode cX8_isCyclic 5 = .ok (.iload 4, 2) := by decide +kernel
theorem dX8_isCyclic_7 : decode cX8_isCyclic 7 = .ok (.iload_n 0, 1) := by decide +kernel
theorem dX8_isCyclic_8 : decode cX8_isCyclic 8 = .ok (.if_icmp .ge 43, 3) := by decide +kernel
theorem dX8_isCyclic_11 : decode cX8_isCyclic 11 = .ok (.iload_n 3, 1) := by decide +kernel
theorem dX8_isCyclic_12 : decode cX8_isCyclic 12 = .ok (.ifCond .ne 27, 3) := by decide +kernel
theorem dX8_isCyclic_15 : decode cX8_isCyclic 15 = .ok (.iload_n 0, 1) := by decide +kernel
theorem dX8_isCyclic_16 : decode cX8_isCyclic 16 = .ok (.iload 4, 2) := by decide +kernel
theorem dX8_isCyclic_18 : decode cX8_isCyclic 18 = .ok (.invokestatic 41, 3) := by decide +kernel
theorem dX8_isCyclic_21 : decode cX8_isCyclic 21 = .ok (.ifCond .eq 22, 3) := by decide +kernel
theorem dX8_isCyclic_24 : decode cX8_isCyclic 24 = .ok (.iload_n 0, 1) := by decide +kernel
theorem dX8_isCyclic_25 : decode cX8_isCyclic 25 = .ok (.lload_n 1, 1) := by decide +kernel
theorem dX8_isCyclic_26 : decode cX8_isCyclic 26 = .ok (.iload 4, 2) := by decide +kernel
theorem dX8_isCyclic_28 : decode cX8_isCyclic 28 = .ok (.invokestatic 74, 3) := by decide +kernel
theorem dX8_isCyclic_31 : decode cX8_isCyclic 31 = .ok (.iload_n 0, 1) := by decide +kernel
theorem dX8_isCyclic_32 : decode cX8_isCyclic 32 = .ok (.invokestatic 49, 3) := by decide +kernel
theorem dX8_isCyclic_35 : decode cX8_isCyclic 35 = .ok (.lcmp, 1) := by decide +kernel
theorem dX8_isCyclic_36 : decode cX8_isCyclic 36 = .ok (.ifCond .ne 7, 3) := by decide +kernel
theorem dX8_isCyclic_39 : decode cX8_isCyclic 39 = .ok (.iconst 1, 1) := by decide +kernel
theorem dX8_isCyclic_40 : decode cX8_isCyclic 40 = .ok (.goto 4, 3) := by decide +kernel
theorem dX8_isCyclic_43 : decode cX8_isCyclic 43 = .ok (.iconst 0, 1) := by decide +kernel
theorem dX8_isCyclic_44 : decode cX8_isCyclic 44 = .ok (.istore_n 3, 1) := by decide +kernel
theorem dX8_isCyclic_45 : decode cX8_isCyclic 45 = .ok (.iinc 4 1, 3) := by decide +kernel
theorem dX8_isCyclic_48 : decode cX8_isCyclic 48 = .ok (.goto (-43), 3) := by decide +kernel
theorem dX8_isCyclic_51 : decode cX8_isCyclic 51 = .ok (.iload_n 3, 1) := by decide +kernel
theorem dX8_isCyclic_52 : decode cX8_isCyclic 52 = .ok (.ireturn, 1) := by decide +kernel
theorem dX8_isFound_0 : decode cX8_isFound 0 = .ok (.iconst 0, 1) := by decide +kernel
theorem dX8_isFound_1 : decode cX8_isFound 1 = .ok (.istore_n 3, 1) := by decide +kernel
theorem dX8_isFound_2 : decode cX8_isFound 2 = .ok (.iconst 0, 1) := by decide +kernel
theorem dX8_isFound_3 : decode cX8_isFound 3 = .ok (.istore 4, 2) := by decide +kernel
theorem dX8_isFound_5 : decode cX8_isFound 5 = .ok (.iload 4, 2) := by decide +kernel
theorem dX8_isFound_7 : decode cX8_isFound 7 = .ok (.aload_n 0, 1) := by decide +kernel
theorem dX8_isFound_8 : decode cX8_isFound 8 = .ok (.getfield 109, 3) := by decide +kernel
theorem dX8_isFound_11 : decode cX8_isFound 11 = .ok (.if_icmp .ge 31, 3) := by decide +kernel
theorem dX8_isFound_14 : decode cX8_isFound 14 = .ok (.iload_n 3, 1) := by decide +kernel
theorem dX8_isFound_15 : decode cX8_isFound 15 = .ok (.ifCond .ne 15, 3) := by decide +kernel
theorem dX8_isFound_18 : decode cX8_isFound 18 = .ok (.aload_n 0, 1) := by decide +kernel
theorem dX8_isFound_19 : decode cX8_isFound 19 = .ok (.getfield 24, 3) := by decide +kernel
theorem dX8_isFound_22 : decode cX8_isFound 22 = .ok (.iload 4, 2) := by decide +kernel
theorem dX8_isFound_24 : decode cX8_isFound 24 = .ok (.laload, 1) := by decide +kernel
theorem dX8_isFound_25 : decode cX8_isFound 25 = .ok (.lload_n 1, 1) := by decide +kernel
theorem dX8_isFound_26 : decode cX8_isFound 26 = .ok (.lcmp, 1) := by decide +kernel
theorem dX8_isFound_27 : decode cX8_isFound 27 = .ok (.ifCond .ne 7, 3) := by decide +kernel
theorem dX8_isFound_30 : decode cX8_isFound 30 = .ok (.iconst 1, 1) := by decide +kernel
theorem dX8_isFound_31 : decode cX8_isFound 31 = .ok (.goto 4, 3) := by decide +kernel
theorem dX8_isFound_34 : decode cX8_isFound 34 = .ok (.iconst 0, 1) := by decide +kernel
theorem dX8_isFound_35 : decode cX8_isFound 35 = .ok (.istore_n 3, 1) := by decide +kernel
theorem dX8_isFound_36 : decode cX8_isFound 36 = .ok (.iinc 4 1, 3) := by decide +kernel
theorem dX8_isFound_39 : decode cX8_isFound 39 = .ok (.goto (-34), 3) := by decide +kernel
theorem dX8_isFound_42 : decode cX8_isFound 42 = .ok (.iload_n 3, 1) := by decide +kernel
theorem dX8_isFound_43 : decode cX8_isFound 43 = .ok (.ireturn, 1) := by decide +kernel
set_option maxRecDepth 20000 in
theorem ggX8_between_X8_isRest : GoodIn wsX8_between wsX8_isRest := goodIn_r _ [6, 7, 8, 5, 9, 10, 11, 12] (by decide +kernel) (by decide +kernel)
set_option maxRecDepth 20000 in
theorem gX8_between_X8_isRest : GoodIn wsX8_between (va_wsS RX8 41 yX8_isRest wsX8_isRest) := goodIn_app (goodIn_of _ (by decide +kernel)) ggX8_between_X8_isRest
set_option maxRecDepth 20000 in
theorem ggX8_between_X8_with : GoodIn wsX8_between wsX8_with := goodIn_r _ [15, 16, 17, 5, 18] (by decide +kernel) (by decide +kernel)
set_option maxRecDepth 20000 in
theorem gX8_between_X8_with : GoodIn wsX8_between (va_wsS RX8 74 yX8_with wsX8_with) := goodIn_app (goodIn_of _ (by decide +kernel)) ggX8_between_X8_with
set_option maxRecDepth 20000 in
theorem ggX8_between_X8_isFound : GoodIn wsX8_between wsX8_isFound := goodIn_r _ [22, 2, 1, 23, 24, 25, 26, 27, 28, 29, 30, 31, 32] (by decide +kernel) (by decide +kernel)
set_option maxRecDepth 20000 in
theorem gX8_between_X8_isFound : GoodIn wsX8_between (wsV RX8 113 RX8 yX8_isFound wsX8_isFound) := goodIn_app (goodIn_of _ (by decide +kernel)) ggX8_between_X8_isFound
theorem dX8_between_0 : decode cX8_between 0 = .ok (.aload_n 0, 1) := by decide +kernel
theorem dX8_between_1 : decode cX8_between 1 = .ok (.getfield 24, 3) := by decide +kernel
theorem dX8_between_4 : decode cX8_between 4 = .ok (.iconst 0, 1) := by decide +kernel
theorem dX8_between_5 : decode cX8_between 5 = .ok (.lload_n 2, 1) := by decide +kernel
theorem dX8_between_6 : decode cX8_between 6 = .ok (.lastore, 1) := by decide +kernel
theorem dX8_between_7 : decode cX8_between 7 = .ok (.aload_n 0, 1) := by decide +kernel
theorem dX8_between_8 : decode cX8_between 8 = .ok (.iconst 1, 1) := by decide +kernel
theorem dX8_between_9 : decode cX8_between 9 = .ok (.putfield 109, 3) := by decide +kernel
theorem dX8_between_12 : decode cX8_between 12 = .ok (.iconst 0, 1) := by decide +kernel
theorem dX8_between_13 : decode cX8_between 13 = .ok (.istore 4, 2) := by decide +kernel
theorem dX8_between_15 : decode cX8_between 15 = .ok (.iload 4, 2) := by decide +kernel
theorem dX8_between_17 : decode cX8_between 17 = .ok (.aload_n 0, 1) := by decide +kernel
theorem dX8_between_18 : decode cX8_between 18 = .ok (.getfield 109, 3) := by decide +kernel
theorem dX8_between_21 : decode cX8_between 21 = .ok (.if_icmp .ge 84, 3) := by decide +kernel
theorem dX8_between_24 : decode cX8_between 24 = .ok (.iconst 0, 1) := by decide +kernel
theorem dX8_between_25 : decode cX8_between 25 = .ok (.istore 5, 2) := by decide +kernel
theorem dX8_between_27 : decode cX8_between 27 = .ok (.iload 5, 2) := by decide +kernel
theorem dX8_between_29 : decode cX8_between 29 = .ok (.iload_n 1, 1) := by decide +kernel
theorem dX8_between_30 : decode cX8_between 30 = .ok (.if_icmp .ge 69, 3) := by decide +kernel
theorem dX8_between_33 : decode cX8_between 33 = .ok (.iload_n 1, 1) := by decide +kernel
theorem dX8_between_34 : decode cX8_between 34 = .ok (.iload 5, 2) := by decide +kernel
theorem dX8_between_36 : decode cX8_between 36 = .ok (.invokestatic 41, 3) := by decide +kernel
theorem dX8_between_39 : decode cX8_between 39 = .ok (.ifCond .ne 6, 3) := by decide +kernel
theorem dX8_between_42 : decode cX8_between 42 = .ok (.goto 51, 3) := by decide +kernel
theorem dX8_between_45 : decode cX8_between 45 = .ok (.iload_n 1, 1) := by decide +kernel
theorem dX8_between_46 : decode cX8_between 46 = .ok (.aload_n 0, 1) := by decide +kernel
theorem dX8_between_47 : decode cX8_between 47 = .ok (.getfield 24, 3) := by decide +kernel
theorem dX8_between_50 : decode cX8_between 50 = .ok (.iload 4, 2) := by decide +kernel
theorem dX8_between_52 : decode cX8_between 52 = .ok (.laload, 1) := by decide +kernel
theorem dX8_between_53 : decode cX8_between 53 = .ok (.iload 5, 2) := by decide +kernel
theorem dX8_between_55 : decode cX8_between 55 = .ok (.invokestatic 74, 3) := by decide +kernel
theorem dX8_between_58 : decode cX8_between 58 = .ok (.lstore 6, 2) := by decide +kernel
theorem dX8_between_60 : decode cX8_between 60 = .ok (.aload_n 0, 1) := by decide +kernel
theorem dX8_between_61 : decode cX8_between 61 = .ok (.lload 6, 2) := by decide +kernel
theorem dX8_between_63 : decode cX8_between 63 = .ok (.invokevirtual 113, 3) := by decide +kernel
theorem dX8_between_66 : decode cX8_between 66 = .ok (.ifCond .eq 6, 3) := by decide +kernel
theorem dX8_between_69 : decode cX8_between 69 = .ok (.goto 24, 3) := by decide +kernel
theorem dX8_between_72 : decode cX8_between 72 = .ok (.aload_n 0, 1) := by decide +kernel
theorem dX8_between_73 : decode cX8_between 73 = .ok (.getfield 24, 3) := by decide +kernel
theorem dX8_between_76 : decode cX8_between 76 = .ok (.aload_n 0, 1) := by decide +kernel
theorem dX8_between_77 : decode cX8_between 77 = .ok (.getfield 109, 3) := by decide +kernel
theorem dX8_between_80 : decode cX8_between 80 = .ok (.lload 6, 2) := by decide +kernel
theorem dX8_between_82 : decode cX8_between 82 = .ok (.lastore, 1) := by decide +kernel
theorem dX8_between_83 : decode cX8_between 83 = .ok (.aload_n 0, 1) := by decide +kernel
theorem dX8_between_84 : decode cX8_between 84 = .ok (.dup, 1) := by decide +kernel
theorem dX8_between_85 : decode cX8_between 85 = .ok (.getfield 109, 3) := by decide +kernel
theorem dX8_between_88 : decode cX8_between 88 = .ok (.iconst 1, 1) := by decide +kernel
theorem dX8_between_89 : decode cX8_between 89 = .ok (.iadd, 1) := by decide +kernel
theorem dX8_between_90 : decode cX8_between 90 = .ok (.putfield 109, 3) := by decide +kernel
theorem dX8_between_93 : decode cX8_between 93 = .ok (.iinc 5 1, 3) := by decide +kernel
theorem dX8_between_96 : decode cX8_between 96 = .ok (.goto (-69), 3) := by decide +kernel
theorem dX8_between_99 : decode cX8_between 99 = .ok (.iinc 4 1, 3) := by decide +kernel
theorem dX8_between_102 : decode cX8_between 102 = .ok (.goto (-87), 3) := by decide +kernel
theorem dX8_between_105 : decode cX8_between 105 = .ok (.return_, 1) := by decide +kernel
theorem dX8_isReal_0 : decode cX8_isReal 0 = .ok (.iload_n 0, 1) := by decide +kernel
theorem dX8_isReal_1 : decode cX8_isReal 1 = .ok (.iconst 1, 1) := by decide +kernel
theorem dX8_isReal_2 : decode cX8_isReal 2 = .ok (.if_icmp .eq 15, 3) := by decide +kernel
