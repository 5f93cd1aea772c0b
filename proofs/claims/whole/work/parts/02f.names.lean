theorem dX5_init_0 : decode cX5_init 0 = .ok (.aload_n 0, 1) := by decide +kernel
theorem dX5_init_1 : decode cX5_init 1 = .ok (.invokespecial 3, 3) := by decide +kernel
theorem dX5_init_4 : decode cX5_init 4 = .ok (.aload_n 0, 1) := by decide +kernel
theorem dX5_init_5 : decode cX5_init 5 = .ok (.bipush 63, 2) := by decide +kernel
theorem dX5_init_7 : decode cX5_init 7 = .ok (.newarray .long, 2) := by decide +kernel
theorem dX5_init_9 : decode cX5_init 9 = .ok (.putfield 9, 3) := by decide +kernel
theorem dX5_init_12 : decode cX5_init 12 = .ok (.aload_n 0, 1) := by decide +kernel
theorem dX5_init_13 : decode cX5_init 13 = .ok (.bipush 63, 2) := by decide +kernel
theorem dX5_init_15 : decode cX5_init 15 = .ok (.newarray .long, 2) := by decide +kernel
theorem dX5_init_17 : decode cX5_init 17 = .ok (.putfield 15, 3) := by decide +kernel
theorem dX5_init_20 : decode cX5_init 20 = .ok (.aload_n 0, 1) := by decide +kernel
theorem dX5_init_21 : decode cX5_init 21 = .ok (.bipush 63, 2) := by decide +kernel
theorem dX5_init_23 : decode cX5_init 23 = .ok (.newarray .long, 2) := by decide +kernel
theorem dX5_init_25 : decode cX5_init 25 = .ok (.putfield 18, 3) := by decide +kernel
theorem dX5_init_28 : decode cX5_init 28 = .ok (.aload_n 0, 1) := by decide +kernel
theorem dX5_init_29 : decode cX5_init 29 = .ok (.bipush 9, 2) := by decide +kernel
theorem dX5_init_31 : decode cX5_init 31 = .ok (.newarray .long, 2) := by decide +kernel
theorem dX5_init_33 : decode cX5_init 33 = .ok (.putfield 21, 3) := by decide +kernel
theorem dX5_init_36 : decode cX5_init 36 = .ok (.aload_n 0, 1) := by decide +kernel
theorem dX5_init_37 : decode cX5_init 37 = .ok (.bipush 9, 2) := by decide +kernel
theorem dX5_init_39 : decode cX5_init 39 = .ok (.newarray .long, 2) := by decide +kernel
theorem dX5_init_41 : decode cX5_init 41 = .ok (.putfield 24, 3) := by decide +kernel
theorem dX5_init_44 : decode cX5_init 44 = .ok (.return_, 1) := by decide +kernel
theorem dX5_degree_0 : decode cX5_degree 0 = .ok (.aload_n 0, 1) := by decide +kernel
theorem dX5_degree_1 : decode cX5_degree 1 = .ok (.getfield 27, 3) := by decide +kernel
theorem dX5_degree_4 : decode cX5_degree 4 = .ok (.ireturn, 1) := by decide +kernel
theorem dX5_numberAt_0 : decode cX5_numberAt 0 = .ok (.aload_n 0, 1) := by decide +kernel
theorem dX5_numberAt_1 : decode cX5_numberAt 1 = .ok (.getfield 27, 3) := by decide +kernel
theorem dX5_numberAt_4 : decode cX5_numberAt 4 = .ok (.iload_n 1, 1) := by decide +kernel
theorem dX5_numberAt_5 : decode cX5_numberAt 5 = .ok (.isub, 1) := by decide +kernel
theorem dX5_numberAt_6 : decode cX5_numberAt 6 = .ok (.istore_n 2, 1) := by decide +kernel
theorem dX5_numberAt_7 : decode cX5_numberAt 7 = .ok (.iload_n 2, 1) := by decide +kernel
theorem dX5_numberAt_8 : decode cX5_numberAt 8 = .ok (.ifCond .lt 21, 3) := by decide +kernel
theorem dX5_numberAt_11 : decode cX5_numberAt 11 = .ok (.iload_n 2, 1) := by decide +kernel
theorem dX5_numberAt_12 : decode cX5_numberAt 12 = .ok (.aload_n 0, 1) := by decide +kernel
theorem dX5_numberAt_13 : decode cX5_numberAt 13 = .ok (.getfield 24, 3) := by decide +kernel
theorem dX5_numberAt_16 : decode cX5_numberAt 16 = .ok (.arraylength, 1) := by decide +kernel
theorem dX5_numberAt_17 : decode cX5_numberAt 17 = .ok (.if_icmp .ge 12, 3) := by decide +kernel
theorem dX5_numberAt_20 : decode cX5_numberAt 20 = .ok (.aload_n 0, 1) := by decide +kernel
theorem dX5_numberAt_21 : decode cX5_numberAt 21 = .ok (.getfield 24, 3) := by decide +kernel
theorem dX5_numberAt_24 : decode cX5_numberAt 24 = .ok (.iload_n 2, 1) := by decide +kernel
theorem dX5_numberAt_25 : decode cX5_numberAt 25 = .ok (.laload, 1) := by decide +kernel
theorem dX5_numberAt_26 : decode cX5_numberAt 26 = .ok (.goto 4, 3) := by decide +kernel
theorem dX5_numberAt_29 : decode cX5_numberAt 29 = .ok (.lconst 0, 1) := by decide +kernel
theorem dX5_numberAt_30 : decode cX5_numberAt 30 = .ok (.lreturn, 1) := by decide +kernel
set_option maxRecDepth 20000 in
theorem ggX5_find_X3_degree : GoodIn wsX5_find wsX3_degree := goodIn_r _ [5, 6, 7, 4, 8, 9, 10, 11, 12, 13, 14, 15, 16, 17, 18, 19, 20, 21, 22, 23, 24, 25, 26, 27, 28] (by decide +kernel) (by decide +kernel)
set_option maxRecDepth 20000 in
theorem gX5_find_X3_degree : GoodIn wsX5_find (va_wsS RX5 31 yX3_degree wsX3_degree) := goodIn_app (goodIn_of _ (by decide +kernel)) ggX5_find_X3_degree
set_option maxRecDepth 20000 in
theorem ggX5_find_X7_isM : GoodIn wsX5_find wsX7_isM := goodIn_r _ [31] (by decide +kernel) (by decide +kernel)
set_option maxRecDepth 20000 in
theorem gX5_find_X7_isM_n36 : GoodIn wsX5_find (wsX7_isM) := ggX5_find_X7_isM
set_option maxRecDepth 20000 in
theorem ggX5_find_X7_isDegree : GoodIn wsX5_find wsX7_isDegree := goodIn_r _ [33] (by decide +kernel) (by decide +kernel)
set_option maxRecDepth 20000 in
theorem gX5_find_X7_isDegree_n40 : GoodIn wsX5_find (wsX7_isDegree) := ggX5_find_X7_isDegree
set_option maxRecDepth 20000 in
theorem ggX5_find_X5_fillTraces : GoodIn wsX5_find wsX5_fillTraces := goodIn_r _ [38, 39, 40, 41, 11, 42, 43, 27, 28, 44, 45, 46, 47, 48, 49, 50, 51, 52, 53, 54, 101, 102, 103, 104, 105, 106] (by decide +kernel) (by decide +kernel)
set_option maxRecDepth 20000 in
theorem gX5_find_X5_fillTraces : GoodIn wsX5_find (wsV RX5 43 RX5 yX5_fillTraces wsX5_fillTraces) := goodIn_app (goodIn_of _ (by decide +kernel)) ggX5_find_X5_fillTraces
set_option maxRecDepth 20000 in
theorem ggX5_find_X5_hasAlike : GoodIn wsX5_find wsX5_hasAlike := goodIn_r _ [58, 59, 60, 61, 62, 37, 63, 64, 65, 4, 66, 67, 68, 11, 69, 70, 71, 72, 73, 39, 74, 7, 8, 9, 10, 12, 13, 14, 15, 75, 76, 77, 78, 79, 101, 102, 103, 104, 105, 106] (by decide +kernel) (by decide +kernel)
set_option maxRecDepth 20000 in
theorem gX5_find_X5_hasAlike : GoodIn wsX5_find (wsV RX5 47 RX5 yX5_hasAlike wsX5_hasAlike) := goodIn_app (goodIn_of _ (by decide +kernel)) ggX5_find_X5_hasAlike
set_option maxRecDepth 20000 in
theorem ggX5_find_X5_fillTogether : GoodIn wsX5_find wsX5_fillTogether := goodIn_r _ [83, 84, 1, 85, 86, 17, 4, 18, 19, 20, 21, 22, 23, 24, 25, 87, 88, 89, 37, 90, 91, 64, 65, 66, 67, 68, 11, 69, 92, 93, 94, 95, 70, 71, 72, 73, 39, 101, 102, 103, 104, 105, 106] (by decide +kernel) (by decide +kernel)
set_option maxRecDepth 20000 in
theorem gX5_find_X5_fillTogether : GoodIn wsX5_find (wsV RX5 51 RX5 yX5_fillTogether wsX5_fillTogether) := goodIn_app (goodIn_of _ (by decide +kernel)) ggX5_find_X5_fillTogether
set_option maxRecDepth 20000 in
theorem ggX5_find_X5_fillNumbers : GoodIn wsX5_find wsX5_fillNumbers := goodIn_r _ [99, 100, 1, 85, 101, 102, 103, 104, 105, 106] (by decide +kernel) (by decide +kernel)
set_option maxRecDepth 20000 in
theorem gX5_find_X5_fillNumbers : GoodIn wsX5_find (wsV RX5 55 RX5 yX5_fillNumbers wsX5_fillNumbers) := goodIn_app (goodIn_of _ (by decide +kernel)) ggX5_find_X5_fillNumbers
theorem dX5_find_0 : decode cX5_find 0 = .ok (.aload_n 0, 1) := by decide +kernel
theorem dX5_find_1 : decode cX5_find 1 = .ok (.lload_n 1, 1) := by decide +kernel
theorem dX5_find_2 : decode cX5_find 2 = .ok (.iload_n 3, 1) := by decide +kernel
theorem dX5_find_3 : decode cX5_find 3 = .ok (.invokestatic 31, 3) := by decide +kernel
theorem dX5_find_6 : decode cX5_find 6 = .ok (.putfield 27, 3) := by decide +kernel
theorem dX5_find_9 : decode cX5_find 9 = .ok (.iload_n 3, 1) := by decide +kernel
theorem dX5_find_10 : decode cX5_find 10 = .ok (.invokestatic 36, 3) := by decide +kernel
theorem dX5_find_13 : decode cX5_find 13 = .ok (.ifCond .eq 13, 3) := by decide +kernel
theorem dX5_find_16 : decode cX5_find 16 = .ok (.aload_n 0, 1) := by decide +kernel
theorem dX5_find_17 : decode cX5_find 17 = .ok (.getfield 27, 3) := by decide +kernel
theorem dX5_find_20 : decode cX5_find 20 = .ok (.invokestatic 40, 3) := by decide +kernel
theorem dX5_find_23 : decode cX5_find 23 = .ok (.ifCond .ne 5, 3) := by decide +kernel
theorem dX5_find_26 : decode cX5_find 26 = .ok (.iconst 0, 1) := by decide +kernel
theorem dX5_find_27 : decode cX5_find 27 = .ok (.ireturn, 1) := by decide +kernel
theorem dX5_find_28 : decode cX5_find 28 = .ok (.aload_n 0, 1) := by decide +kernel
theorem dX5_find_29 : decode cX5_find 29 = .ok (.iload_n 3, 1) := by decide +kernel
theorem dX5_find_30 : decode cX5_find 30 = .ok (.invokevirtual 43, 3) := by decide +kernel
theorem dX5_find_33 : decode cX5_find 33 = .ok (.aload_n 0, 1) := by decide +kernel
theorem dX5_find_34 : decode cX5_find 34 = .ok (.lload_n 1, 1) := by decide +kernel
theorem dX5_find_35 : decode cX5_find 35 = .ok (.iload_n 3, 1) := by decide +kernel
theorem dX5_find_36 : decode cX5_find 36 = .ok (.invokevirtual 47, 3) := by decide +kernel
theorem dX5_find_39 : decode cX5_find 39 = .ok (.ifCond .eq 5, 3) := by decide +kernel
theorem dX5_find_42 : decode cX5_find 42 = .ok (.iconst 0, 1) := by decide +kernel
theorem dX5_find_43 : decode cX5_find 43 = .ok (.ireturn, 1) := by decide +kernel
theorem dX5_find_44 : decode cX5_find 44 = .ok (.aload_n 0, 1) := by decide +kernel
theorem dX5_find_45 : decode cX5_find 45 = .ok (.lload_n 1, 1) := by decide +kernel
theorem dX5_find_46 : decode cX5_find 46 = .ok (.iload_n 3, 1) := by decide +kernel
theorem dX5_find_47 : decode cX5_find 47 = .ok (.invokevirtual 51, 3) := by decide +kernel
theorem dX5_find_50 : decode cX5_find 50 = .ok (.aload_n 0, 1) := by decide +kernel
theorem dX5_find_51 : decode cX5_find 51 = .ok (.invokevirtual 55, 3) := by decide +kernel
theorem dX5_find_54 : decode cX5_find 54 = .ok (.iconst 1, 1) := by decide +kernel
theorem dX5_find_55 : decode cX5_find 55 = .ok (.ireturn, 1) := by decide +kernel
set_option maxRecDepth 20000 in
theorem ggX5_valueBy_X5_numberAt : GoodIn wsX5_valueBy wsX5_numberAt := goodIn_r _ [6, 1, 7, 12, 13, 14, 15, 16, 17] (by decide +kernel) (by decide +kernel)
set_option maxRecDepth 20000 in
theorem gX5_valueBy_X5_numberAt : GoodIn wsX5_valueBy (wsV RX5 58 RX5 yX5_numberAt wsX5_numberAt) := goodIn_app (goodIn_of _ (by decide +kernel)) ggX5_valueBy_X5_numberAt
set_option maxRecDepth 20000 in
theorem ggX5_valueBy_J9_floorMod_f86c9 : GoodIn wsX5_valueBy wsJ9_floorMod_f86c9 := goodIn_r _ [11] (by decide +kernel) (by decide +kernel)
set_option maxRecDepth 20000 in
theorem gX5_valueBy_J9_floorMod_f86c9 : GoodIn wsX5_valueBy (va_wsS RX5 62 yJ9_floorMod_f86c9 wsJ9_floorMod_f86c9) := goodIn_app (goodIn_of _ (by decide +kernel)) ggX5_valueBy_J9_floorMod_f86c9
theorem dX5_valueBy_0 : decode cX5_valueBy 0 = .ok (.iload_n 1, 1) := by decide +kernel
theorem dX5_valueBy_1 : decode cX5_valueBy 1 = .ok (.iconst 2, 1) := by decide +kernel
theorem dX5_valueBy_2 : decode cX5_valueBy 2 = .ok (.if_icmp .ge 5, 3) := by decide +kernel
theorem dX5_valueBy_5 : decode cX5_valueBy 5 = .ok (.iconst 0, 1) := by decide +kernel
theorem dX5_valueBy_6 : decode cX5_valueBy 6 = .ok (.ireturn, 1) := by decide +kernel
theorem dX5_valueBy_7 : decode cX5_valueBy 7 = .ok (.lconst 0, 1) := by decide +kernel
theorem dX5_valueBy_8 : decode cX5_valueBy 8 = .ok (.lstore_n 3, 1) := by decide +kernel
theorem dX5_valueBy_9 : decode cX5_valueBy 9 = .ok (.aload_n 0, 1) := by decide +kernel
theorem dX5_valueBy_10 : decode cX5_valueBy 10 = .ok (.getfield 27, 3) := by decide +kernel
theorem dX5_valueBy_13 : decode cX5_valueBy 13 = .ok (.istore 5, 2) := by decide +kernel
theorem dX5_valueBy_15 : decode cX5_valueBy 15 = .ok (.iload 5, 2) := by decide +kernel
theorem dX5_valueBy_17 : decode cX5_valueBy 17 = .ok (.ifCond .lt 26, 3) := by decide +kernel
theorem dX5_valueBy_20 : decode cX5_valueBy 20 = .ok (.lload_n 3, 1) := by decide +kernel
theorem dX5_valueBy_21 : decode cX5_valueBy 21 = .ok (.iload_n 2, 1) := by decide +kernel
theorem dX5_valueBy_22 : decode cX5_valueBy 22 = .ok (.i2l, 1) := by decide +kernel
theorem dX5_valueBy_23 : decode cX5_valueBy 23 = .ok (.lmul, 1) := by decide +kernel
theorem dX5_valueBy_24 : decode cX5_valueBy 24 = .ok (.aload_n 0, 1) := by decide +kernel
theorem dX5_valueBy_25 : decode cX5_valueBy 25 = .ok (.iload 5, 2) := by decide +kernel
theorem dX5_valueBy_27 : decode cX5_valueBy 27 = .ok (.invokevirtual 58, 3) := by decide +kernel
theorem dX5_valueBy_30 : decode cX5_valueBy 30 = .ok (.ladd, 1) := by decide +kernel
theorem dX5_valueBy_31 : decode cX5_valueBy 31 = .ok (.iload_n 1, 1) := by decide +kernel
theorem dX5_valueBy_32 : decode cX5_valueBy 32 = .ok (.i2l, 1) := by decide +kernel
theorem dX5_valueBy_33 : decode cX5_valueBy 33 = .ok (.invokestatic 62, 3) := by decide +kernel
theorem dX5_valueBy_36 : decode cX5_valueBy 36 = .ok (.lstore_n 3, 1) := by decide +kernel
theorem dX5_valueBy_37 : decode cX5_valueBy 37 = .ok (.iinc 5 (-1), 3) := by decide +kernel
theorem dX5_valueBy_40 : decode cX5_valueBy 40 = .ok (.goto (-25), 3) := by decide +kernel
theorem dX5_valueBy_43 : decode cX5_valueBy 43 = .ok (.lload_n 3, 1) := by decide +kernel
theorem dX5_valueBy_44 : decode cX5_valueBy 44 = .ok (.l2i, 1) := by decide +kernel
theorem dX5_valueBy_45 : decode cX5_valueBy 45 = .ok (.ireturn, 1) := by decide +kernel
set_option maxRecDepth 20000 in
theorem ggX5_fillTraces_X6_goesInto : GoodIn wsX5_fillTraces wsX6_goesInto := goodIn_r _ [5] (by decide +kernel) (by decide +kernel)
set_option maxRecDepth 20000 in
theorem gX5_fillTraces_X6_goesInto : GoodIn wsX5_fillTraces (va_wsS RX5 68 yX6_goesInto wsX6_goesInto) := goodIn_app (goodIn_of _ (by decide +kernel)) ggX5_fillTraces_X6_goesInto
set_option maxRecDepth 20000 in
theorem ggX5_fillTraces_X6_quotient : GoodIn wsX5_fillTraces wsX6_quotient := goodIn_r _ [8] (by decide +kernel) (by decide +kernel)
set_option maxRecDepth 20000 in
theorem gX5_fillTraces_X6_quotient : GoodIn wsX5_fillTraces (va_wsS RX5 74 yX6_quotient wsX6_quotient) := goodIn_app (goodIn_of _ (by decide +kernel)) ggX5_fillTraces_X6_quotient
set_option maxRecDepth 20000 in
theorem ggX5_fillTraces_X6_signOfPrimes : GoodIn wsX5_fillTraces wsX6_signOfPrimes := goodIn_r _ [11, 12, 3, 4, 5, 13, 14, 15, 16, 17, 18, 19, 7, 8] (by decide +kernel) (by decide +kernel)
set_option maxRecDepth 20000 in
theorem gX5_fillTraces_X6_signOfPrimes : GoodIn wsX5_fillTraces (va_wsS RX5 78 yX6_signOfPrimes wsX6_signOfPrimes) := goodIn_app (goodIn_of _ (by decide +kernel)) ggX5_fillTraces_X6_signOfPrimes
theorem dX5_fillTraces_0 : decode cX5_fillTraces 0 = .ok (.iconst 0, 1) := by decide +kernel
theorem dX5_fillTraces_1 : decode cX5_fillTraces 1 = .ok (.istore_n 2, 1) := by decide +kernel
theorem dX5_fillTraces_2 : decode cX5_fillTraces 2 = .ok (.iload_n 2, 1) := by decide +kernel
theorem dX5_fillTraces_3 : decode cX5_fillTraces 3 = .ok (.aload_n 0, 1) := by decide +kernel
theorem dX5_fillTraces_4 : decode cX5_fillTraces 4 = .ok (.getfield 9, 3) := by decide +kernel
theorem dX5_fillTraces_7 : decode cX5_fillTraces 7 = .ok (.arraylength, 1) := by decide +kernel
theorem dX5_fillTraces_8 : decode cX5_fillTraces 8 = .ok (.if_icmp .ge 16, 3) := by decide +kernel
theorem dX5_fillTraces_11 : decode cX5_fillTraces 11 = .ok (.aload_n 0, 1) := by decide +kernel
theorem dX5_fillTraces_12 : decode cX5_fillTraces 12 = .ok (.getfield 9, 3) := by decide +kernel
theorem dX5_fillTraces_15 : decode cX5_fillTraces 15 = .ok (.iload_n 2, 1) := by decide +kernel
theorem dX5_fillTraces_16 : decode cX5_fillTraces 16 = .ok (.lconst 0, 1) := by decide +kernel
theorem dX5_fillTraces_17 : decode cX5_fillTraces 17 = .ok (.lastore, 1) := by decide +kernel
theorem dX5_fillTraces_18 : decode cX5_fillTraces 18 = .ok (.iinc 2 1, 3) := by decide +kernel
theorem dX5_fillTraces_21 : decode cX5_fillTraces 21 = .ok (.goto (-19), 3) := by decide +kernel
theorem dX5_fillTraces_24 : decode cX5_fillTraces 24 = .ok (.iconst 1, 1) := by decide +kernel
theorem dX5_fillTraces_25 : decode cX5_fillTraces 25 = .ok (.istore_n 2, 1) := by decide +kernel
theorem dX5_fillTraces_26 : decode cX5_fillTraces 26 = .ok (.iload_n 2, 1) := by decide +kernel
theorem dX5_fillTraces_27 : decode cX5_fillTraces 27 = .ok (.iload_n 1, 1) := by decide +kernel
theorem dX5_fillTraces_28 : decode cX5_fillTraces 28 = .ok (.if_icmp .gt 68, 3) := by decide +kernel
theorem dX5_fillTraces_31 : decode cX5_fillTraces 31 = .ok (.iload_n 2, 1) := by decide +kernel
theorem dX5_fillTraces_32 : decode cX5_fillTraces 32 = .ok (.iload_n 1, 1) := by decide +kernel
theorem dX5_fillTraces_33 : decode cX5_fillTraces 33 = .ok (.invokestatic 68, 3) := by decide +kernel
theorem dX5_fillTraces_36 : decode cX5_fillTraces 36 = .ok (.ifCond .eq 54, 3) := by decide +kernel
theorem dX5_fillTraces_39 : decode cX5_fillTraces 39 = .ok (.iload_n 2, 1) := by decide +kernel
theorem dX5_fillTraces_40 : decode cX5_fillTraces 40 = .ok (.iload_n 1, 1) := by decide +kernel
theorem dX5_fillTraces_41 : decode cX5_fillTraces 41 = .ok (.iload_n 2, 1) := by decide +kernel
theorem dX5_fillTraces_42 : decode cX5_fillTraces 42 = .ok (.invokestatic 74, 3) := by decide +kernel
theorem dX5_fillTraces_45 : decode cX5_fillTraces 45 = .ok (.invokestatic 78, 3) := by decide +kernel
theorem dX5_fillTraces_48 : decode cX5_fillTraces 48 = .ok (.imul, 1) := by decide +kernel
theorem dX5_fillTraces_49 : decode cX5_fillTraces 49 = .ok (.i2l, 1) := by decide +kernel
theorem dX5_fillTraces_50 : decode cX5_fillTraces 50 = .ok (.lstore_n 3, 1) := by decide +kernel
theorem dX5_fillTraces_51 : decode cX5_fillTraces 51 = .ok (.iconst 0, 1) := by decide +kernel
theorem dX5_fillTraces_52 : decode cX5_fillTraces 52 = .ok (.istore 5, 2) := by decide +kernel
theorem dX5_fillTraces_54 : decode cX5_fillTraces 54 = .ok (.iload 5, 2) := by decide +kernel
theorem dX5_fillTraces_56 : decode cX5_fillTraces 56 = .ok (.iload_n 1, 1) := by decide +kernel
theorem dX5_fillTraces_57 : decode cX5_fillTraces 57 = .ok (.if_icmp .ge 33, 3) := by decide +kernel
theorem dX5_fillTraces_60 : decode cX5_fillTraces 60 = .ok (.iload 5, 2) := by decide +kernel
theorem dX5_fillTraces_62 : decode cX5_fillTraces 62 = .ok (.aload_n 0, 1) := by decide +kernel
theorem dX5_fillTraces_63 : decode cX5_fillTraces 63 = .ok (.getfield 9, 3) := by decide +kernel
theorem dX5_fillTraces_66 : decode cX5_fillTraces 66 = .ok (.arraylength, 1) := by decide +kernel
theorem dX5_fillTraces_67 : decode cX5_fillTraces 67 = .ok (.if_icmp .ge 23, 3) := by decide +kernel
theorem dX5_fillTraces_70 : decode cX5_fillTraces 70 = .ok (.aload_n 0, 1) := by decide +kernel
theorem dX5_fillTraces_71 : decode cX5_fillTraces 71 = .ok (.getfield 9, 3) := by decide +kernel
theorem dX5_fillTraces_74 : decode cX5_fillTraces 74 = .ok (.iload 5, 2) := by decide +kernel
theorem dX5_fillTraces_76 : decode cX5_fillTraces 76 = .ok (.dup2, 1) := by decide +kernel
theorem dX5_fillTraces_77 : decode cX5_fillTraces 77 = .ok (.laload, 1) := by decide +kernel
theorem dX5_fillTraces_78 : decode cX5_fillTraces 78 = .ok (.lload_n 3, 1) := by decide +kernel
theorem dX5_fillTraces_79 : decode cX5_fillTraces 79 = .ok (.ladd, 1) := by decide +kernel
theorem dX5_fillTraces_80 : decode cX5_fillTraces 80 = .ok (.lastore, 1) := by decide +kernel
theorem dX5_fillTraces_81 : decode cX5_fillTraces 81 = .ok (.iload 5, 2) := by decide +kernel
theorem dX5_fillTraces_83 : decode cX5_fillTraces 83 = .ok (.iload_n 2, 1) := by decide +kernel
theorem dX5_fillTraces_84 : decode cX5_fillTraces 84 = .ok (.iadd, 1) := by decide +kernel
theorem dX5_fillTraces_85 : decode cX5_fillTraces 85 = .ok (.istore 5, 2) := by decide +kernel
theorem dX5_fillTraces_87 : decode cX5_fillTraces 87 = .ok (.goto (-33), 3) := by decide +kernel
theorem dX5_fillTraces_90 : decode cX5_fillTraces 90 = .ok (.iinc 2 1, 3) := by decide +kernel
theorem dX5_fillTraces_93 : decode cX5_fillTraces 93 = .ok (.goto (-67), 3) := by decide +kernel
theorem dX5_fillTraces_96 : decode cX5_fillTraces 96 = .ok (.return_, 1) := by decide +kernel
theorem dX5_traceAt_0 : decode cX5_traceAt 0 = .ok (.iload_n 1, 1) := by decide +kernel
theorem dX5_traceAt_1 : decode cX5_traceAt 1 = .ok (.ifCond .lt 21, 3) := by decide +kernel
theorem dX5_traceAt_4 : decode cX5_traceAt 4 = .ok (.iload_n 1, 1) := by decide +kernel
theorem dX5_traceAt_5 : decode cX5_traceAt 5 = .ok (.aload_n 0, 1) := by decide +kernel
theorem dX5_traceAt_6 : decode cX5_traceAt 6 = .ok (.getfield 9, 3) := by decide +kernel
theorem dX5_traceAt_9 : decode cX5_traceAt 9 = .ok (.arraylength, 1) := by decide +kernel
theorem dX5_traceAt_10 : decode cX5_traceAt 10 = .ok (.if_icmp .ge 12, 3) := by decide +kernel
theorem dX5_traceAt_13 : decode cX5_traceAt 13 = .ok (.aload_n 0, 1) := by decide +kernel
theorem dX5_traceAt_14 : decode cX5_traceAt 14 = .ok (.getfield 9, 3) := by decide +kernel
theorem dX5_traceAt_17 : decode cX5_traceAt 17 = .ok (.iload_n 1, 1) := by decide +kernel
theorem dX5_traceAt_18 : decode cX5_traceAt 18 = .ok (.laload, 1) := by decide +kernel
theorem dX5_traceAt_19 : decode cX5_traceAt 19 = .ok (.goto 4, 3) := by decide +kernel
theorem dX5_traceAt_22 : decode cX5_traceAt 22 = .ok (.lconst 0, 1) := by decide +kernel
theorem dX5_traceAt_23 : decode cX5_traceAt 23 = .ok (.lreturn, 1) := by decide +kernel
set_option maxRecDepth 20000 in
theorem ggX5_hasAlike_X5_pairs : GoodIn wsX5_hasAlike wsX5_pairs := goodIn_r _ [6, 7, 8, 9, 10, 11, 12, 13, 14, 15, 16, 17, 5, 18, 19, 34, 35, 36, 37, 38, 39] (by decide +kernel) (by decide +kernel)
set_option maxRecDepth 20000 in
theorem gX5_hasAlike_X5_pairs : GoodIn wsX5_hasAlike (wsV RX5 82 RX5 yX5_pairs wsX5_pairs) := goodIn_app (goodIn_of _ (by decide +kernel)) ggX5_hasAlike_X5_pairs
set_option maxRecDepth 20000 in
theorem ggX5_hasAlike_X3_all : GoodIn wsX5_hasAlike wsX3_all := goodIn_r _ [22, 23, 24, 13, 25, 26, 27, 9, 28] (by decide +kernel) (by decide +kernel)
set_option maxRecDepth 20000 in
theorem gX5_hasAlike_X3_all : GoodIn wsX5_hasAlike (va_wsS RX5 86 yX3_all wsX3_all) := goodIn_app (goodIn_of _ (by decide +kernel)) ggX5_hasAlike_X3_all
set_option maxRecDepth 20000 in
theorem ggX5_hasAlike_X3_has : GoodIn wsX5_hasAlike wsX3_has := goodIn_r _ [10] (by decide +kernel) (by decide +kernel)
set_option maxRecDepth 20000 in
theorem gX5_hasAlike_X3_has : GoodIn wsX5_hasAlike (va_wsS RX5 91 yX3_has wsX3_has) := goodIn_app (goodIn_of _ (by decide +kernel)) ggX5_hasAlike_X3_has
set_option maxRecDepth 20000 in
theorem ggX5_hasAlike_X3_times : GoodIn wsX5_hasAlike wsX3_times := goodIn_r _ [31, 32, 8, 9, 10, 33, 12, 13, 14, 26, 27, 28] (by decide +kernel) (by decide +kernel)
set_option maxRecDepth 20000 in
theorem gX5_hasAlike_X3_times : GoodIn wsX5_hasAlike (va_wsS RX5 94 yX3_times wsX3_times) := goodIn_app (goodIn_of _ (by decide +kernel)) ggX5_hasAlike_X3_times
theorem dX5_hasAlike_0 : decode cX5_hasAlike 0 = .ok (.aload_n 0, 1) := by decide +kernel
theorem dX5_hasAlike_1 : decode cX5_hasAlike 1 = .ok (.lload_n 1, 1) := by decide +kernel
theorem dX5_hasAlike_2 : decode cX5_hasAlike 2 = .ok (.lload_n 1, 1) := by decide +kernel
theorem dX5_hasAlike_3 : decode cX5_hasAlike 3 = .ok (.iload_n 3, 1) := by decide +kernel
theorem dX5_hasAlike_4 : decode cX5_hasAlike 4 = .ok (.invokevirtual 82, 3) := by decide +kernel
theorem dX5_hasAlike_7 : decode cX5_hasAlike 7 = .ok (.lstore 4, 2) := by decide +kernel
theorem dX5_hasAlike_9 : decode cX5_hasAlike 9 = .ok (.iload_n 3, 1) := by decide +kernel
theorem dX5_hasAlike_10 : decode cX5_hasAlike 10 = .ok (.invokestatic 86, 3) := by decide +kernel
theorem dX5_hasAlike_13 : decode cX5_hasAlike 13 = .ok (.lload_n 1, 1) := by decide +kernel
theorem dX5_hasAlike_14 : decode cX5_hasAlike 14 = .ok (.ldc2_w 89, 3) := by decide +kernel
theorem dX5_hasAlike_17 : decode cX5_hasAlike 17 = .ok (.lxor, 1) := by decide +kernel
theorem dX5_hasAlike_18 : decode cX5_hasAlike 18 = .ok (.land, 1) := by decide +kernel
theorem dX5_hasAlike_19 : decode cX5_hasAlike 19 = .ok (.lstore 6, 2) := by decide +kernel
theorem dX5_hasAlike_21 : decode cX5_hasAlike 21 = .ok (.iconst 0, 1) := by decide +kernel
theorem dX5_hasAlike_22 : decode cX5_hasAlike 22 = .ok (.istore 8, 2) := by decide +kernel
theorem dX5_hasAlike_24 : decode cX5_hasAlike 24 = .ok (.iload 8, 2) := by decide +kernel
theorem dX5_hasAlike_26 : decode cX5_hasAlike 26 = .ok (.iload_n 3, 1) := by decide +kernel
theorem dX5_hasAlike_27 : decode cX5_hasAlike 27 = .ok (.if_icmp .ge 55, 3) := by decide +kernel
theorem dX5_hasAlike_30 : decode cX5_hasAlike 30 = .ok (.lload 6, 2) := by decide +kernel
theorem dX5_hasAlike_32 : decode cX5_hasAlike 32 = .ok (.iload 8, 2) := by decide +kernel
theorem dX5_hasAlike_34 : decode cX5_hasAlike 34 = .ok (.invokestatic 91, 3) := by decide +kernel
theorem dX5_hasAlike_37 : decode cX5_hasAlike 37 = .ok (.ifCond .eq 39, 3) := by decide +kernel
theorem dX5_hasAlike_40 : decode cX5_hasAlike 40 = .ok (.lload_n 1, 1) := by decide +kernel
theorem dX5_hasAlike_41 : decode cX5_hasAlike 41 = .ok (.iload 8, 2) := by decide +kernel
theorem dX5_hasAlike_43 : decode cX5_hasAlike 43 = .ok (.iload_n 3, 1) := by decide +kernel
theorem dX5_hasAlike_44 : decode cX5_hasAlike 44 = .ok (.invokestatic 94, 3) := by decide +kernel
theorem dX5_hasAlike_47 : decode cX5_hasAlike 47 = .ok (.lstore 9, 2) := by decide +kernel
theorem dX5_hasAlike_49 : decode cX5_hasAlike 49 = .ok (.lload 4, 2) := by decide +kernel
theorem dX5_hasAlike_51 : decode cX5_hasAlike 51 = .ok (.aload_n 0, 1) := by decide +kernel
theorem dX5_hasAlike_52 : decode cX5_hasAlike 52 = .ok (.lload_n 1, 1) := by decide +kernel
theorem dX5_hasAlike_53 : decode cX5_hasAlike 53 = .ok (.lload 9, 2) := by decide +kernel
theorem dX5_hasAlike_55 : decode cX5_hasAlike 55 = .ok (.iload_n 3, 1) := by decide +kernel
theorem dX5_hasAlike_56 : decode cX5_hasAlike 56 = .ok (.invokevirtual 82, 3) := by decide +kernel
theorem dX5_hasAlike_59 : decode cX5_hasAlike 59 = .ok (.lcmp, 1) := by decide +kernel
theorem dX5_hasAlike_60 : decode cX5_hasAlike 60 = .ok (.ifCond .ne 5, 3) := by decide +kernel
theorem dX5_hasAlike_63 : decode cX5_hasAlike 63 = .ok (.iconst 1, 1) := by decide +kernel
theorem dX5_hasAlike_64 : decode cX5_hasAlike 64 = .ok (.ireturn, 1) := by decide +kernel
theorem dX5_hasAlike_65 : decode cX5_hasAlike 65 = .ok (.lload 6, 2) := by decide +kernel
theorem dX5_hasAlike_67 : decode cX5_hasAlike 67 = .ok (.lload 9, 2) := by decide +kernel
theorem dX5_hasAlike_69 : decode cX5_hasAlike 69 = .ok (.ldc2_w 89, 3) := by decide +kernel
theorem dX5_hasAlike_72 : decode cX5_hasAlike 72 = .ok (.lxor, 1) := by decide +kernel
theorem dX5_hasAlike_73 : decode cX5_hasAlike 73 = .ok (.land, 1) := by decide +kernel
theorem dX5_hasAlike_74 : decode cX5_hasAlike 74 = .ok (.lstore 6, 2) := by decide +kernel
theorem dX5_hasAlike_76 : decode cX5_hasAlike 76 = .ok (.iinc 8 1, 3) := by decide +kernel
theorem dX5_hasAlike_79 : decode cX5_hasAlike 79 = .ok (.goto (-55), 3) := by decide +kernel
theorem dX5_hasAlike_82 : decode cX5_hasAlike 82 = .ok (.iconst 0, 1) := by decide +kernel
theorem dX5_hasAlike_83 : decode cX5_hasAlike 83 = .ok (.ireturn, 1) := by decide +kernel
set_option maxRecDepth 20000 in
theorem ggX5_pairs_X3_has : GoodIn wsX5_pairs wsX3_has := goodIn_r _ [4] (by decide +kernel) (by decide +kernel)
set_option maxRecDepth 20000 in
theorem gX5_pairs_X3_has : GoodIn wsX5_pairs (va_wsS RX5 91 yX3_has wsX3_has) := goodIn_app (goodIn_of _ (by decide +kernel)) ggX5_pairs_X3_has
set_option maxRecDepth 20000 in
theorem ggX5_pairs_X6_rest : GoodIn wsX5_pairs wsX6_rest := goodIn_r _ [8] (by decide +kernel) (by decide +kernel)
set_option maxRecDepth 20000 in
theorem gX5_pairs_X6_rest : GoodIn wsX5_pairs (va_wsS RX5 98 yX6_rest wsX6_rest) := goodIn_app (goodIn_of _ (by decide +kernel)) ggX5_pairs_X6_rest
set_option maxRecDepth 20000 in
theorem ggX5_pairs_X5_traceAt : GoodIn wsX5_pairs wsX5_traceAt := goodIn_r _ [13, 14, 15, 16, 17, 18, 19, 20] (by decide +kernel) (by decide +kernel)
set_option maxRecDepth 20000 in
theorem gX5_pairs_X5_traceAt : GoodIn wsX5_pairs (wsV RX5 101 RX5 yX5_traceAt wsX5_traceAt) := goodIn_app (goodIn_of _ (by decide +kernel)) ggX5_pairs_X5_traceAt
theorem dX5_pairs_0 : decode cX5_pairs 0 = .ok (.lconst 0, 1) := by decide +kernel
theorem dX5_pairs_1 : decode cX5_pairs 1 = .ok (.lstore 6, 2) := by decide +kernel
theorem dX5_pairs_3 : decode cX5_pairs 3 = .ok (.iconst 0, 1) := by decide +kernel
theorem dX5_pairs_4 : decode cX5_pairs 4 = .ok (.istore 8, 2) := by decide +kernel
theorem dX5_pairs_6 : decode cX5_pairs 6 = .ok (.iload 8, 2) := by decide +kernel
theorem dX5_pairs_8 : decode cX5_pairs 8 = .ok (.iload 5, 2) := by decide +kernel
theorem dX5_pairs_10 : decode cX5_pairs 10 = .ok (.if_icmp .ge 65, 3) := by decide +kernel
theorem dX5_pairs_13 : decode cX5_pairs 13 = .ok (.lload_n 1, 1) := by decide +kernel
theorem dX5_pairs_14 : decode cX5_pairs 14 = .ok (.iload 8, 2) := by decide +kernel
theorem dX5_pairs_16 : decode cX5_pairs 16 = .ok (.invokestatic 91, 3) := by decide +kernel
theorem dX5_pairs_19 : decode cX5_pairs 19 = .ok (.ifCond .eq 50, 3) := by decide +kernel
theorem dX5_pairs_22 : decode cX5_pairs 22 = .ok (.iconst 0, 1) := by decide +kernel
theorem dX5_pairs_23 : decode cX5_pairs 23 = .ok (.istore 9, 2) := by decide +kernel
theorem dX5_pairs_25 : decode cX5_pairs 25 = .ok (.iload 9, 2) := by decide +kernel
theorem dX5_pairs_27 : decode cX5_pairs 27 = .ok (.iload 5, 2) := by decide +kernel
theorem dX5_pairs_29 : decode cX5_pairs 29 = .ok (.if_icmp .ge 40, 3) := by decide +kernel
theorem dX5_pairs_32 : decode cX5_pairs 32 = .ok (.lload_n 3, 1) := by decide +kernel
theorem dX5_pairs_33 : decode cX5_pairs 33 = .ok (.iload 9, 2) := by decide +kernel
theorem dX5_pairs_35 : decode cX5_pairs 35 = .ok (.invokestatic 91, 3) := by decide +kernel
theorem dX5_pairs_38 : decode cX5_pairs 38 = .ok (.ifCond .eq 25, 3) := by decide +kernel
theorem dX5_pairs_41 : decode cX5_pairs 41 = .ok (.lload 6, 2) := by decide +kernel
theorem dX5_pairs_43 : decode cX5_pairs 43 = .ok (.aload_n 0, 1) := by decide +kernel
theorem dX5_pairs_44 : decode cX5_pairs 44 = .ok (.iload 8, 2) := by decide +kernel
theorem dX5_pairs_46 : decode cX5_pairs 46 = .ok (.iload 9, 2) := by decide +kernel
theorem dX5_pairs_48 : decode cX5_pairs 48 = .ok (.isub, 1) := by decide +kernel
theorem dX5_pairs_49 : decode cX5_pairs 49 = .ok (.iload 5, 2) := by decide +kernel
theorem dX5_pairs_51 : decode cX5_pairs 51 = .ok (.iadd, 1) := by decide +kernel
theorem dX5_pairs_52 : decode cX5_pairs 52 = .ok (.iload 5, 2) := by decide +kernel
theorem dX5_pairs_54 : decode cX5_pairs 54 = .ok (.invokestatic 98, 3) := by decide +kernel
theorem dX5_pairs_57 : decode cX5_pairs 57 = .ok (.invokevirtual 101, 3) := by decide +kernel
theorem dX5_pairs_60 : decode cX5_pairs 60 = .ok (.ladd, 1) := by decide +kernel
theorem dX5_pairs_61 : decode cX5_pairs 61 = .ok (.lstore 6, 2) := by decide +kernel
theorem dX5_pairs_63 : decode cX5_pairs 63 = .ok (.iinc 9 1, 3) := by decide +kernel
theorem dX5_pairs_66 : decode cX5_pairs 66 = .ok (.goto (-41), 3) := by decide +kernel
theorem dX5_pairs_69 : decode cX5_pairs 69 = .ok (.iinc 8 1, 3) := by decide +kernel
theorem dX5_pairs_72 : decode cX5_pairs 72 = .ok (.goto (-66), 3) := by decide +kernel
theorem dX5_pairs_75 : decode cX5_pairs 75 = .ok (.lload 6, 2) := by decide +kernel
theorem dX5_pairs_77 : decode cX5_pairs 77 = .ok (.lreturn, 1) := by decide +kernel
set_option maxRecDepth 20000 in
theorem ggX5_fillTogether_X3_size : GoodIn wsX5_fillTogether wsX3_size := goodIn_r _ [7, 8, 9, 10, 11, 12, 13, 14] (by decide +kernel) (by decide +kernel)
set_option maxRecDepth 20000 in
theorem gX5_fillTogether_X3_size : GoodIn wsX5_fillTogether (va_wsS RX5 104 yX3_size wsX3_size) := goodIn_app (goodIn_of _ (by decide +kernel)) ggX5_fillTogether_X3_size
set_option maxRecDepth 20000 in
theorem ggX5_fillTogether_X5_multiply : GoodIn wsX5_fillTogether wsX5_multiply := goodIn_r _ [19, 20, 1, 21, 22, 6, 23, 24, 25, 26, 27, 28, 29, 30, 18, 31, 37, 38, 39, 40, 41, 42] (by decide +kernel) (by decide +kernel)
set_option maxRecDepth 20000 in
theorem gX5_fillTogether_X5_multiply : GoodIn wsX5_fillTogether (wsV RX5 108 RX5 yX5_multiply wsX5_multiply) := goodIn_app (goodIn_of _ (by decide +kernel)) ggX5_fillTogether_X5_multiply
set_option maxRecDepth 20000 in
theorem ggX5_fillTogether_X5_traceAt : GoodIn wsX5_fillTogether wsX5_traceAt := goodIn_r _ [35, 36, 37, 38, 39, 40, 41, 42] (by decide +kernel) (by decide +kernel)
set_option maxRecDepth 20000 in
theorem gX5_fillTogether_X5_traceAt : GoodIn wsX5_fillTogether (wsV RX5 101 RX5 yX5_traceAt wsX5_traceAt) := goodIn_app (goodIn_of _ (by decide +kernel)) ggX5_fillTogether_X5_traceAt
theorem dX5_fillTogether_0 : decode cX5_fillTogether 0 = .ok (.lload_n 1, 1) := by decide +kernel
theorem dX5_fillTogether_1 : decode cX5_fillTogether 1 = .ok (.invokestatic 104, 3) := by decide +kernel
theorem dX5_fillTogether_4 : decode cX5_fillTogether 4 = .ok (.istore 4, 2) := by decide +kernel
theorem dX5_fillTogether_6 : decode cX5_fillTogether 6 = .ok (.iconst 0, 1) := by decide +kernel
theorem dX5_fillTogether_7 : decode cX5_fillTogether 7 = .ok (.istore 5, 2) := by decide +kernel
theorem dX5_fillTogether_9 : decode cX5_fillTogether 9 = .ok (.iload 5, 2) := by decide +kernel
theorem dX5_fillTogether_11 : decode cX5_fillTogether 11 = .ok (.aload_n 0, 1) := by decide +kernel
theorem dX5_fillTogether_12 : decode cX5_fillTogether 12 = .ok (.getfield 15, 3) := by decide +kernel
theorem dX5_fillTogether_15 : decode cX5_fillTogether 15 = .ok (.arraylength, 1) := by decide +kernel
theorem dX5_fillTogether_16 : decode cX5_fillTogether 16 = .ok (.if_icmp .ge 17, 3) := by decide +kernel
theorem dX5_fillTogether_19 : decode cX5_fillTogether 19 = .ok (.aload_n 0, 1) := by decide +kernel
theorem dX5_fillTogether_20 : decode cX5_fillTogether 20 = .ok (.getfield 15, 3) := by decide +kernel
theorem dX5_fillTogether_23 : decode cX5_fillTogether 23 = .ok (.iload 5, 2) := by decide +kernel
theorem dX5_fillTogether_25 : decode cX5_fillTogether 25 = .ok (.lconst 0, 1) := by decide +kernel
theorem dX5_fillTogether_26 : decode cX5_fillTogether 26 = .ok (.lastore, 1) := by decide +kernel
theorem dX5_fillTogether_27 : decode cX5_fillTogether 27 = .ok (.iinc 5 1, 3) := by decide +kernel
theorem dX5_fillTogether_30 : decode cX5_fillTogether 30 = .ok (.goto (-21), 3) := by decide +kernel
theorem dX5_fillTogether_33 : decode cX5_fillTogether 33 = .ok (.aload_n 0, 1) := by decide +kernel
theorem dX5_fillTogether_34 : decode cX5_fillTogether 34 = .ok (.getfield 15, 3) := by decide +kernel
theorem dX5_fillTogether_37 : decode cX5_fillTogether 37 = .ok (.iconst 0, 1) := by decide +kernel
theorem dX5_fillTogether_38 : decode cX5_fillTogether 38 = .ok (.lconst 1, 1) := by decide +kernel
theorem dX5_fillTogether_39 : decode cX5_fillTogether 39 = .ok (.lastore, 1) := by decide +kernel
theorem dX5_fillTogether_40 : decode cX5_fillTogether 40 = .ok (.iconst 1, 1) := by decide +kernel
theorem dX5_fillTogether_41 : decode cX5_fillTogether 41 = .ok (.istore 5, 2) := by decide +kernel
theorem dX5_fillTogether_43 : decode cX5_fillTogether 43 = .ok (.iload 5, 2) := by decide +kernel
theorem dX5_fillTogether_45 : decode cX5_fillTogether 45 = .ok (.aload_n 0, 1) := by decide +kernel
theorem dX5_fillTogether_46 : decode cX5_fillTogether 46 = .ok (.getfield 27, 3) := by decide +kernel
theorem dX5_fillTogether_49 : decode cX5_fillTogether 49 = .ok (.if_icmp .gt 95, 3) := by decide +kernel
theorem dX5_fillTogether_52 : decode cX5_fillTogether 52 = .ok (.iload 5, 2) := by decide +kernel
theorem dX5_fillTogether_54 : decode cX5_fillTogether 54 = .ok (.aload_n 0, 1) := by decide +kernel
theorem dX5_fillTogether_55 : decode cX5_fillTogether 55 = .ok (.getfield 21, 3) := by decide +kernel
theorem dX5_fillTogether_58 : decode cX5_fillTogether 58 = .ok (.arraylength, 1) := by decide +kernel
theorem dX5_fillTogether_59 : decode cX5_fillTogether 59 = .ok (.if_icmp .ge 85, 3) := by decide +kernel
theorem dX5_fillTogether_62 : decode cX5_fillTogether 62 = .ok (.aload_n 0, 1) := by decide +kernel
theorem dX5_fillTogether_63 : decode cX5_fillTogether 63 = .ok (.lload_n 1, 1) := by decide +kernel
theorem dX5_fillTogether_64 : decode cX5_fillTogether 64 = .ok (.iload_n 3, 1) := by decide +kernel
theorem dX5_fillTogether_65 : decode cX5_fillTogether 65 = .ok (.invokevirtual 108, 3) := by decide +kernel
theorem dX5_fillTogether_68 : decode cX5_fillTogether 68 = .ok (.lconst 0, 1) := by decide +kernel
theorem dX5_fillTogether_69 : decode cX5_fillTogether 69 = .ok (.lstore 6, 2) := by decide +kernel
theorem dX5_fillTogether_71 : decode cX5_fillTogether 71 = .ok (.iconst 0, 1) := by decide +kernel
theorem dX5_fillTogether_72 : decode cX5_fillTogether 72 = .ok (.istore 8, 2) := by decide +kernel
theorem dX5_fillTogether_74 : decode cX5_fillTogether 74 = .ok (.iload 8, 2) := by decide +kernel
theorem dX5_fillTogether_76 : decode cX5_fillTogether 76 = .ok (.iload_n 3, 1) := by decide +kernel
theorem dX5_fillTogether_77 : decode cX5_fillTogether 77 = .ok (.if_icmp .ge 38, 3) := by decide +kernel
theorem dX5_fillTogether_80 : decode cX5_fillTogether 80 = .ok (.iload 8, 2) := by decide +kernel
theorem dX5_fillTogether_82 : decode cX5_fillTogether 82 = .ok (.aload_n 0, 1) := by decide +kernel
theorem dX5_fillTogether_83 : decode cX5_fillTogether 83 = .ok (.getfield 15, 3) := by decide +kernel
theorem dX5_fillTogether_86 : decode cX5_fillTogether 86 = .ok (.arraylength, 1) := by decide +kernel
theorem dX5_fillTogether_87 : decode cX5_fillTogether 87 = .ok (.if_icmp .ge 28, 3) := by decide +kernel
theorem dX5_fillTogether_90 : decode cX5_fillTogether 90 = .ok (.lload 6, 2) := by decide +kernel
theorem dX5_fillTogether_92 : decode cX5_fillTogether 92 = .ok (.aload_n 0, 1) := by decide +kernel
theorem dX5_fillTogether_93 : decode cX5_fillTogether 93 = .ok (.getfield 15, 3) := by decide +kernel
theorem dX5_fillTogether_96 : decode cX5_fillTogether 96 = .ok (.iload 8, 2) := by decide +kernel
theorem dX5_fillTogether_98 : decode cX5_fillTogether 98 = .ok (.laload, 1) := by decide +kernel
theorem dX5_fillTogether_99 : decode cX5_fillTogether 99 = .ok (.aload_n 0, 1) := by decide +kernel
theorem dX5_fillTogether_100 : decode cX5_fillTogether 100 = .ok (.iload 8, 2) := by decide +kernel
theorem dX5_fillTogether_102 : decode cX5_fillTogether 102 = .ok (.invokevirtual 101, 3) := by decide +kernel
theorem dX5_fillTogether_105 : decode cX5_fillTogether 105 = .ok (.lmul, 1) := by decide +kernel
theorem dX5_fillTogether_106 : decode cX5_fillTogether 106 = .ok (.ladd, 1) := by decide +kernel
theorem dX5_fillTogether_107 : decode cX5_fillTogether 107 = .ok (.lstore 6, 2) := by decide +kernel
theorem dX5_fillTogether_109 : decode cX5_fillTogether 109 = .ok (.iinc 8 1, 3) := by decide +kernel
theorem dX5_fillTogether_112 : decode cX5_fillTogether 112 = .ok (.goto (-38), 3) := by decide +kernel
theorem dX5_fillTogether_115 : decode cX5_fillTogether 115 = .ok (.aload_n 0, 1) := by decide +kernel
theorem dX5_fillTogether_116 : decode cX5_fillTogether 116 = .ok (.getfield 21, 3) := by decide +kernel
theorem dX5_fillTogether_119 : decode cX5_fillTogether 119 = .ok (.iload 5, 2) := by decide +kernel
theorem dX5_fillTogether_121 : decode cX5_fillTogether 121 = .ok (.iload 4, 2) := by decide +kernel
theorem dX5_fillTogether_123 : decode cX5_fillTogether 123 = .ok (.iconst 1, 1) := by decide +kernel
theorem dX5_fillTogether_124 : decode cX5_fillTogether 124 = .ok (.if_icmp .ge 7, 3) := by decide +kernel
theorem dX5_fillTogether_127 : decode cX5_fillTogether 127 = .ok (.lconst 0, 1) := by decide +kernel
theorem dX5_fillTogether_128 : decode cX5_fillTogether 128 = .ok (.goto 9, 3) := by decide +kernel
theorem dX5_fillTogether_131 : decode cX5_fillTogether 131 = .ok (.lload 6, 2) := by decide +kernel
theorem dX5_fillTogether_133 : decode cX5_fillTogether 133 = .ok (.iload 4, 2) := by decide +kernel
theorem dX5_fillTogether_135 : decode cX5_fillTogether 135 = .ok (.i2l, 1) := by decide +kernel
theorem dX5_fillTogether_136 : decode cX5_fillTogether 136 = .ok (.ldiv, 1) := by decide +kernel
theorem dX5_fillTogether_137 : decode cX5_fillTogether 137 = .ok (.lastore, 1) := by decide +kernel
theorem dX5_fillTogether_138 : decode cX5_fillTogether 138 = .ok (.iinc 5 1, 3) := by decide +kernel
theorem dX5_fillTogether_141 : decode cX5_fillTogether 141 = .ok (.goto (-98), 3) := by decide +kernel
theorem dX5_fillTogether_144 : decode cX5_fillTogether 144 = .ok (.return_, 1) := by decide +kernel
theorem dX5_powerAt_0 : decode cX5_powerAt 0 = .ok (.iload_n 1, 1) := by decide +kernel
theorem dX5_powerAt_1 : decode cX5_powerAt 1 = .ok (.ifCond .lt 21, 3) := by decide +kernel
theorem dX5_powerAt_4 : decode cX5_powerAt 4 = .ok (.iload_n 1, 1) := by decide +kernel
theorem dX5_powerAt_5 : decode cX5_powerAt 5 = .ok (.aload_n 0, 1) := by decide +kernel
theorem dX5_powerAt_6 : decode cX5_powerAt 6 = .ok (.getfield 15, 3) := by decide +kernel
theorem dX5_powerAt_9 : decode cX5_powerAt 9 = .ok (.arraylength, 1) := by decide +kernel
theorem dX5_powerAt_10 : decode cX5_powerAt 10 = .ok (.if_icmp .ge 12, 3) := by decide +kernel
theorem dX5_powerAt_13 : decode cX5_powerAt 13 = .ok (.aload_n 0, 1) := by decide +kernel
theorem dX5_powerAt_14 : decode cX5_powerAt 14 = .ok (.getfield 15, 3) := by decide +kernel
theorem dX5_powerAt_17 : decode cX5_powerAt 17 = .ok (.iload_n 1, 1) := by decide +kernel
theorem dX5_powerAt_18 : decode cX5_powerAt 18 = .ok (.laload, 1) := by decide +kernel
theorem dX5_powerAt_19 : decode cX5_powerAt 19 = .ok (.goto 4, 3) := by decide +kernel
theorem dX5_powerAt_22 : decode cX5_powerAt 22 = .ok (.lconst 0, 1) := by decide +kernel
theorem dX5_powerAt_23 : decode cX5_powerAt 23 = .ok (.lreturn, 1) := by decide +kernel
set_option maxRecDepth 20000 in
theorem ggX5_multiply_X3_has : GoodIn wsX5_multiply wsX3_has := goodIn_r _ [6] (by decide +kernel) (by decide +kernel)
set_option maxRecDepth 20000 in
theorem gX5_multiply_X3_has : GoodIn wsX5_multiply (va_wsS RX5 91 yX3_has wsX3_has) := goodIn_app (goodIn_of _ (by decide +kernel)) ggX5_multiply_X3_has
set_option maxRecDepth 20000 in
theorem ggX5_multiply_X6_rest : GoodIn wsX5_multiply wsX6_rest := goodIn_r _ [10] (by decide +kernel) (by decide +kernel)
set_option maxRecDepth 20000 in
theorem gX5_multiply_X6_rest : GoodIn wsX5_multiply (va_wsS RX5 98 yX6_rest wsX6_rest) := goodIn_app (goodIn_of _ (by decide +kernel)) ggX5_multiply_X6_rest
set_option maxRecDepth 20000 in
theorem ggX5_multiply_X5_powerAt : GoodIn wsX5_multiply wsX5_powerAt := goodIn_r _ [15, 2, 16, 17, 18, 19, 20, 21] (by decide +kernel) (by decide +kernel)
set_option maxRecDepth 20000 in
theorem gX5_multiply_X5_powerAt : GoodIn wsX5_multiply (wsV RX5 111 RX5 yX5_powerAt wsX5_powerAt) := goodIn_app (goodIn_of _ (by decide +kernel)) ggX5_multiply_X5_powerAt
theorem dX5_multiply_0 : decode cX5_multiply 0 = .ok (.iconst 0, 1) := by decide +kernel
theorem dX5_multiply_1 : decode cX5_multiply 1 = .ok (.istore 4, 2) := by decide +kernel
theorem dX5_multiply_3 : decode cX5_multiply 3 = .ok (.iload 4, 2) := by decide +kernel
theorem dX5_multiply_5 : decode cX5_multiply 5 = .ok (.iload_n 3, 1) := by decide +kernel
theorem dX5_multiply_6 : decode cX5_multiply 6 = .ok (.if_icmp .ge 75, 3) := by decide +kernel
theorem dX5_multiply_9 : decode cX5_multiply 9 = .ok (.iload 4, 2) := by decide +kernel
theorem dX5_multiply_11 : decode cX5_multiply 11 = .ok (.aload_n 0, 1) := by decide +kernel
theorem dX5_multiply_12 : decode cX5_multiply 12 = .ok (.getfield 18, 3) := by decide +kernel
theorem dX5_multiply_15 : decode cX5_multiply 15 = .ok (.arraylength, 1) := by decide +kernel
theorem dX5_multiply_16 : decode cX5_multiply 16 = .ok (.if_icmp .ge 65, 3) := by decide +kernel
theorem dX5_multiply_19 : decode cX5_multiply 19 = .ok (.lconst 0, 1) := by decide +kernel
theorem dX5_multiply_20 : decode cX5_multiply 20 = .ok (.lstore 5, 2) := by decide +kernel
theorem dX5_multiply_22 : decode cX5_multiply 22 = .ok (.iconst 0, 1) := by decide +kernel
theorem dX5_multiply_23 : decode cX5_multiply 23 = .ok (.istore 7, 2) := by decide +kernel
theorem dX5_multiply_25 : decode cX5_multiply 25 = .ok (.iload 7, 2) := by decide +kernel
theorem dX5_multiply_27 : decode cX5_multiply 27 = .ok (.iload_n 3, 1) := by decide +kernel
theorem dX5_multiply_28 : decode cX5_multiply 28 = .ok (.if_icmp .ge 38, 3) := by decide +kernel
theorem dX5_multiply_31 : decode cX5_multiply 31 = .ok (.lload_n 1, 1) := by decide +kernel
theorem dX5_multiply_32 : decode cX5_multiply 32 = .ok (.iload 7, 2) := by decide +kernel
theorem dX5_multiply_34 : decode cX5_multiply 34 = .ok (.invokestatic 91, 3) := by decide +kernel
theorem dX5_multiply_37 : decode cX5_multiply 37 = .ok (.ifCond .eq 23, 3) := by decide +kernel
theorem dX5_multiply_40 : decode cX5_multiply 40 = .ok (.lload 5, 2) := by decide +kernel
theorem dX5_multiply_42 : decode cX5_multiply 42 = .ok (.aload_n 0, 1) := by decide +kernel
theorem dX5_multiply_43 : decode cX5_multiply 43 = .ok (.iload 4, 2) := by decide +kernel
theorem dX5_multiply_45 : decode cX5_multiply 45 = .ok (.iload 7, 2) := by decide +kernel
theorem dX5_multiply_47 : decode cX5_multiply 47 = .ok (.isub, 1) := by decide +kernel
theorem dX5_multiply_48 : decode cX5_multiply 48 = .ok (.iload_n 3, 1) := by decide +kernel
theorem dX5_multiply_49 : decode cX5_multiply 49 = .ok (.iadd, 1) := by decide +kernel
theorem dX5_multiply_50 : decode cX5_multiply 50 = .ok (.iload_n 3, 1) := by decide +kernel
theorem dX5_multiply_51 : decode cX5_multiply 51 = .ok (.invokestatic 98, 3) := by decide +kernel
theorem dX5_multiply_54 : decode cX5_multiply 54 = .ok (.invokevirtual 111, 3) := by decide +kernel
theorem dX5_multiply_57 : decode cX5_multiply 57 = .ok (.ladd, 1) := by decide +kernel
theorem dX5_multiply_58 : decode cX5_multiply 58 = .ok (.lstore 5, 2) := by decide +kernel
theorem dX5_multiply_60 : decode cX5_multiply 60 = .ok (.iinc 7 1, 3) := by decide +kernel
theorem dX5_multiply_63 : decode cX5_multiply 63 = .ok (.goto (-38), 3) := by decide +kernel
theorem dX5_multiply_66 : decode cX5_multiply 66 = .ok (.aload_n 0, 1) := by decide +kernel
theorem dX5_multiply_67 : decode cX5_multiply 67 = .ok (.getfield 18, 3) := by decide +kernel
theorem dX5_multiply_70 : decode cX5_multiply 70 = .ok (.iload 4, 2) := by decide +kernel
theorem dX5_multiply_72 : decode cX5_multiply 72 = .ok (.lload 5, 2) := by decide +kernel
theorem dX5_multiply_74 : decode cX5_multiply 74 = .ok (.lastore, 1) := by decide +kernel
theorem dX5_multiply_75 : decode cX5_multiply 75 = .ok (.iinc 4 1, 3) := by decide +kernel
theorem dX5_multiply_78 : decode cX5_multiply 78 = .ok (.goto (-75), 3) := by decide +kernel
theorem dX5_multiply_81 : decode cX5_multiply 81 = .ok (.iconst 0, 1) := by decide +kernel
theorem dX5_multiply_82 : decode cX5_multiply 82 = .ok (.istore 4, 2) := by decide +kernel
theorem dX5_multiply_84 : decode cX5_multiply 84 = .ok (.iload 4, 2) := by decide +kernel
theorem dX5_multiply_86 : decode cX5_multiply 86 = .ok (.iload_n 3, 1) := by decide +kernel
theorem dX5_multiply_87 : decode cX5_multiply 87 = .ok (.if_icmp .ge 33, 3) := by decide +kernel
theorem dX5_multiply_90 : decode cX5_multiply 90 = .ok (.iload 4, 2) := by decide +kernel
theorem dX5_multiply_92 : decode cX5_multiply 92 = .ok (.aload_n 0, 1) := by decide +kernel
theorem dX5_multiply_93 : decode cX5_multiply 93 = .ok (.getfield 18, 3) := by decide +kernel
theorem dX5_multiply_96 : decode cX5_multiply 96 = .ok (.arraylength, 1) := by decide +kernel
theorem dX5_multiply_97 : decode cX5_multiply 97 = .ok (.if_icmp .ge 23, 3) := by decide +kernel
theorem dX5_multiply_100 : decode cX5_multiply 100 = .ok (.aload_n 0, 1) := by decide +kernel
theorem dX5_multiply_101 : decode cX5_multiply 101 = .ok (.getfield 15, 3) := by decide +kernel
theorem dX5_multiply_104 : decode cX5_multiply 104 = .ok (.iload 4, 2) := by decide +kernel
theorem dX5_multiply_106 : decode cX5_multiply 106 = .ok (.aload_n 0, 1) := by decide +kernel
theorem dX5_multiply_107 : decode cX5_multiply 107 = .ok (.getfield 18, 3) := by decide +kernel
theorem dX5_multiply_110 : decode cX5_multiply 110 = .ok (.iload 4, 2) := by decide +kernel
theorem dX5_multiply_112 : decode cX5_multiply 112 = .ok (.laload, 1) := by decide +kernel
theorem dX5_multiply_113 : decode cX5_multiply 113 = .ok (.lastore, 1) := by decide +kernel
theorem dX5_multiply_114 : decode cX5_multiply 114 = .ok (.iinc 4 1, 3) := by decide +kernel
theorem dX5_multiply_117 : decode cX5_multiply 117 = .ok (.goto (-33), 3) := by decide +kernel
theorem dX5_multiply_120 : decode cX5_multiply 120 = .ok (.return_, 1) := by decide +kernel
theorem dX5_fillNumbers_0 : decode cX5_fillNumbers 0 = .ok (.aload_n 0, 1) := by decide +kernel
theorem dX5_fillNumbers_1 : decode cX5_fillNumbers 1 = .ok (.getfield 24, 3) := by decide +kernel
theorem dX5_fillNumbers_4 : decode cX5_fillNumbers 4 = .ok (.iconst 0, 1) := by decide +kernel
theorem dX5_fillNumbers_5 : decode cX5_fillNumbers 5 = .ok (.lconst 1, 1) := by decide +kernel
theorem dX5_fillNumbers_6 : decode cX5_fillNumbers 6 = .ok (.lastore, 1) := by decide +kernel
theorem dX5_fillNumbers_7 : decode cX5_fillNumbers 7 = .ok (.iconst 1, 1) := by decide +kernel
theorem dX5_fillNumbers_8 : decode cX5_fillNumbers 8 = .ok (.istore_n 1, 1) := by decide +kernel
theorem dX5_fillNumbers_9 : decode cX5_fillNumbers 9 = .ok (.iload_n 1, 1) := by decide +kernel
theorem dX5_fillNumbers_10 : decode cX5_fillNumbers 10 = .ok (.aload_n 0, 1) := by decide +kernel
theorem dX5_fillNumbers_11 : decode cX5_fillNumbers 11 = .ok (.getfield 27, 3) := by decide +kernel
theorem dX5_fillNumbers_14 : decode cX5_fillNumbers 14 = .ok (.if_icmp .gt 65, 3) := by decide +kernel
theorem dX5_fillNumbers_17 : decode cX5_fillNumbers 17 = .ok (.iload_n 1, 1) := by decide +kernel
theorem dX5_fillNumbers_18 : decode cX5_fillNumbers 18 = .ok (.aload_n 0, 1) := by decide +kernel
theorem dX5_fillNumbers_19 : decode cX5_fillNumbers 19 = .ok (.getfield 24, 3) := by decide +kernel
theorem dX5_fillNumbers_22 : decode cX5_fillNumbers 22 = .ok (.arraylength, 1) := by decide +kernel
theorem dX5_fillNumbers_23 : decode cX5_fillNumbers 23 = .ok (.if_icmp .ge 56, 3) := by decide +kernel
theorem dX5_fillNumbers_26 : decode cX5_fillNumbers 26 = .ok (.lconst 0, 1) := by decide +kernel
theorem dX5_fillNumbers_27 : decode cX5_fillNumbers 27 = .ok (.lstore_n 2, 1) := by decide +kernel
theorem dX5_fillNumbers_28 : decode cX5_fillNumbers 28 = .ok (.iconst 1, 1) := by decide +kernel
theorem dX5_fillNumbers_29 : decode cX5_fillNumbers 29 = .ok (.istore 4, 2) := by decide +kernel
theorem dX5_fillNumbers_31 : decode cX5_fillNumbers 31 = .ok (.iload 4, 2) := by decide +kernel
theorem dX5_fillNumbers_33 : decode cX5_fillNumbers 33 = .ok (.iload_n 1, 1) := by decide +kernel
theorem dX5_fillNumbers_34 : decode cX5_fillNumbers 34 = .ok (.if_icmp .gt 29, 3) := by decide +kernel
theorem dX5_fillNumbers_37 : decode cX5_fillNumbers 37 = .ok (.lload_n 2, 1) := by decide +kernel
theorem dX5_fillNumbers_38 : decode cX5_fillNumbers 38 = .ok (.aload_n 0, 1) := by decide +kernel
theorem dX5_fillNumbers_39 : decode cX5_fillNumbers 39 = .ok (.getfield 24, 3) := by decide +kernel
theorem dX5_fillNumbers_42 : decode cX5_fillNumbers 42 = .ok (.iload_n 1, 1) := by decide +kernel
theorem dX5_fillNumbers_43 : decode cX5_fillNumbers 43 = .ok (.iload 4, 2) := by decide +kernel
theorem dX5_fillNumbers_45 : decode cX5_fillNumbers 45 = .ok (.isub, 1) := by decide +kernel
theorem dX5_fillNumbers_46 : decode cX5_fillNumbers 46 = .ok (.laload, 1) := by decide +kernel
theorem dX5_fillNumbers_47 : decode cX5_fillNumbers 47 = .ok (.aload_n 0, 1) := by decide +kernel
theorem dX5_fillNumbers_48 : decode cX5_fillNumbers 48 = .ok (.getfield 21, 3) := by decide +kernel
theorem dX5_fillNumbers_51 : decode cX5_fillNumbers 51 = .ok (.iload 4, 2) := by decide +kernel
theorem dX5_fillNumbers_53 : decode cX5_fillNumbers 53 = .ok (.laload, 1) := by decide +kernel
theorem dX5_fillNumbers_54 : decode cX5_fillNumbers 54 = .ok (.lmul, 1) := by decide +kernel
theorem dX5_fillNumbers_55 : decode cX5_fillNumbers 55 = .ok (.lsub, 1) := by decide +kernel
theorem dX5_fillNumbers_56 : decode cX5_fillNumbers 56 = .ok (.lstore_n 2, 1) := by decide +kernel
theorem dX5_fillNumbers_57 : decode cX5_fillNumbers 57 = .ok (.iinc 4 1, 3) := by decide +kernel
theorem dX5_fillNumbers_60 : decode cX5_fillNumbers 60 = .ok (.goto (-29), 3) := by decide +kernel
theorem dX5_fillNumbers_63 : decode cX5_fillNumbers 63 = .ok (.aload_n 0, 1) := by decide +kernel
theorem dX5_fillNumbers_64 : decode cX5_fillNumbers 64 = .ok (.getfield 24, 3) := by decide +kernel
theorem dX5_fillNumbers_67 : decode cX5_fillNumbers 67 = .ok (.iload_n 1, 1) := by decide +kernel
theorem dX5_fillNumbers_68 : decode cX5_fillNumbers 68 = .ok (.lload_n 2, 1) := by decide +kernel
theorem dX5_fillNumbers_69 : decode cX5_fillNumbers 69 = .ok (.iload_n 1, 1) := by decide +kernel
theorem dX5_fillNumbers_70 : decode cX5_fillNumbers 70 = .ok (.i2l, 1) := by decide +kernel
theorem dX5_fillNumbers_71 : decode cX5_fillNumbers 71 = .ok (.ldiv, 1) := by decide +kernel
theorem dX5_fillNumbers_72 : decode cX5_fillNumbers 72 = .ok (.lastore, 1) := by decide +kernel
theorem dX5_fillNumbers_73 : decode cX5_fillNumbers 73 = .ok (.iinc 1 1, 3) := by decide +kernel
theorem dX5_fillNumbers_76 : decode cX5_fillNumbers 76 = .ok (.goto (-67), 3) := by decide +kernel
theorem dX5_fillNumbers_79 : decode cX5_fillNumbers 79 = .ok (.return_, 1) := by decide +kernel
theorem dX6_rest_0 : decode cX6_rest 0 = .ok (.iload_n 1, 1) := by decide +kernel
theorem dX6_rest_1 : decode cX6_rest 1 = .ok (.iconst 1, 1) := by decide +kernel
theorem dX6_rest_2 : decode cX6_rest 2 = .ok (.if_icmp .ge 7, 3) := by decide +kernel
theorem dX6_rest_5 : decode cX6_rest 5 = .ok (.iconst 0, 1) := by decide +kernel
theorem dX6_rest_6 : decode cX6_rest 6 = .ok (.goto 6, 3) := by decide +kernel
theorem dX6_rest_9 : decode cX6_rest 9 = .ok (.iload_n 0, 1) := by decide +kernel
theorem dX6_rest_10 : decode cX6_rest 10 = .ok (.iload_n 1, 1) := by decide +kernel
theorem dX6_rest_11 : decode cX6_rest 11 = .ok (.irem, 1) := by decide +kernel
theorem dX6_rest_12 : decode cX6_rest 12 = .ok (.ireturn, 1) := by decide +kernel
theorem dX6_quotient_0 : decode cX6_quotient 0 = .ok (.iload_n 1, 1) := by decide +kernel
theorem dX6_quotient_1 : decode cX6_quotient 1 = .ok (.iconst 1, 1) := by decide +kernel
theorem dX6_quotient_2 : decode cX6_quotient 2 = .ok (.if_icmp .ge 7, 3) := by decide +kernel
theorem dX6_quotient_5 : decode cX6_quotient 5 = .ok (.iconst 0, 1) := by decide +kernel
theorem dX6_quotient_6 : decode cX6_quotient 6 = .ok (.goto 6, 3) := by decide +kernel
theorem dX6_quotient_9 : decode cX6_quotient 9 = .ok (.iload_n 0, 1) := by decide +kernel
theorem dX6_quotient_10 : decode cX6_quotient 10 = .ok (.iload_n 1, 1) := by decide +kernel
theorem dX6_quotient_11 : decode cX6_quotient 11 = .ok (.idiv, 1) := by decide +kernel
theorem dX6_quotient_12 : decode cX6_quotient 12 = .ok (.ireturn, 1) := by decide +kernel
theorem dX6_goesInto_0 : decode cX6_goesInto 0 = .ok (.iload_n 0, 1) := by decide +kernel
theorem dX6_goesInto_1 : decode cX6_goesInto 1 = .ok (.iconst 1, 1) := by decide +kernel
theorem dX6_goesInto_2 : decode cX6_goesInto 2 = .ok (.if_icmp .lt 13, 3) := by decide +kernel
theorem dX6_goesInto_5 : decode cX6_goesInto 5 = .ok (.iload_n 1, 1) := by decide +kernel
theorem dX6_goesInto_6 : decode cX6_goesInto 6 = .ok (.iload_n 0, 1) := by decide +kernel
theorem dX6_goesInto_7 : decode cX6_goesInto 7 = .ok (.irem, 1) := by decide +kernel
theorem dX6_goesInto_8 : decode cX6_goesInto 8 = .ok (.ifCond .ne 7, 3) := by decide +kernel
theorem dX6_goesInto_11 : decode cX6_goesInto 11 = .ok (.iconst 1, 1) := by decide +kernel
theorem dX6_goesInto_12 : decode cX6_goesInto 12 = .ok (.goto 4, 3) := by decide +kernel
theorem dX6_goesInto_15 : decode cX6_goesInto 15 = .ok (.iconst 0, 1) := by decide +kernel
theorem dX6_goesInto_16 : decode cX6_goesInto 16 = .ok (.ireturn, 1) := by decide +kernel
theorem dX6_greatestDivisor_0 : decode cX6_greatestDivisor 0 = .ok (.iload_n 0, 1) := by decide +kernel
theorem dX6_greatestDivisor_1 : decode cX6_greatestDivisor 1 = .ok (.istore_n 2, 1) := by decide +kernel
theorem dX6_greatestDivisor_2 : decode cX6_greatestDivisor 2 = .ok (.iload_n 1, 1) := by decide +kernel
theorem dX6_greatestDivisor_3 : decode cX6_greatestDivisor 3 = .ok (.istore_n 3, 1) := by decide +kernel
