theorem dX3_degree_0 : decode cX3_degree 0 = .ok (.iload_n 2, 1) := by decide +kernel
theorem dX3_degree_1 : decode cX3_degree 1 = .ok (.invokestatic 46, 3) := by decide +kernel
theorem dX3_degree_4 : decode cX3_degree 4 = .ok (.invokestatic 57, 3) := by decide +kernel
theorem dX3_degree_7 : decode cX3_degree 7 = .ok (.lload_n 0, 1) := by decide +kernel
theorem dX3_degree_8 : decode cX3_degree 8 = .ok (.invokestatic 57, 3) := by decide +kernel
theorem dX3_degree_11 : decode cX3_degree 11 = .ok (.invokestatic 60, 3) := by decide +kernel
theorem dX3_degree_14 : decode cX3_degree 14 = .ok (.ireturn, 1) := by decide +kernel
set_option maxRecDepth 20000 in
theorem ggX3_isReal_X3_has : GoodIn wsX3_isReal wsX3_has := goodIn_r _ [4] (by decide +kernel) (by decide +kernel)
set_option maxRecDepth 20000 in
theorem gX3_isReal_X3_has : GoodIn wsX3_isReal (va_wsS RX3 30 yX3_has wsX3_has) := goodIn_app (goodIn_of _ (by decide +kernel)) ggX3_isReal_X3_has
theorem dX3_isReal_0 : decode cX3_isReal 0 = .ok (.lload_n 0, 1) := by decide +kernel
theorem dX3_isReal_1 : decode cX3_isReal 1 = .ok (.iload_n 2, 1) := by decide +kernel
theorem dX3_isReal_2 : decode cX3_isReal 2 = .ok (.iconst 1, 1) := by decide +kernel
theorem dX3_isReal_3 : decode cX3_isReal 3 = .ok (.isub, 1) := by decide +kernel
theorem dX3_isReal_4 : decode cX3_isReal 4 = .ok (.invokestatic 30, 3) := by decide +kernel
theorem dX3_isReal_7 : decode cX3_isReal 7 = .ok (.ireturn, 1) := by decide +kernel
set_option maxRecDepth 20000 in
theorem ggX3_isCyclic_X3_all : GoodIn wsX3_isCyclic wsX3_all := goodIn_r _ [4, 5, 6, 7, 8, 9, 10, 3, 11] (by decide +kernel) (by decide +kernel)
set_option maxRecDepth 20000 in
theorem gX3_isCyclic_X3_all : GoodIn wsX3_isCyclic (va_wsS RX3 46 yX3_all wsX3_all) := goodIn_app (goodIn_of _ (by decide +kernel)) ggX3_isCyclic_X3_all
set_option maxRecDepth 20000 in
theorem ggX3_isCyclic_X3_degree : GoodIn wsX3_isCyclic wsX3_degree := goodIn_r _ [14, 1, 2, 3, 4, 5, 6, 7, 8, 9, 10, 11, 15, 16, 17, 18, 19, 20, 21, 22, 23, 24, 25, 26, 27] (by decide +kernel) (by decide +kernel)
set_option maxRecDepth 20000 in
theorem gX3_isCyclic_X3_degree : GoodIn wsX3_isCyclic (va_wsS RX3 63 yX3_degree wsX3_degree) := goodIn_app (goodIn_of _ (by decide +kernel)) ggX3_isCyclic_X3_degree
set_option maxRecDepth 20000 in
theorem ggX3_isCyclic_X3_has : GoodIn wsX3_isCyclic wsX3_has := goodIn_r _ [30] (by decide +kernel) (by decide +kernel)
set_option maxRecDepth 20000 in
theorem gX3_isCyclic_X3_has : GoodIn wsX3_isCyclic (va_wsS RX3 30 yX3_has wsX3_has) := goodIn_app (goodIn_of _ (by decide +kernel)) ggX3_isCyclic_X3_has
set_option maxRecDepth 20000 in
theorem ggX3_isCyclic_X3_orderOver : GoodIn wsX3_isCyclic wsX3_orderOver := goodIn_r _ [33, 28, 29, 3, 30, 34, 35, 7, 36] (by decide +kernel) (by decide +kernel)
set_option maxRecDepth 20000 in
theorem gX3_isCyclic_X3_orderOver : GoodIn wsX3_isCyclic (va_wsS RX3 67 yX3_orderOver wsX3_orderOver) := goodIn_app (goodIn_of _ (by decide +kernel)) ggX3_isCyclic_X3_orderOver
theorem dX3_isCyclic_0 : decode cX3_isCyclic 0 = .ok (.iload_n 2, 1) := by decide +kernel
theorem dX3_isCyclic_1 : decode cX3_isCyclic 1 = .ok (.invokestatic 46, 3) := by decide +kernel
theorem dX3_isCyclic_4 : decode cX3_isCyclic 4 = .ok (.lstore_n 3, 1) := by decide +kernel
theorem dX3_isCyclic_5 : decode cX3_isCyclic 5 = .ok (.lload_n 0, 1) := by decide +kernel
theorem dX3_isCyclic_6 : decode cX3_isCyclic 6 = .ok (.iload_n 2, 1) := by decide +kernel
theorem dX3_isCyclic_7 : decode cX3_isCyclic 7 = .ok (.invokestatic 63, 3) := by decide +kernel
theorem dX3_isCyclic_10 : decode cX3_isCyclic 10 = .ok (.istore 5, 2) := by decide +kernel
theorem dX3_isCyclic_12 : decode cX3_isCyclic 12 = .ok (.iconst 0, 1) := by decide +kernel
theorem dX3_isCyclic_13 : decode cX3_isCyclic 13 = .ok (.istore 6, 2) := by decide +kernel
theorem dX3_isCyclic_15 : decode cX3_isCyclic 15 = .ok (.iload 6, 2) := by decide +kernel
theorem dX3_isCyclic_17 : decode cX3_isCyclic 17 = .ok (.iload_n 2, 1) := by decide +kernel
theorem dX3_isCyclic_18 : decode cX3_isCyclic 18 = .ok (.if_icmp .ge 32, 3) := by decide +kernel
theorem dX3_isCyclic_21 : decode cX3_isCyclic 21 = .ok (.lload_n 3, 1) := by decide +kernel
theorem dX3_isCyclic_22 : decode cX3_isCyclic 22 = .ok (.iload 6, 2) := by decide +kernel
theorem dX3_isCyclic_24 : decode cX3_isCyclic 24 = .ok (.invokestatic 30, 3) := by decide +kernel
theorem dX3_isCyclic_27 : decode cX3_isCyclic 27 = .ok (.ifCond .eq 17, 3) := by decide +kernel
theorem dX3_isCyclic_30 : decode cX3_isCyclic 30 = .ok (.lload_n 0, 1) := by decide +kernel
theorem dX3_isCyclic_31 : decode cX3_isCyclic 31 = .ok (.iload 6, 2) := by decide +kernel
theorem dX3_isCyclic_33 : decode cX3_isCyclic 33 = .ok (.iload_n 2, 1) := by decide +kernel
theorem dX3_isCyclic_34 : decode cX3_isCyclic 34 = .ok (.invokestatic 67, 3) := by decide +kernel
theorem dX3_isCyclic_37 : decode cX3_isCyclic 37 = .ok (.iload 5, 2) := by decide +kernel
theorem dX3_isCyclic_39 : decode cX3_isCyclic 39 = .ok (.if_icmp .ne 5, 3) := by decide +kernel
theorem dX3_isCyclic_42 : decode cX3_isCyclic 42 = .ok (.iconst 1, 1) := by decide +kernel
theorem dX3_isCyclic_43 : decode cX3_isCyclic 43 = .ok (.ireturn, 1) := by decide +kernel
theorem dX3_isCyclic_44 : decode cX3_isCyclic 44 = .ok (.iinc 6 1, 3) := by decide +kernel
theorem dX3_isCyclic_47 : decode cX3_isCyclic 47 = .ok (.goto (-32), 3) := by decide +kernel
theorem dX3_isCyclic_50 : decode cX3_isCyclic 50 = .ok (.iconst 0, 1) := by decide +kernel
theorem dX3_isCyclic_51 : decode cX3_isCyclic 51 = .ok (.ireturn, 1) := by decide +kernel
set_option maxRecDepth 20000 in
theorem ggX3_sign_X3_degree : GoodIn wsX3_sign wsX3_degree := goodIn_r _ [4, 5, 6, 3, 7, 8, 9, 10, 11, 12, 13, 14, 15, 16, 17, 18, 19, 20, 21, 22, 23, 24, 25, 26, 27] (by decide +kernel) (by decide +kernel)
set_option maxRecDepth 20000 in
theorem gX3_sign_X3_degree : GoodIn wsX3_sign (va_wsS RX3 63 yX3_degree wsX3_degree) := goodIn_app (goodIn_of _ (by decide +kernel)) ggX3_sign_X3_degree
set_option maxRecDepth 20000 in
theorem ggX3_sign_X6_quotient : GoodIn wsX3_sign wsX6_quotient := goodIn_r _ [27] (by decide +kernel) (by decide +kernel)
set_option maxRecDepth 20000 in
theorem gX3_sign_X6_quotient : GoodIn wsX3_sign (va_wsS RX3 60 yX6_quotient wsX6_quotient) := goodIn_app (goodIn_of _ (by decide +kernel)) ggX3_sign_X6_quotient
set_option maxRecDepth 20000 in
theorem ggX3_sign_X3_isReal : GoodIn wsX3_sign wsX3_isReal := goodIn_r _ [30, 31, 32, 3, 33] (by decide +kernel) (by decide +kernel)
set_option maxRecDepth 20000 in
theorem gX3_sign_X3_isReal : GoodIn wsX3_sign (va_wsS RX3 71 yX3_isReal wsX3_isReal) := goodIn_app (goodIn_of _ (by decide +kernel)) ggX3_sign_X3_isReal
set_option maxRecDepth 20000 in
theorem ggX3_sign_X6_goesInto : GoodIn wsX3_sign wsX6_goesInto := goodIn_r _ [36] (by decide +kernel) (by decide +kernel)
set_option maxRecDepth 20000 in
theorem gX3_sign_X6_goesInto : GoodIn wsX3_sign (va_wsS RX3 49 yX6_goesInto wsX6_goesInto) := goodIn_app (goodIn_of _ (by decide +kernel)) ggX3_sign_X6_goesInto
theorem dX3_sign_0 : decode cX3_sign 0 = .ok (.lload_n 0, 1) := by decide +kernel
theorem dX3_sign_1 : decode cX3_sign 1 = .ok (.iload_n 2, 1) := by decide +kernel
theorem dX3_sign_2 : decode cX3_sign 2 = .ok (.invokestatic 63, 3) := by decide +kernel
theorem dX3_sign_5 : decode cX3_sign 5 = .ok (.iconst 2, 1) := by decide +kernel
theorem dX3_sign_6 : decode cX3_sign 6 = .ok (.invokestatic 60, 3) := by decide +kernel
theorem dX3_sign_9 : decode cX3_sign 9 = .ok (.istore_n 3, 1) := by decide +kernel
theorem dX3_sign_10 : decode cX3_sign 10 = .ok (.lload_n 0, 1) := by decide +kernel
theorem dX3_sign_11 : decode cX3_sign 11 = .ok (.iload_n 2, 1) := by decide +kernel
theorem dX3_sign_12 : decode cX3_sign 12 = .ok (.invokestatic 71, 3) := by decide +kernel
theorem dX3_sign_15 : decode cX3_sign 15 = .ok (.ifCond .ne 15, 3) := by decide +kernel
theorem dX3_sign_18 : decode cX3_sign 18 = .ok (.iconst 2, 1) := by decide +kernel
theorem dX3_sign_19 : decode cX3_sign 19 = .ok (.iload_n 3, 1) := by decide +kernel
theorem dX3_sign_20 : decode cX3_sign 20 = .ok (.invokestatic 49, 3) := by decide +kernel
theorem dX3_sign_23 : decode cX3_sign 23 = .ok (.ifCond .ne 7, 3) := by decide +kernel
theorem dX3_sign_26 : decode cX3_sign 26 = .ok (.iconst (-1), 1) := by decide +kernel
theorem dX3_sign_27 : decode cX3_sign 27 = .ok (.goto 4, 3) := by decide +kernel
theorem dX3_sign_30 : decode cX3_sign 30 = .ok (.iconst 1, 1) := by decide +kernel
theorem dX3_sign_31 : decode cX3_sign 31 = .ok (.ireturn, 1) := by decide +kernel
set_option maxRecDepth 20000 in
theorem ggX3_characters_X3_isCyclic : GoodIn wsX3_characters wsX3_isCyclic := goodIn_r _ [4, 5, 6, 3, 7, 8, 9, 10, 11, 12, 13, 14, 15, 16, 17, 18, 19, 20, 21, 22, 23, 24, 25, 26, 27, 28, 29, 30, 31, 32, 33, 34, 35, 36, 37, 38, 39] (by decide +kernel) (by decide +kernel)
set_option maxRecDepth 20000 in
theorem gX3_characters_X3_isCyclic : GoodIn wsX3_characters (va_wsS RX3 74 yX3_isCyclic wsX3_isCyclic) := goodIn_app (goodIn_of _ (by decide +kernel)) ggX3_characters_X3_isCyclic
set_option maxRecDepth 20000 in
theorem ggX3_characters_X3_degree : GoodIn wsX3_characters wsX3_degree := goodIn_r _ [17, 5, 6, 3, 7, 8, 9, 10, 11, 12, 13, 14, 18, 19, 20, 21, 22, 23, 24, 25, 26, 27, 28, 29, 30] (by decide +kernel) (by decide +kernel)
set_option maxRecDepth 20000 in
theorem gX3_characters_X3_degree : GoodIn wsX3_characters (va_wsS RX3 63 yX3_degree wsX3_degree) := goodIn_app (goodIn_of _ (by decide +kernel)) ggX3_characters_X3_degree
set_option maxRecDepth 20000 in
theorem ggX3_characters_X3_all : GoodIn wsX3_characters wsX3_all := goodIn_r _ [7, 8, 9, 10, 11, 12, 13, 3, 14] (by decide +kernel) (by decide +kernel)
set_option maxRecDepth 20000 in
theorem gX3_characters_X3_all : GoodIn wsX3_characters (va_wsS RX3 46 yX3_all wsX3_all) := goodIn_app (goodIn_of _ (by decide +kernel)) ggX3_characters_X3_all
set_option maxRecDepth 20000 in
theorem ggX3_characters_X3_size : GoodIn wsX3_characters wsX3_size := goodIn_r _ [20, 21, 22, 23, 24, 25, 26, 27] (by decide +kernel) (by decide +kernel)
set_option maxRecDepth 20000 in
theorem gX3_characters_X3_size : GoodIn wsX3_characters (va_wsS RX3 57 yX3_size wsX3_size) := goodIn_app (goodIn_of _ (by decide +kernel)) ggX3_characters_X3_size
theorem dX3_characters_0 : decode cX3_characters 0 = .ok (.lload_n 0, 1) := by decide +kernel
theorem dX3_characters_1 : decode cX3_characters 1 = .ok (.iload_n 2, 1) := by decide +kernel
theorem dX3_characters_2 : decode cX3_characters 2 = .ok (.invokestatic 74, 3) := by decide +kernel
theorem dX3_characters_5 : decode cX3_characters 5 = .ok (.ifCond .eq 17, 3) := by decide +kernel
theorem dX3_characters_8 : decode cX3_characters 8 = .ok (.lload_n 0, 1) := by decide +kernel
theorem dX3_characters_9 : decode cX3_characters 9 = .ok (.iload_n 2, 1) := by decide +kernel
theorem dX3_characters_10 : decode cX3_characters 10 = .ok (.invokestatic 63, 3) := by decide +kernel
theorem dX3_characters_13 : decode cX3_characters 13 = .ok (.invokestatic 46, 3) := by decide +kernel
theorem dX3_characters_16 : decode cX3_characters 16 = .ok (.invokestatic 57, 3) := by decide +kernel
theorem dX3_characters_19 : decode cX3_characters 19 = .ok (.goto 4, 3) := by decide +kernel
theorem dX3_characters_22 : decode cX3_characters 22 = .ok (.iconst 0, 1) := by decide +kernel
theorem dX3_characters_23 : decode cX3_characters 23 = .ok (.ireturn, 1) := by decide +kernel
theorem dX4_init_0 : decode cX4_init 0 = .ok (.aload_n 0, 1) := by decide +kernel
theorem dX4_init_1 : decode cX4_init 1 = .ok (.invokespecial 3, 3) := by decide +kernel
theorem dX4_init_4 : decode cX4_init 4 = .ok (.aload_n 0, 1) := by decide +kernel
theorem dX4_init_5 : decode cX4_init 5 = .ok (.bipush 40, 2) := by decide +kernel
theorem dX4_init_7 : decode cX4_init 7 = .ok (.newarray .int, 2) := by decide +kernel
theorem dX4_init_9 : decode cX4_init 9 = .ok (.putfield 9, 3) := by decide +kernel
theorem dX4_init_12 : decode cX4_init 12 = .ok (.aload_n 0, 1) := by decide +kernel
theorem dX4_init_13 : decode cX4_init 13 = .ok (.bipush 40, 2) := by decide +kernel
theorem dX4_init_15 : decode cX4_init 15 = .ok (.newarray .long, 2) := by decide +kernel
theorem dX4_init_17 : decode cX4_init 17 = .ok (.putfield 15, 3) := by decide +kernel
theorem dX4_init_20 : decode cX4_init 20 = .ok (.return_, 1) := by decide +kernel
theorem dX4_size_0 : decode cX4_size 0 = .ok (.aload_n 0, 1) := by decide +kernel
theorem dX4_size_1 : decode cX4_size 1 = .ok (.getfield 19, 3) := by decide +kernel
theorem dX4_size_4 : decode cX4_size 4 = .ok (.ireturn, 1) := by decide +kernel
theorem dX4_holds_0 : decode cX4_holds 0 = .ok (.iload_n 1, 1) := by decide +kernel
theorem dX4_holds_1 : decode cX4_holds 1 = .ok (.ifCond .lt 21, 3) := by decide +kernel
theorem dX4_holds_4 : decode cX4_holds 4 = .ok (.iload_n 1, 1) := by decide +kernel
theorem dX4_holds_5 : decode cX4_holds 5 = .ok (.aload_n 0, 1) := by decide +kernel
theorem dX4_holds_6 : decode cX4_holds 6 = .ok (.getfield 19, 3) := by decide +kernel
theorem dX4_holds_9 : decode cX4_holds 9 = .ok (.if_icmp .ge 13, 3) := by decide +kernel
theorem dX4_holds_12 : decode cX4_holds 12 = .ok (.iload_n 1, 1) := by decide +kernel
theorem dX4_holds_13 : decode cX4_holds 13 = .ok (.bipush 40, 2) := by decide +kernel
theorem dX4_holds_15 : decode cX4_holds 15 = .ok (.if_icmp .ge 7, 3) := by decide +kernel
theorem dX4_holds_18 : decode cX4_holds 18 = .ok (.iconst 1, 1) := by decide +kernel
theorem dX4_holds_19 : decode cX4_holds 19 = .ok (.goto 4, 3) := by decide +kernel
theorem dX4_holds_22 : decode cX4_holds 22 = .ok (.iconst 0, 1) := by decide +kernel
theorem dX4_holds_23 : decode cX4_holds 23 = .ok (.ireturn, 1) := by decide +kernel
set_option maxRecDepth 20000 in
theorem ggX4_barOf_X4_holds : GoodIn wsX4_barOf wsX4_holds := goodIn_r _ [6, 7, 8, 9, 10] (by decide +kernel) (by decide +kernel)
set_option maxRecDepth 20000 in
theorem gX4_barOf_X4_holds : GoodIn wsX4_barOf (wsV RX4 23 RX4 yX4_holds wsX4_holds) := goodIn_app (goodIn_of _ (by decide +kernel)) ggX4_barOf_X4_holds
theorem dX4_barOf_0 : decode cX4_barOf 0 = .ok (.aload_n 0, 1) := by decide +kernel
theorem dX4_barOf_1 : decode cX4_barOf 1 = .ok (.iload_n 1, 1) := by decide +kernel
theorem dX4_barOf_2 : decode cX4_barOf 2 = .ok (.invokevirtual 23, 3) := by decide +kernel
theorem dX4_barOf_5 : decode cX4_barOf 5 = .ok (.ifCond .eq 12, 3) := by decide +kernel
theorem dX4_barOf_8 : decode cX4_barOf 8 = .ok (.aload_n 0, 1) := by decide +kernel
theorem dX4_barOf_9 : decode cX4_barOf 9 = .ok (.getfield 9, 3) := by decide +kernel
theorem dX4_barOf_12 : decode cX4_barOf 12 = .ok (.iload_n 1, 1) := by decide +kernel
theorem dX4_barOf_13 : decode cX4_barOf 13 = .ok (.iaload, 1) := by decide +kernel
theorem dX4_barOf_14 : decode cX4_barOf 14 = .ok (.goto 4, 3) := by decide +kernel
theorem dX4_barOf_17 : decode cX4_barOf 17 = .ok (.iconst (-1), 1) := by decide +kernel
theorem dX4_barOf_18 : decode cX4_barOf 18 = .ok (.ireturn, 1) := by decide +kernel
set_option maxRecDepth 20000 in
theorem ggX4_bitsOf_X4_holds : GoodIn wsX4_bitsOf wsX4_holds := goodIn_r _ [6, 7, 8, 9, 10] (by decide +kernel) (by decide +kernel)
set_option maxRecDepth 20000 in
theorem gX4_bitsOf_X4_holds : GoodIn wsX4_bitsOf (wsV RX4 23 RX4 yX4_holds wsX4_holds) := goodIn_app (goodIn_of _ (by decide +kernel)) ggX4_bitsOf_X4_holds
theorem dX4_bitsOf_0 : decode cX4_bitsOf 0 = .ok (.aload_n 0, 1) := by decide +kernel
theorem dX4_bitsOf_1 : decode cX4_bitsOf 1 = .ok (.iload_n 1, 1) := by decide +kernel
theorem dX4_bitsOf_2 : decode cX4_bitsOf 2 = .ok (.invokevirtual 23, 3) := by decide +kernel
theorem dX4_bitsOf_5 : decode cX4_bitsOf 5 = .ok (.ifCond .eq 12, 3) := by decide +kernel
theorem dX4_bitsOf_8 : decode cX4_bitsOf 8 = .ok (.aload_n 0, 1) := by decide +kernel
theorem dX4_bitsOf_9 : decode cX4_bitsOf 9 = .ok (.getfield 15, 3) := by decide +kernel
theorem dX4_bitsOf_12 : decode cX4_bitsOf 12 = .ok (.iload_n 1, 1) := by decide +kernel
theorem dX4_bitsOf_13 : decode cX4_bitsOf 13 = .ok (.laload, 1) := by decide +kernel
theorem dX4_bitsOf_14 : decode cX4_bitsOf 14 = .ok (.goto 4, 3) := by decide +kernel
theorem dX4_bitsOf_17 : decode cX4_bitsOf 17 = .ok (.lconst 0, 1) := by decide +kernel
theorem dX4_bitsOf_18 : decode cX4_bitsOf 18 = .ok (.lreturn, 1) := by decide +kernel
set_option maxRecDepth 20000 in
theorem ggX4_bitsBy_X4_bitsOf : GoodIn wsX4_bitsBy wsX4_bitsOf := goodIn_r _ [5, 6, 7, 8, 9, 4, 10, 11, 37, 38, 39] (by decide +kernel) (by decide +kernel)
set_option maxRecDepth 20000 in
theorem gX4_bitsBy_X4_bitsOf : GoodIn wsX4_bitsBy (wsV RX4 27 RX4 yX4_bitsOf wsX4_bitsOf) := goodIn_app (goodIn_of _ (by decide +kernel)) ggX4_bitsBy_X4_bitsOf
set_option maxRecDepth 20000 in
theorem ggX4_bitsBy_X4_barOf : GoodIn wsX4_bitsBy wsX4_barOf := goodIn_r _ [15, 16, 7, 8, 9, 4, 10, 11, 37, 38, 39] (by decide +kernel) (by decide +kernel)
set_option maxRecDepth 20000 in
theorem gX4_bitsBy_X4_barOf : GoodIn wsX4_bitsBy (wsV RX4 31 RX4 yX4_barOf wsX4_barOf) := goodIn_app (goodIn_of _ (by decide +kernel)) ggX4_bitsBy_X4_barOf
set_option maxRecDepth 20000 in
theorem ggX4_bitsBy_X3_lifted : GoodIn wsX4_bitsBy wsX3_lifted := goodIn_r _ [20, 21, 22, 19, 23, 24, 25, 26, 27, 28, 29, 30, 31, 32, 33, 34, 35, 36] (by decide +kernel) (by decide +kernel)
set_option maxRecDepth 20000 in
theorem gX4_bitsBy_X3_lifted : GoodIn wsX4_bitsBy (va_wsS RX4 35 yX3_lifted wsX3_lifted) := goodIn_app (goodIn_of _ (by decide +kernel)) ggX4_bitsBy_X3_lifted
theorem dX4_bitsBy_0 : decode cX4_bitsBy 0 = .ok (.aload_n 0, 1) := by decide +kernel
theorem dX4_bitsBy_1 : decode cX4_bitsBy 1 = .ok (.iload_n 1, 1) := by decide +kernel
theorem dX4_bitsBy_2 : decode cX4_bitsBy 2 = .ok (.invokevirtual 27, 3) := by decide +kernel
theorem dX4_bitsBy_5 : decode cX4_bitsBy 5 = .ok (.aload_n 0, 1) := by decide +kernel
theorem dX4_bitsBy_6 : decode cX4_bitsBy 6 = .ok (.iload_n 1, 1) := by decide +kernel
theorem dX4_bitsBy_7 : decode cX4_bitsBy 7 = .ok (.invokevirtual 31, 3) := by decide +kernel
theorem dX4_bitsBy_10 : decode cX4_bitsBy 10 = .ok (.iload_n 2, 1) := by decide +kernel
theorem dX4_bitsBy_11 : decode cX4_bitsBy 11 = .ok (.invokestatic 35, 3) := by decide +kernel
theorem dX4_bitsBy_14 : decode cX4_bitsBy 14 = .ok (.lreturn, 1) := by decide +kernel
theorem dX4_put_0 : decode cX4_put 0 = .ok (.iconst 0, 1) := by decide +kernel
theorem dX4_put_1 : decode cX4_put 1 = .ok (.istore 4, 2) := by decide +kernel
theorem dX4_put_3 : decode cX4_put 3 = .ok (.iload 4, 2) := by decide +kernel
theorem dX4_put_5 : decode cX4_put 5 = .ok (.aload_n 0, 1) := by decide +kernel
theorem dX4_put_6 : decode cX4_put 6 = .ok (.getfield 19, 3) := by decide +kernel
theorem dX4_put_9 : decode cX4_put 9 = .ok (.if_icmp .ge 42, 3) := by decide +kernel
theorem dX4_put_12 : decode cX4_put 12 = .ok (.iload 4, 2) := by decide +kernel
theorem dX4_put_14 : decode cX4_put 14 = .ok (.bipush 40, 2) := by decide +kernel
theorem dX4_put_16 : decode cX4_put 16 = .ok (.if_icmp .ge 35, 3) := by decide +kernel
theorem dX4_put_19 : decode cX4_put 19 = .ok (.aload_n 0, 1) := by decide +kernel
theorem dX4_put_20 : decode cX4_put 20 = .ok (.getfield 9, 3) := by decide +kernel
theorem dX4_put_23 : decode cX4_put 23 = .ok (.iload 4, 2) := by decide +kernel
theorem dX4_put_25 : decode cX4_put 25 = .ok (.iaload, 1) := by decide +kernel
theorem dX4_put_26 : decode cX4_put 26 = .ok (.iload_n 1, 1) := by decide +kernel
theorem dX4_put_27 : decode cX4_put 27 = .ok (.if_icmp .ne 18, 3) := by decide +kernel
theorem dX4_put_30 : decode cX4_put 30 = .ok (.aload_n 0, 1) := by decide +kernel
theorem dX4_put_31 : decode cX4_put 31 = .ok (.getfield 15, 3) := by decide +kernel
theorem dX4_put_34 : decode cX4_put 34 = .ok (.iload 4, 2) := by decide +kernel
theorem dX4_put_36 : decode cX4_put 36 = .ok (.laload, 1) := by decide +kernel
theorem dX4_put_37 : decode cX4_put 37 = .ok (.lload_n 2, 1) := by decide +kernel
theorem dX4_put_38 : decode cX4_put 38 = .ok (.lcmp, 1) := by decide +kernel
theorem dX4_put_39 : decode cX4_put 39 = .ok (.ifCond .ne 6, 3) := by decide +kernel
theorem dX4_put_42 : decode cX4_put 42 = .ok (.iload 4, 2) := by decide +kernel
theorem dX4_put_44 : decode cX4_put 44 = .ok (.ireturn, 1) := by decide +kernel
theorem dX4_put_45 : decode cX4_put 45 = .ok (.iinc 4 1, 3) := by decide +kernel
theorem dX4_put_48 : decode cX4_put 48 = .ok (.goto (-45), 3) := by decide +kernel
theorem dX4_put_51 : decode cX4_put 51 = .ok (.aload_n 0, 1) := by decide +kernel
theorem dX4_put_52 : decode cX4_put 52 = .ok (.getfield 19, 3) := by decide +kernel
theorem dX4_put_55 : decode cX4_put 55 = .ok (.ifCond .lt 12, 3) := by decide +kernel
theorem dX4_put_58 : decode cX4_put 58 = .ok (.aload_n 0, 1) := by decide +kernel
theorem dX4_put_59 : decode cX4_put 59 = .ok (.getfield 19, 3) := by decide +kernel
theorem dX4_put_62 : decode cX4_put 62 = .ok (.bipush 40, 2) := by decide +kernel
theorem dX4_put_64 : decode cX4_put 64 = .ok (.if_icmp .lt 5, 3) := by decide +kernel
theorem dX4_put_67 : decode cX4_put 67 = .ok (.iconst (-1), 1) := by decide +kernel
theorem dX4_put_68 : decode cX4_put 68 = .ok (.ireturn, 1) := by decide +kernel
theorem dX4_put_69 : decode cX4_put 69 = .ok (.aload_n 0, 1) := by decide +kernel
theorem dX4_put_70 : decode cX4_put 70 = .ok (.getfield 9, 3) := by decide +kernel
theorem dX4_put_73 : decode cX4_put 73 = .ok (.aload_n 0, 1) := by decide +kernel
theorem dX4_put_74 : decode cX4_put 74 = .ok (.getfield 19, 3) := by decide +kernel
theorem dX4_put_77 : decode cX4_put 77 = .ok (.iload_n 1, 1) := by decide +kernel
theorem dX4_put_78 : decode cX4_put 78 = .ok (.iastore, 1) := by decide +kernel
theorem dX4_put_79 : decode cX4_put 79 = .ok (.aload_n 0, 1) := by decide +kernel
theorem dX4_put_80 : decode cX4_put 80 = .ok (.getfield 15, 3) := by decide +kernel
theorem dX4_put_83 : decode cX4_put 83 = .ok (.aload_n 0, 1) := by decide +kernel
theorem dX4_put_84 : decode cX4_put 84 = .ok (.getfield 19, 3) := by decide +kernel
theorem dX4_put_87 : decode cX4_put 87 = .ok (.lload_n 2, 1) := by decide +kernel
theorem dX4_put_88 : decode cX4_put 88 = .ok (.lastore, 1) := by decide +kernel
theorem dX4_put_89 : decode cX4_put 89 = .ok (.aload_n 0, 1) := by decide +kernel
theorem dX4_put_90 : decode cX4_put 90 = .ok (.dup, 1) := by decide +kernel
theorem dX4_put_91 : decode cX4_put 91 = .ok (.getfield 19, 3) := by decide +kernel
theorem dX4_put_94 : decode cX4_put 94 = .ok (.iconst 1, 1) := by decide +kernel
theorem dX4_put_95 : decode cX4_put 95 = .ok (.iadd, 1) := by decide +kernel
theorem dX4_put_96 : decode cX4_put 96 = .ok (.putfield 19, 3) := by decide +kernel
theorem dX4_put_99 : decode cX4_put 99 = .ok (.aload_n 0, 1) := by decide +kernel
theorem dX4_put_100 : decode cX4_put 100 = .ok (.getfield 19, 3) := by decide +kernel
theorem dX4_put_103 : decode cX4_put 103 = .ok (.iconst 1, 1) := by decide +kernel
theorem dX4_put_104 : decode cX4_put 104 = .ok (.isub, 1) := by decide +kernel
theorem dX4_put_105 : decode cX4_put 105 = .ok (.ireturn, 1) := by decide +kernel
theorem dX4_greatestBar_0 : decode cX4_greatestBar 0 = .ok (.iconst 0, 1) := by decide +kernel
theorem dX4_greatestBar_1 : decode cX4_greatestBar 1 = .ok (.istore_n 1, 1) := by decide +kernel
theorem dX4_greatestBar_2 : decode cX4_greatestBar 2 = .ok (.iconst 0, 1) := by decide +kernel
theorem dX4_greatestBar_3 : decode cX4_greatestBar 3 = .ok (.istore_n 2, 1) := by decide +kernel
theorem dX4_greatestBar_4 : decode cX4_greatestBar 4 = .ok (.iload_n 2, 1) := by decide +kernel
theorem dX4_greatestBar_5 : decode cX4_greatestBar 5 = .ok (.aload_n 0, 1) := by decide +kernel
theorem dX4_greatestBar_6 : decode cX4_greatestBar 6 = .ok (.getfield 19, 3) := by decide +kernel
theorem dX4_greatestBar_9 : decode cX4_greatestBar 9 = .ok (.if_icmp .ge 26, 3) := by decide +kernel
theorem dX4_greatestBar_12 : decode cX4_greatestBar 12 = .ok (.iload_n 2, 1) := by decide +kernel
theorem dX4_greatestBar_13 : decode cX4_greatestBar 13 = .ok (.bipush 40, 2) := by decide +kernel
theorem dX4_greatestBar_15 : decode cX4_greatestBar 15 = .ok (.if_icmp .ge 20, 3) := by decide +kernel
theorem dX4_greatestBar_18 : decode cX4_greatestBar 18 = .ok (.iload_n 1, 1) := by decide +kernel
theorem dX4_greatestBar_19 : decode cX4_greatestBar 19 = .ok (.aload_n 0, 1) := by decide +kernel
theorem dX4_greatestBar_20 : decode cX4_greatestBar 20 = .ok (.getfield 9, 3) := by decide +kernel
theorem dX4_greatestBar_23 : decode cX4_greatestBar 23 = .ok (.iload_n 2, 1) := by decide +kernel
theorem dX4_greatestBar_24 : decode cX4_greatestBar 24 = .ok (.iaload, 1) := by decide +kernel
theorem dX4_greatestBar_25 : decode cX4_greatestBar 25 = .ok (.invokestatic 41, 3) := by decide +kernel
theorem dX4_greatestBar_28 : decode cX4_greatestBar 28 = .ok (.istore_n 1, 1) := by decide +kernel
theorem dX4_greatestBar_29 : decode cX4_greatestBar 29 = .ok (.iinc 2 1, 3) := by decide +kernel
theorem dX4_greatestBar_32 : decode cX4_greatestBar 32 = .ok (.goto (-28), 3) := by decide +kernel
theorem dX4_greatestBar_35 : decode cX4_greatestBar 35 = .ok (.iload_n 1, 1) := by decide +kernel
theorem dX4_greatestBar_36 : decode cX4_greatestBar 36 = .ok (.ireturn, 1) := by decide +kernel
theorem dX4_empty_0 : decode cX4_empty 0 = .ok (.aload_n 0, 1) := by decide +kernel
theorem dX4_empty_1 : decode cX4_empty 1 = .ok (.iconst 0, 1) := by decide +kernel
theorem dX4_empty_2 : decode cX4_empty 2 = .ok (.putfield 19, 3) := by decide +kernel
theorem dX4_empty_5 : decode cX4_empty 5 = .ok (.return_, 1) := by decide +kernel
theorem dX4_copyFrom_0 : decode cX4_copyFrom 0 = .ok (.aload_n 1, 1) := by decide +kernel
theorem dX4_copyFrom_1 : decode cX4_copyFrom 1 = .ok (.ifnonnull 4, 3) := by decide +kernel
theorem dX4_copyFrom_4 : decode cX4_copyFrom 4 = .ok (.return_, 1) := by decide +kernel
theorem dX4_copyFrom_5 : decode cX4_copyFrom 5 = .ok (.iconst 0, 1) := by decide +kernel
theorem dX4_copyFrom_6 : decode cX4_copyFrom 6 = .ok (.istore_n 2, 1) := by decide +kernel
theorem dX4_copyFrom_7 : decode cX4_copyFrom 7 = .ok (.iload_n 2, 1) := by decide +kernel
theorem dX4_copyFrom_8 : decode cX4_copyFrom 8 = .ok (.bipush 40, 2) := by decide +kernel
theorem dX4_copyFrom_10 : decode cX4_copyFrom 10 = .ok (.if_icmp .ge 33, 3) := by decide +kernel
theorem dX4_copyFrom_13 : decode cX4_copyFrom 13 = .ok (.aload_n 0, 1) := by decide +kernel
theorem dX4_copyFrom_14 : decode cX4_copyFrom 14 = .ok (.getfield 9, 3) := by decide +kernel
theorem dX4_copyFrom_17 : decode cX4_copyFrom 17 = .ok (.iload_n 2, 1) := by decide +kernel
theorem dX4_copyFrom_18 : decode cX4_copyFrom 18 = .ok (.aload_n 1, 1) := by decide +kernel
theorem dX4_copyFrom_19 : decode cX4_copyFrom 19 = .ok (.getfield 9, 3) := by decide +kernel
theorem dX4_copyFrom_22 : decode cX4_copyFrom 22 = .ok (.iload_n 2, 1) := by decide +kernel
theorem dX4_copyFrom_23 : decode cX4_copyFrom 23 = .ok (.iaload, 1) := by decide +kernel
theorem dX4_copyFrom_24 : decode cX4_copyFrom 24 = .ok (.iastore, 1) := by decide +kernel
theorem dX4_copyFrom_25 : decode cX4_copyFrom 25 = .ok (.aload_n 0, 1) := by decide +kernel
theorem dX4_copyFrom_26 : decode cX4_copyFrom 26 = .ok (.getfield 15, 3) := by decide +kernel
theorem dX4_copyFrom_29 : decode cX4_copyFrom 29 = .ok (.iload_n 2, 1) := by decide +kernel
theorem dX4_copyFrom_30 : decode cX4_copyFrom 30 = .ok (.aload_n 1, 1) := by decide +kernel
theorem dX4_copyFrom_31 : decode cX4_copyFrom 31 = .ok (.getfield 15, 3) := by decide +kernel
theorem dX4_copyFrom_34 : decode cX4_copyFrom 34 = .ok (.iload_n 2, 1) := by decide +kernel
theorem dX4_copyFrom_35 : decode cX4_copyFrom 35 = .ok (.laload, 1) := by decide +kernel
theorem dX4_copyFrom_36 : decode cX4_copyFrom 36 = .ok (.lastore, 1) := by decide +kernel
theorem dX4_copyFrom_37 : decode cX4_copyFrom 37 = .ok (.iinc 2 1, 3) := by decide +kernel
theorem dX4_copyFrom_40 : decode cX4_copyFrom 40 = .ok (.goto (-33), 3) := by decide +kernel
theorem dX4_copyFrom_43 : decode cX4_copyFrom 43 = .ok (.aload_n 0, 1) := by decide +kernel
theorem dX4_copyFrom_44 : decode cX4_copyFrom 44 = .ok (.aload_n 1, 1) := by decide +kernel
theorem dX4_copyFrom_45 : decode cX4_copyFrom 45 = .ok (.getfield 19, 3) := by decide +kernel
theorem dX4_copyFrom_48 : decode cX4_copyFrom 48 = .ok (.putfield 19, 3) := by decide +kernel
theorem dX4_copyFrom_51 : decode cX4_copyFrom 51 = .ok (.return_, 1) := by decide +kernel
