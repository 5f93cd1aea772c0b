theorem dX7_init_0 : decode cX7_init 0 = .ok (.aload_n 0, 1) := by decide +kernel
theorem dX7_init_1 : decode cX7_init 1 = .ok (.invokespecial 1, 3) := by decide +kernel
theorem dX7_init_4 : decode cX7_init 4 = .ok (.aload_n 0, 1) := by decide +kernel
theorem dX7_init_5 : decode cX7_init 5 = .ok (.new 7, 3) := by decide +kernel
theorem dX7_init_8 : decode cX7_init 8 = .ok (.dup, 1) := by decide +kernel
theorem dX7_init_9 : decode cX7_init 9 = .ok (.invokespecial 9, 3) := by decide +kernel
theorem dX7_init_12 : decode cX7_init 12 = .ok (.putfield 10, 3) := by decide +kernel
theorem dX7_init_15 : decode cX7_init 15 = .ok (.aload_n 0, 1) := by decide +kernel
theorem dX7_init_16 : decode cX7_init 16 = .ok (.iconst 3, 1) := by decide +kernel
theorem dX7_init_17 : decode cX7_init 17 = .ok (.anewarray 7, 3) := by decide +kernel
theorem dX7_init_20 : decode cX7_init 20 = .ok (.putfield 16, 3) := by decide +kernel
theorem dX7_init_23 : decode cX7_init 23 = .ok (.aload_n 0, 1) := by decide +kernel
theorem dX7_init_24 : decode cX7_init 24 = .ok (.new 20, 3) := by decide +kernel
theorem dX7_init_27 : decode cX7_init 27 = .ok (.dup, 1) := by decide +kernel
theorem dX7_init_28 : decode cX7_init 28 = .ok (.invokespecial 22, 3) := by decide +kernel
theorem dX7_init_31 : decode cX7_init 31 = .ok (.putfield 23, 3) := by decide +kernel
theorem dX7_init_34 : decode cX7_init 34 = .ok (.aload_n 0, 1) := by decide +kernel
theorem dX7_init_35 : decode cX7_init 35 = .ok (.new 27, 3) := by decide +kernel
theorem dX7_init_38 : decode cX7_init 38 = .ok (.dup, 1) := by decide +kernel
theorem dX7_init_39 : decode cX7_init 39 = .ok (.invokespecial 29, 3) := by decide +kernel
theorem dX7_init_42 : decode cX7_init 42 = .ok (.putfield 30, 3) := by decide +kernel
theorem dX7_init_45 : decode cX7_init 45 = .ok (.aload_n 0, 1) := by decide +kernel
theorem dX7_init_46 : decode cX7_init 46 = .ok (.new 34, 3) := by decide +kernel
theorem dX7_init_49 : decode cX7_init 49 = .ok (.dup, 1) := by decide +kernel
theorem dX7_init_50 : decode cX7_init 50 = .ok (.invokespecial 36, 3) := by decide +kernel
theorem dX7_init_53 : decode cX7_init 53 = .ok (.putfield 37, 3) := by decide +kernel
theorem dX7_init_56 : decode cX7_init 56 = .ok (.aload_n 0, 1) := by decide +kernel
theorem dX7_init_57 : decode cX7_init 57 = .ok (.new 41, 3) := by decide +kernel
theorem dX7_init_60 : decode cX7_init 60 = .ok (.dup, 1) := by decide +kernel
theorem dX7_init_61 : decode cX7_init 61 = .ok (.invokespecial 43, 3) := by decide +kernel
theorem dX7_init_64 : decode cX7_init 64 = .ok (.putfield 44, 3) := by decide +kernel
theorem dX7_init_67 : decode cX7_init 67 = .ok (.return_, 1) := by decide +kernel
set_option maxRecDepth 20000 in
theorem ggX7_rests_X7_isM : GoodIn wsX7_rests wsX7_isM := goodIn_r _ [4] (by decide +kernel) (by decide +kernel)
set_option maxRecDepth 20000 in
theorem gX7_rests_X7_isM : GoodIn wsX7_rests (va_wsS RX7 48 yX7_isM wsX7_isM) := goodIn_app (goodIn_of _ (by decide +kernel)) ggX7_rests_X7_isM
set_option maxRecDepth 20000 in
theorem ggX7_rests_X3_all : GoodIn wsX7_rests wsX3_all := goodIn_r _ [8, 9, 10, 11, 12, 13, 14, 7, 15] (by decide +kernel) (by decide +kernel)
set_option maxRecDepth 20000 in
theorem gX7_rests_X3_all : GoodIn wsX7_rests (va_wsS RX7 52 yX3_all wsX3_all) := goodIn_app (goodIn_of _ (by decide +kernel)) ggX7_rests_X3_all
set_option maxRecDepth 20000 in
theorem ggX7_rests_X3_size : GoodIn wsX7_rests wsX3_size := goodIn_r _ [18, 19, 20, 21, 22, 23, 24, 25] (by decide +kernel) (by decide +kernel)
set_option maxRecDepth 20000 in
theorem gX7_rests_X3_size : GoodIn wsX7_rests (va_wsS RX7 58 yX3_size wsX3_size) := goodIn_app (goodIn_of _ (by decide +kernel)) ggX7_rests_X3_size
theorem dX7_rests_0 : decode cX7_rests 0 = .ok (.iload_n 1, 1) := by decide +kernel
theorem dX7_rests_1 : decode cX7_rests 1 = .ok (.invokestatic 48, 3) := by decide +kernel
theorem dX7_rests_4 : decode cX7_rests 4 = .ok (.ifCond .eq 13, 3) := by decide +kernel
theorem dX7_rests_7 : decode cX7_rests 7 = .ok (.iload_n 1, 1) := by decide +kernel
theorem dX7_rests_8 : decode cX7_rests 8 = .ok (.invokestatic 52, 3) := by decide +kernel
theorem dX7_rests_11 : decode cX7_rests 11 = .ok (.invokestatic 58, 3) := by decide +kernel
theorem dX7_rests_14 : decode cX7_rests 14 = .ok (.goto 4, 3) := by decide +kernel
theorem dX7_rests_17 : decode cX7_rests 17 = .ok (.iconst (-1), 1) := by decide +kernel
theorem dX7_rests_18 : decode cX7_rests 18 = .ok (.ireturn, 1) := by decide +kernel
set_option maxRecDepth 20000 in
theorem ggX7_factor_X7_isM : GoodIn wsX7_factor wsX7_isM := goodIn_r _ [5] (by decide +kernel) (by decide +kernel)
set_option maxRecDepth 20000 in
theorem gX7_factor_X7_isM : GoodIn wsX7_factor (va_wsS RX7 48 yX7_isM wsX7_isM) := goodIn_app (goodIn_of _ (by decide +kernel)) ggX7_factor_X7_isM
set_option maxRecDepth 20000 in
theorem ggX7_factor_X2_find : GoodIn wsX7_factor wsX2_find := goodIn_r _ [10, 11, 12, 13, 14, 15, 16, 17, 18, 19, 20, 21, 22, 23, 24, 25, 26, 27, 28, 29, 30, 31, 32, 9, 33, 34, 35, 36, 37, 38, 39, 40, 41, 42, 43, 44, 45, 46, 47, 48, 49, 50, 51, 52, 53, 54, 55, 56, 57, 58, 59, 60, 61, 62, 63, 64, 65, 66, 67, 78, 79] (by decide +kernel) (by decide +kernel)
set_option maxRecDepth 20000 in
theorem gX7_factor_X2_find : GoodIn wsX7_factor (wsV RX7 62 RX2 yX2_find wsX2_find) := goodIn_app (goodIn_of _ (by decide +kernel)) ggX7_factor_X2_find
set_option maxRecDepth 20000 in
theorem ggX7_factor_X2_above1 : GoodIn wsX7_factor wsX2_above1 := goodIn_r _ [71, 11, 58, 78, 79] (by decide +kernel) (by decide +kernel)
set_option maxRecDepth 20000 in
theorem gX7_factor_X2_above1 : GoodIn wsX7_factor (wsV RX7 66 RX2 yX2_above1 wsX2_above1) := goodIn_app (goodIn_of _ (by decide +kernel)) ggX7_factor_X2_above1
theorem dX7_factor_0 : decode cX7_factor 0 = .ok (.iload_n 1, 1) := by decide +kernel
theorem dX7_factor_1 : decode cX7_factor 1 = .ok (.invokestatic 48, 3) := by decide +kernel
theorem dX7_factor_4 : decode cX7_factor 4 = .ok (.ifCond .eq 7, 3) := by decide +kernel
theorem dX7_factor_7 : decode cX7_factor 7 = .ok (.iload_n 2, 1) := by decide +kernel
theorem dX7_factor_8 : decode cX7_factor 8 = .ok (.ifCond .ge 5, 3) := by decide +kernel
theorem dX7_factor_11 : decode cX7_factor 11 = .ok (.iconst (-1), 1) := by decide +kernel
theorem dX7_factor_12 : decode cX7_factor 12 = .ok (.ireturn, 1) := by decide +kernel
theorem dX7_factor_13 : decode cX7_factor 13 = .ok (.aload_n 0, 1) := by decide +kernel
theorem dX7_factor_14 : decode cX7_factor 14 = .ok (.getfield 23, 3) := by decide +kernel
theorem dX7_factor_17 : decode cX7_factor 17 = .ok (.iload_n 1, 1) := by decide +kernel
theorem dX7_factor_18 : decode cX7_factor 18 = .ok (.invokevirtual 62, 3) := by decide +kernel
theorem dX7_factor_21 : decode cX7_factor 21 = .ok (.aload_n 0, 1) := by decide +kernel
theorem dX7_factor_22 : decode cX7_factor 22 = .ok (.getfield 23, 3) := by decide +kernel
theorem dX7_factor_25 : decode cX7_factor 25 = .ok (.iload_n 2, 1) := by decide +kernel
theorem dX7_factor_26 : decode cX7_factor 26 = .ok (.invokevirtual 66, 3) := by decide +kernel
theorem dX7_factor_29 : decode cX7_factor 29 = .ok (.ireturn, 1) := by decide +kernel
set_option maxRecDepth 20000 in
theorem ggX7_order_X7_isM : GoodIn wsX7_order wsX7_isM := goodIn_r _ [4] (by decide +kernel) (by decide +kernel)
set_option maxRecDepth 20000 in
theorem gX7_order_X7_isM : GoodIn wsX7_order (va_wsS RX7 48 yX7_isM wsX7_isM) := goodIn_app (goodIn_of _ (by decide +kernel)) ggX7_order_X7_isM
set_option maxRecDepth 20000 in
theorem ggX7_order_X3_all : GoodIn wsX7_order wsX3_all := goodIn_r _ [8, 9, 10, 11, 12, 13, 14, 7, 15] (by decide +kernel) (by decide +kernel)
set_option maxRecDepth 20000 in
theorem gX7_order_X3_all : GoodIn wsX7_order (va_wsS RX7 52 yX3_all wsX3_all) := goodIn_app (goodIn_of _ (by decide +kernel)) ggX7_order_X3_all
set_option maxRecDepth 20000 in
theorem ggX7_order_X3_has : GoodIn wsX7_order wsX3_has := goodIn_r _ [18] (by decide +kernel) (by decide +kernel)
set_option maxRecDepth 20000 in
theorem gX7_order_X3_has : GoodIn wsX7_order (va_wsS RX7 70 yX3_has wsX3_has) := goodIn_app (goodIn_of _ (by decide +kernel)) ggX7_order_X3_has
set_option maxRecDepth 20000 in
theorem ggX7_order_X3_one : GoodIn wsX7_order wsX3_one := goodIn_r _ [21, 22, 23, 11, 24, 13, 14, 7, 15] (by decide +kernel) (by decide +kernel)
set_option maxRecDepth 20000 in
theorem gX7_order_X3_one : GoodIn wsX7_order (va_wsS RX7 74 yX3_one wsX3_one) := goodIn_app (goodIn_of _ (by decide +kernel)) ggX7_order_X3_one
set_option maxRecDepth 20000 in
theorem ggX7_order_X3_orderOver : GoodIn wsX7_order wsX3_orderOver := goodIn_r _ [27, 28, 17, 7, 18, 22, 23, 11, 24] (by decide +kernel) (by decide +kernel)
set_option maxRecDepth 20000 in
theorem gX7_order_X3_orderOver : GoodIn wsX7_order (va_wsS RX7 77 yX3_orderOver wsX3_orderOver) := goodIn_app (goodIn_of _ (by decide +kernel)) ggX7_order_X3_orderOver
theorem dX7_order_0 : decode cX7_order 0 = .ok (.iload_n 1, 1) := by decide +kernel
theorem dX7_order_1 : decode cX7_order 1 = .ok (.invokestatic 48, 3) := by decide +kernel
theorem dX7_order_4 : decode cX7_order 4 = .ok (.ifCond .eq 14, 3) := by decide +kernel
theorem dX7_order_7 : decode cX7_order 7 = .ok (.iload_n 1, 1) := by decide +kernel
theorem dX7_order_8 : decode cX7_order 8 = .ok (.invokestatic 52, 3) := by decide +kernel
theorem dX7_order_11 : decode cX7_order 11 = .ok (.iload_n 2, 1) := by decide +kernel
theorem dX7_order_12 : decode cX7_order 12 = .ok (.invokestatic 70, 3) := by decide +kernel
theorem dX7_order_15 : decode cX7_order 15 = .ok (.ifCond .ne 5, 3) := by decide +kernel
theorem dX7_order_18 : decode cX7_order 18 = .ok (.iconst (-1), 1) := by decide +kernel
theorem dX7_order_19 : decode cX7_order 19 = .ok (.ireturn, 1) := by decide +kernel
theorem dX7_order_20 : decode cX7_order 20 = .ok (.iload_n 1, 1) := by decide +kernel
theorem dX7_order_21 : decode cX7_order 21 = .ok (.invokestatic 74, 3) := by decide +kernel
theorem dX7_order_24 : decode cX7_order 24 = .ok (.iload_n 2, 1) := by decide +kernel
theorem dX7_order_25 : decode cX7_order 25 = .ok (.iload_n 1, 1) := by decide +kernel
theorem dX7_order_26 : decode cX7_order 26 = .ok (.invokestatic 77, 3) := by decide +kernel
theorem dX7_order_29 : decode cX7_order 29 = .ok (.ireturn, 1) := by decide +kernel
set_option maxRecDepth 20000 in
theorem ggX7_make_X7_isM : GoodIn wsX7_make wsX7_isM := goodIn_r _ [5] (by decide +kernel) (by decide +kernel)
set_option maxRecDepth 20000 in
theorem gX7_make_X7_isM : GoodIn wsX7_make (va_wsS RX7 48 yX7_isM wsX7_isM) := goodIn_app (goodIn_of _ (by decide +kernel)) ggX7_make_X7_isM
set_option maxRecDepth 20000 in
theorem ggX7_make_X3_all : GoodIn wsX7_make wsX3_all := goodIn_r _ [9, 10, 11, 12, 13, 14, 15, 8, 16] (by decide +kernel) (by decide +kernel)
set_option maxRecDepth 20000 in
theorem gX7_make_X3_all : GoodIn wsX7_make (va_wsS RX7 52 yX3_all wsX3_all) := goodIn_app (goodIn_of _ (by decide +kernel)) ggX7_make_X3_all
set_option maxRecDepth 20000 in
theorem ggX7_make_X3_madeOf : GoodIn wsX7_make wsX3_madeOf := goodIn_r _ [19, 20, 21, 22, 8, 23, 24, 25, 12, 26, 14, 15, 16, 27, 28, 29, 30, 31, 32, 33, 34, 35] (by decide +kernel) (by decide +kernel)
set_option maxRecDepth 20000 in
theorem gX7_make_X3_madeOf : GoodIn wsX7_make (va_wsS RX7 83 yX3_madeOf wsX3_madeOf) := goodIn_app (goodIn_of _ (by decide +kernel)) ggX7_make_X3_madeOf
set_option maxRecDepth 20000 in
theorem ggX7_make_X7_keep : GoodIn wsX7_make wsX7_keep := goodIn_r _ [39, 40, 41, 42, 8, 43, 20, 44, 7, 9, 10, 11, 12, 13, 14, 15, 16, 45, 46, 47, 48, 49, 50, 27, 28, 29, 24, 25, 26, 51, 52, 53, 54, 55, 56, 57, 58, 59, 60, 61, 62, 63, 64, 65, 66, 67, 68, 69, 70] (by decide +kernel) (by decide +kernel)
set_option maxRecDepth 20000 in
theorem gX7_make_X7_keep : GoodIn wsX7_make (wsV RX7 87 RX7 yX7_keep wsX7_keep) := goodIn_app (goodIn_of _ (by decide +kernel)) ggX7_make_X7_keep
theorem dX7_make_0 : decode cX7_make 0 = .ok (.iload_n 1, 1) := by decide +kernel
theorem dX7_make_1 : decode cX7_make 1 = .ok (.invokestatic 48, 3) := by decide +kernel
theorem dX7_make_4 : decode cX7_make 4 = .ok (.ifCond .eq 18, 3) := by decide +kernel
theorem dX7_make_7 : decode cX7_make 7 = .ok (.lload_n 2, 1) := by decide +kernel
theorem dX7_make_8 : decode cX7_make 8 = .ok (.iload_n 1, 1) := by decide +kernel
theorem dX7_make_9 : decode cX7_make 9 = .ok (.invokestatic 52, 3) := by decide +kernel
theorem dX7_make_12 : decode cX7_make 12 = .ok (.ldc2_w 81, 3) := by decide +kernel
theorem dX7_make_15 : decode cX7_make 15 = .ok (.lxor, 1) := by decide +kernel
theorem dX7_make_16 : decode cX7_make 16 = .ok (.land, 1) := by decide +kernel
theorem dX7_make_17 : decode cX7_make 17 = .ok (.lconst 0, 1) := by decide +kernel
theorem dX7_make_18 : decode cX7_make 18 = .ok (.lcmp, 1) := by decide +kernel
theorem dX7_make_19 : decode cX7_make 19 = .ok (.ifCond .eq 5, 3) := by decide +kernel
theorem dX7_make_22 : decode cX7_make 22 = .ok (.iconst (-1), 1) := by decide +kernel
theorem dX7_make_23 : decode cX7_make 23 = .ok (.ireturn, 1) := by decide +kernel
theorem dX7_make_24 : decode cX7_make 24 = .ok (.aload_n 0, 1) := by decide +kernel
theorem dX7_make_25 : decode cX7_make 25 = .ok (.lload_n 2, 1) := by decide +kernel
theorem dX7_make_26 : decode cX7_make 26 = .ok (.iload_n 1, 1) := by decide +kernel
theorem dX7_make_27 : decode cX7_make 27 = .ok (.invokestatic 83, 3) := by decide +kernel
theorem dX7_make_30 : decode cX7_make 30 = .ok (.iload_n 1, 1) := by decide +kernel
theorem dX7_make_31 : decode cX7_make 31 = .ok (.invokevirtual 87, 3) := by decide +kernel
theorem dX7_make_34 : decode cX7_make 34 = .ok (.ireturn, 1) := by decide +kernel
set_option maxRecDepth 20000 in
theorem ggX7_powers_X7_isM : GoodIn wsX7_powers wsX7_isM := goodIn_r _ [4] (by decide +kernel) (by decide +kernel)
set_option maxRecDepth 20000 in
theorem gX7_powers_X7_isM : GoodIn wsX7_powers (va_wsS RX7 48 yX7_isM wsX7_isM) := goodIn_app (goodIn_of _ (by decide +kernel)) ggX7_powers_X7_isM
set_option maxRecDepth 20000 in
theorem ggX7_powers_X3_allPowers : GoodIn wsX7_powers wsX3_allPowers := goodIn_r _ [8, 9, 10, 7, 11, 12, 13, 14, 15, 16, 17, 18, 19, 20, 21, 22, 23, 24] (by decide +kernel) (by decide +kernel)
set_option maxRecDepth 20000 in
theorem gX7_powers_X3_allPowers : GoodIn wsX7_powers (va_wsS RX7 91 yX3_allPowers wsX3_allPowers) := goodIn_app (goodIn_of _ (by decide +kernel)) ggX7_powers_X3_allPowers
set_option maxRecDepth 20000 in
theorem ggX7_powers_X7_keep : GoodIn wsX7_powers wsX7_keep := goodIn_r _ [28, 29, 30, 31, 7, 32, 33, 9, 10, 11, 12, 13, 14, 15, 16, 17, 18, 34, 35, 36, 37, 38, 39, 19, 20, 21, 22, 23, 24, 40, 41, 42, 43, 44, 45, 46, 47, 48, 49, 50, 51, 52, 53, 54, 55, 56, 57, 58, 59] (by decide +kernel) (by decide +kernel)
set_option maxRecDepth 20000 in
theorem gX7_powers_X7_keep : GoodIn wsX7_powers (wsV RX7 87 RX7 yX7_keep wsX7_keep) := goodIn_app (goodIn_of _ (by decide +kernel)) ggX7_powers_X7_keep
theorem dX7_powers_0 : decode cX7_powers 0 = .ok (.iload_n 1, 1) := by decide +kernel
theorem dX7_powers_1 : decode cX7_powers 1 = .ok (.invokestatic 48, 3) := by decide +kernel
theorem dX7_powers_4 : decode cX7_powers 4 = .ok (.ifCond .eq 14, 3) := by decide +kernel
theorem dX7_powers_7 : decode cX7_powers 7 = .ok (.iload_n 2, 1) := by decide +kernel
theorem dX7_powers_8 : decode cX7_powers 8 = .ok (.iconst 1, 1) := by decide +kernel
theorem dX7_powers_9 : decode cX7_powers 9 = .ok (.if_icmp .lt 9, 3) := by decide +kernel
theorem dX7_powers_12 : decode cX7_powers 12 = .ok (.iload_n 2, 1) := by decide +kernel
theorem dX7_powers_13 : decode cX7_powers 13 = .ok (.bipush 60, 2) := by decide +kernel
theorem dX7_powers_15 : decode cX7_powers 15 = .ok (.if_icmp .le 5, 3) := by decide +kernel
theorem dX7_powers_18 : decode cX7_powers 18 = .ok (.iconst (-1), 1) := by decide +kernel
theorem dX7_powers_19 : decode cX7_powers 19 = .ok (.ireturn, 1) := by decide +kernel
theorem dX7_powers_20 : decode cX7_powers 20 = .ok (.aload_n 0, 1) := by decide +kernel
theorem dX7_powers_21 : decode cX7_powers 21 = .ok (.iload_n 1, 1) := by decide +kernel
theorem dX7_powers_22 : decode cX7_powers 22 = .ok (.iload_n 2, 1) := by decide +kernel
theorem dX7_powers_23 : decode cX7_powers 23 = .ok (.invokestatic 91, 3) := by decide +kernel
theorem dX7_powers_26 : decode cX7_powers 26 = .ok (.iload_n 1, 1) := by decide +kernel
theorem dX7_powers_27 : decode cX7_powers 27 = .ok (.invokevirtual 87, 3) := by decide +kernel
theorem dX7_powers_30 : decode cX7_powers 30 = .ok (.ireturn, 1) := by decide +kernel
set_option maxRecDepth 20000 in
theorem ggX7_join_X7_commonM : GoodIn wsX7_join wsX7_commonM := goodIn_r _ [6, 1, 7, 8, 9, 10, 11, 12, 13, 14, 15, 16, 17, 18, 19, 20, 21, 22, 23, 24, 25, 26, 27, 28, 29, 30, 5, 31, 80, 81, 82, 83, 84, 85, 86, 87, 88] (by decide +kernel) (by decide +kernel)
set_option maxRecDepth 20000 in
theorem gX7_join_X7_commonM : GoodIn wsX7_join (wsV RX7 95 RX7 yX7_commonM wsX7_commonM) := goodIn_app (goodIn_of _ (by decide +kernel)) ggX7_join_X7_commonM
set_option maxRecDepth 20000 in
theorem ggX7_join_X4_bitsBy : GoodIn wsX7_join wsX4_bitsBy := goodIn_r _ [35, 36, 37, 38, 10, 39, 40, 18, 8, 9, 11, 12, 41, 14, 15, 16, 17, 42, 43, 44, 45, 46, 47, 48, 49, 24, 21, 25, 50, 51, 52, 53, 54, 55, 56, 57, 58, 86, 87, 88] (by decide +kernel) (by decide +kernel)
set_option maxRecDepth 20000 in
theorem gX7_join_X4_bitsBy : GoodIn wsX7_join (wsV RX7 99 RX4 yX4_bitsBy wsX4_bitsBy) := goodIn_app (goodIn_of _ (by decide +kernel)) ggX7_join_X4_bitsBy
set_option maxRecDepth 20000 in
theorem ggX7_join_X7_keep : GoodIn wsX7_join wsX7_keep := goodIn_r _ [62, 1, 63, 64, 44, 65, 66, 46, 47, 48, 49, 24, 21, 25, 50, 51, 52, 67, 68, 69, 70, 71, 72, 53, 54, 55, 56, 57, 58, 73, 74, 75, 76, 77, 78, 10, 79, 12, 17, 40, 80, 81, 82, 83, 84, 85, 86, 87, 88] (by decide +kernel) (by decide +kernel)
set_option maxRecDepth 20000 in
theorem gX7_join_X7_keep : GoodIn wsX7_join (wsV RX7 87 RX7 yX7_keep wsX7_keep) := goodIn_app (goodIn_of _ (by decide +kernel)) ggX7_join_X7_keep
theorem dX7_join_0 : decode cX7_join 0 = .ok (.aload_n 0, 1) := by decide +kernel
theorem dX7_join_1 : decode cX7_join 1 = .ok (.iload_n 1, 1) := by decide +kernel
theorem dX7_join_2 : decode cX7_join 2 = .ok (.iload_n 2, 1) := by decide +kernel
theorem dX7_join_3 : decode cX7_join 3 = .ok (.invokevirtual 95, 3) := by decide +kernel
theorem dX7_join_6 : decode cX7_join 6 = .ok (.istore_n 3, 1) := by decide +kernel
theorem dX7_join_7 : decode cX7_join 7 = .ok (.iload_n 3, 1) := by decide +kernel
theorem dX7_join_8 : decode cX7_join 8 = .ok (.iconst (-1), 1) := by decide +kernel
theorem dX7_join_9 : decode cX7_join 9 = .ok (.if_icmp .ne 7, 3) := by decide +kernel
theorem dX7_join_12 : decode cX7_join 12 = .ok (.iconst (-1), 1) := by decide +kernel
theorem dX7_join_13 : decode cX7_join 13 = .ok (.goto 27, 3) := by decide +kernel
theorem dX7_join_16 : decode cX7_join 16 = .ok (.aload_n 0, 1) := by decide +kernel
theorem dX7_join_17 : decode cX7_join 17 = .ok (.aload_n 0, 1) := by decide +kernel
theorem dX7_join_18 : decode cX7_join 18 = .ok (.getfield 10, 3) := by decide +kernel
theorem dX7_join_21 : decode cX7_join 21 = .ok (.iload_n 1, 1) := by decide +kernel
theorem dX7_join_22 : decode cX7_join 22 = .ok (.iload_n 3, 1) := by decide +kernel
theorem dX7_join_23 : decode cX7_join 23 = .ok (.invokevirtual 99, 3) := by decide +kernel
theorem dX7_join_26 : decode cX7_join 26 = .ok (.aload_n 0, 1) := by decide +kernel
theorem dX7_join_27 : decode cX7_join 27 = .ok (.getfield 10, 3) := by decide +kernel
theorem dX7_join_30 : decode cX7_join 30 = .ok (.iload_n 2, 1) := by decide +kernel
theorem dX7_join_31 : decode cX7_join 31 = .ok (.iload_n 3, 1) := by decide +kernel
theorem dX7_join_32 : decode cX7_join 32 = .ok (.invokevirtual 99, 3) := by decide +kernel
theorem dX7_join_35 : decode cX7_join 35 = .ok (.land, 1) := by decide +kernel
theorem dX7_join_36 : decode cX7_join 36 = .ok (.iload_n 3, 1) := by decide +kernel
theorem dX7_join_37 : decode cX7_join 37 = .ok (.invokevirtual 87, 3) := by decide +kernel
theorem dX7_join_40 : decode cX7_join 40 = .ok (.ireturn, 1) := by decide +kernel
set_option maxRecDepth 20000 in
theorem ggX7_meet_X7_commonM : GoodIn wsX7_meet wsX7_commonM := goodIn_r _ [6, 1, 7, 8, 9, 10, 11, 12, 13, 14, 15, 16, 17, 18, 19, 20, 21, 22, 23, 24, 25, 26, 27, 28, 29, 30, 5, 31, 86, 87, 88, 89, 90, 91, 92, 93, 94] (by decide +kernel) (by decide +kernel)
set_option maxRecDepth 20000 in
theorem gX7_meet_X7_commonM : GoodIn wsX7_meet (wsV RX7 95 RX7 yX7_commonM wsX7_commonM) := goodIn_app (goodIn_of _ (by decide +kernel)) ggX7_meet_X7_commonM
set_option maxRecDepth 20000 in
theorem ggX7_meet_X4_bitsBy : GoodIn wsX7_meet wsX4_bitsBy := goodIn_r _ [35, 36, 37, 38, 10, 39, 40, 18, 8, 9, 11, 12, 41, 14, 15, 16, 17, 42, 43, 44, 45, 46, 47, 48, 49, 24, 21, 25, 50, 51, 52, 53, 54, 55, 56, 57, 58, 92, 93, 94] (by decide +kernel) (by decide +kernel)
set_option maxRecDepth 20000 in
theorem gX7_meet_X4_bitsBy : GoodIn wsX7_meet (wsV RX7 99 RX4 yX4_bitsBy wsX4_bitsBy) := goodIn_app (goodIn_of _ (by decide +kernel)) ggX7_meet_X4_bitsBy
set_option maxRecDepth 20000 in
theorem ggX7_meet_X3_product : GoodIn wsX7_meet wsX3_product := goodIn_r _ [61, 62, 53, 54, 44, 55, 63, 64, 65, 56, 57, 21, 58, 50, 51, 52] (by decide +kernel) (by decide +kernel)
set_option maxRecDepth 20000 in
theorem gX7_meet_X3_product : GoodIn wsX7_meet (va_wsS RX7 102 yX3_product wsX3_product) := goodIn_app (goodIn_of _ (by decide +kernel)) ggX7_meet_X3_product
set_option maxRecDepth 20000 in
theorem ggX7_meet_X7_keep : GoodIn wsX7_meet wsX7_keep := goodIn_r _ [69, 1, 70, 71, 44, 72, 62, 46, 47, 48, 49, 24, 21, 25, 50, 51, 52, 73, 74, 75, 76, 77, 78, 53, 54, 55, 56, 57, 58, 79, 80, 81, 82, 83, 84, 10, 85, 12, 17, 40, 86, 87, 88, 89, 90, 91, 92, 93, 94] (by decide +kernel) (by decide +kernel)
set_option maxRecDepth 20000 in
theorem gX7_meet_X7_keep : GoodIn wsX7_meet (wsV RX7 87 RX7 yX7_keep wsX7_keep) := goodIn_app (goodIn_of _ (by decide +kernel)) ggX7_meet_X7_keep
theorem dX7_meet_0 : decode cX7_meet 0 = .ok (.aload_n 0, 1) := by decide +kernel
theorem dX7_meet_1 : decode cX7_meet 1 = .ok (.iload_n 1, 1) := by decide +kernel
theorem dX7_meet_2 : decode cX7_meet 2 = .ok (.iload_n 2, 1) := by decide +kernel
theorem dX7_meet_3 : decode cX7_meet 3 = .ok (.invokevirtual 95, 3) := by decide +kernel
theorem dX7_meet_6 : decode cX7_meet 6 = .ok (.istore_n 3, 1) := by decide +kernel
theorem dX7_meet_7 : decode cX7_meet 7 = .ok (.iload_n 3, 1) := by decide +kernel
theorem dX7_meet_8 : decode cX7_meet 8 = .ok (.iconst (-1), 1) := by decide +kernel
theorem dX7_meet_9 : decode cX7_meet 9 = .ok (.if_icmp .ne 7, 3) := by decide +kernel
theorem dX7_meet_12 : decode cX7_meet 12 = .ok (.iconst (-1), 1) := by decide +kernel
theorem dX7_meet_13 : decode cX7_meet 13 = .ok (.goto 30, 3) := by decide +kernel
theorem dX7_meet_16 : decode cX7_meet 16 = .ok (.aload_n 0, 1) := by decide +kernel
theorem dX7_meet_17 : decode cX7_meet 17 = .ok (.aload_n 0, 1) := by decide +kernel
theorem dX7_meet_18 : decode cX7_meet 18 = .ok (.getfield 10, 3) := by decide +kernel
theorem dX7_meet_21 : decode cX7_meet 21 = .ok (.iload_n 1, 1) := by decide +kernel
theorem dX7_meet_22 : decode cX7_meet 22 = .ok (.iload_n 3, 1) := by decide +kernel
theorem dX7_meet_23 : decode cX7_meet 23 = .ok (.invokevirtual 99, 3) := by decide +kernel
theorem dX7_meet_26 : decode cX7_meet 26 = .ok (.aload_n 0, 1) := by decide +kernel
theorem dX7_meet_27 : decode cX7_meet 27 = .ok (.getfield 10, 3) := by decide +kernel
theorem dX7_meet_30 : decode cX7_meet 30 = .ok (.iload_n 2, 1) := by decide +kernel
theorem dX7_meet_31 : decode cX7_meet 31 = .ok (.iload_n 3, 1) := by decide +kernel
theorem dX7_meet_32 : decode cX7_meet 32 = .ok (.invokevirtual 99, 3) := by decide +kernel
theorem dX7_meet_35 : decode cX7_meet 35 = .ok (.iload_n 3, 1) := by decide +kernel
theorem dX7_meet_36 : decode cX7_meet 36 = .ok (.invokestatic 102, 3) := by decide +kernel
theorem dX7_meet_39 : decode cX7_meet 39 = .ok (.iload_n 3, 1) := by decide +kernel
theorem dX7_meet_40 : decode cX7_meet 40 = .ok (.invokevirtual 87, 3) := by decide +kernel
theorem dX7_meet_43 : decode cX7_meet 43 = .ok (.ireturn, 1) := by decide +kernel
set_option maxRecDepth 20000 in
theorem ggX7_liesIn_X4_holds : GoodIn wsX7_liesIn wsX4_holds := goodIn_r _ [7, 8, 55, 56, 57] (by decide +kernel) (by decide +kernel)
set_option maxRecDepth 20000 in
theorem gX7_liesIn_X4_holds : GoodIn wsX7_liesIn (wsV RX7 106 RX4 yX4_holds wsX4_holds) := goodIn_app (goodIn_of _ (by decide +kernel)) ggX7_liesIn_X4_holds
set_option maxRecDepth 20000 in
theorem ggX7_liesIn_X4_barOf : GoodIn wsX7_liesIn wsX4_barOf := goodIn_r _ [12, 13, 14, 4, 5, 6, 7, 8, 55, 56, 57] (by decide +kernel) (by decide +kernel)
set_option maxRecDepth 20000 in
theorem gX7_liesIn_X4_barOf : GoodIn wsX7_liesIn (wsV RX7 109 RX4 yX4_barOf wsX4_barOf) := goodIn_app (goodIn_of _ (by decide +kernel)) ggX7_liesIn_X4_barOf
set_option maxRecDepth 20000 in
theorem ggX7_liesIn_X6_goesInto : GoodIn wsX7_liesIn wsX6_goesInto := goodIn_r _ [18] (by decide +kernel) (by decide +kernel)
set_option maxRecDepth 20000 in
theorem gX7_liesIn_X6_goesInto : GoodIn wsX7_liesIn (va_wsS RX7 112 yX6_goesInto wsX6_goesInto) := goodIn_app (goodIn_of _ (by decide +kernel)) ggX7_liesIn_X6_goesInto
set_option maxRecDepth 20000 in
theorem ggX7_liesIn_X4_bitsOf : GoodIn wsX7_liesIn wsX4_bitsOf := goodIn_r _ [22, 23, 14, 4, 5, 6, 7, 8, 55, 56, 57] (by decide +kernel) (by decide +kernel)
set_option maxRecDepth 20000 in
theorem gX7_liesIn_X4_bitsOf : GoodIn wsX7_liesIn (wsV RX7 118 RX4 yX4_bitsOf wsX4_bitsOf) := goodIn_app (goodIn_of _ (by decide +kernel)) ggX7_liesIn_X4_bitsOf
set_option maxRecDepth 20000 in
theorem ggX7_liesIn_X4_bitsBy : GoodIn wsX7_liesIn wsX4_bitsBy := goodIn_r _ [27, 28, 20, 21, 6, 22, 23, 14, 4, 5, 7, 8, 29, 10, 11, 12, 13, 30, 31, 32, 33, 34, 35, 36, 37, 38, 17, 39, 40, 41, 42, 43, 44, 45, 46, 47, 48, 55, 56, 57] (by decide +kernel) (by decide +kernel)
set_option maxRecDepth 20000 in
theorem gX7_liesIn_X4_bitsBy : GoodIn wsX7_liesIn (wsV RX7 99 RX4 yX4_bitsBy wsX4_bitsBy) := goodIn_app (goodIn_of _ (by decide +kernel)) ggX7_liesIn_X4_bitsBy
theorem dX7_liesIn_0 : decode cX7_liesIn 0 = .ok (.aload_n 0, 1) := by decide +kernel
theorem dX7_liesIn_1 : decode cX7_liesIn 1 = .ok (.getfield 10, 3) := by decide +kernel
theorem dX7_liesIn_4 : decode cX7_liesIn 4 = .ok (.iload_n 1, 1) := by decide +kernel
theorem dX7_liesIn_5 : decode cX7_liesIn 5 = .ok (.invokevirtual 106, 3) := by decide +kernel
theorem dX7_liesIn_8 : decode cX7_liesIn 8 = .ok (.ifCond .eq 14, 3) := by decide +kernel
theorem dX7_liesIn_11 : decode cX7_liesIn 11 = .ok (.aload_n 0, 1) := by decide +kernel
theorem dX7_liesIn_12 : decode cX7_liesIn 12 = .ok (.getfield 10, 3) := by decide +kernel
theorem dX7_liesIn_15 : decode cX7_liesIn 15 = .ok (.iload_n 2, 1) := by decide +kernel
theorem dX7_liesIn_16 : decode cX7_liesIn 16 = .ok (.invokevirtual 106, 3) := by decide +kernel
theorem dX7_liesIn_19 : decode cX7_liesIn 19 = .ok (.ifCond .ne 5, 3) := by decide +kernel
theorem dX7_liesIn_22 : decode cX7_liesIn 22 = .ok (.iconst 0, 1) := by decide +kernel
theorem dX7_liesIn_23 : decode cX7_liesIn 23 = .ok (.ireturn, 1) := by decide +kernel
theorem dX7_liesIn_24 : decode cX7_liesIn 24 = .ok (.aload_n 0, 1) := by decide +kernel
theorem dX7_liesIn_25 : decode cX7_liesIn 25 = .ok (.getfield 10, 3) := by decide +kernel
theorem dX7_liesIn_28 : decode cX7_liesIn 28 = .ok (.iload_n 2, 1) := by decide +kernel
theorem dX7_liesIn_29 : decode cX7_liesIn 29 = .ok (.invokevirtual 109, 3) := by decide +kernel
theorem dX7_liesIn_32 : decode cX7_liesIn 32 = .ok (.istore_n 3, 1) := by decide +kernel
theorem dX7_liesIn_33 : decode cX7_liesIn 33 = .ok (.aload_n 0, 1) := by decide +kernel
theorem dX7_liesIn_34 : decode cX7_liesIn 34 = .ok (.getfield 10, 3) := by decide +kernel
theorem dX7_liesIn_37 : decode cX7_liesIn 37 = .ok (.iload_n 1, 1) := by decide +kernel
theorem dX7_liesIn_38 : decode cX7_liesIn 38 = .ok (.invokevirtual 109, 3) := by decide +kernel
theorem dX7_liesIn_41 : decode cX7_liesIn 41 = .ok (.iload_n 3, 1) := by decide +kernel
theorem dX7_liesIn_42 : decode cX7_liesIn 42 = .ok (.invokestatic 112, 3) := by decide +kernel
theorem dX7_liesIn_45 : decode cX7_liesIn 45 = .ok (.ifCond .eq 34, 3) := by decide +kernel
theorem dX7_liesIn_48 : decode cX7_liesIn 48 = .ok (.aload_n 0, 1) := by decide +kernel
theorem dX7_liesIn_49 : decode cX7_liesIn 49 = .ok (.getfield 10, 3) := by decide +kernel
theorem dX7_liesIn_52 : decode cX7_liesIn 52 = .ok (.iload_n 2, 1) := by decide +kernel
theorem dX7_liesIn_53 : decode cX7_liesIn 53 = .ok (.invokevirtual 118, 3) := by decide +kernel
theorem dX7_liesIn_56 : decode cX7_liesIn 56 = .ok (.aload_n 0, 1) := by decide +kernel
theorem dX7_liesIn_57 : decode cX7_liesIn 57 = .ok (.getfield 10, 3) := by decide +kernel
theorem dX7_liesIn_60 : decode cX7_liesIn 60 = .ok (.iload_n 1, 1) := by decide +kernel
theorem dX7_liesIn_61 : decode cX7_liesIn 61 = .ok (.iload_n 3, 1) := by decide +kernel
theorem dX7_liesIn_62 : decode cX7_liesIn 62 = .ok (.invokevirtual 99, 3) := by decide +kernel
theorem dX7_liesIn_65 : decode cX7_liesIn 65 = .ok (.ldc2_w 81, 3) := by decide +kernel
theorem dX7_liesIn_68 : decode cX7_liesIn 68 = .ok (.lxor, 1) := by decide +kernel
theorem dX7_liesIn_69 : decode cX7_liesIn 69 = .ok (.land, 1) := by decide +kernel
theorem dX7_liesIn_70 : decode cX7_liesIn 70 = .ok (.lconst 0, 1) := by decide +kernel
theorem dX7_liesIn_71 : decode cX7_liesIn 71 = .ok (.lcmp, 1) := by decide +kernel
theorem dX7_liesIn_72 : decode cX7_liesIn 72 = .ok (.ifCond .ne 7, 3) := by decide +kernel
theorem dX7_liesIn_75 : decode cX7_liesIn 75 = .ok (.iconst 1, 1) := by decide +kernel
theorem dX7_liesIn_76 : decode cX7_liesIn 76 = .ok (.goto 4, 3) := by decide +kernel
theorem dX7_liesIn_79 : decode cX7_liesIn 79 = .ok (.iconst 0, 1) := by decide +kernel
theorem dX7_liesIn_80 : decode cX7_liesIn 80 = .ok (.ireturn, 1) := by decide +kernel
set_option maxRecDepth 20000 in
theorem ggX7_tell_X4_holds : GoodIn wsX7_tell wsX4_holds := goodIn_r _ [7, 8, 105, 106, 107] (by decide +kernel) (by decide +kernel)
set_option maxRecDepth 20000 in
theorem gX7_tell_X4_holds : GoodIn wsX7_tell (wsV RX7 106 RX4 yX4_holds wsX4_holds) := goodIn_app (goodIn_of _ (by decide +kernel)) ggX7_tell_X4_holds
set_option maxRecDepth 20000 in
theorem ggX7_tell_X4_barOf : GoodIn wsX7_tell wsX4_barOf := goodIn_r _ [12, 13, 14, 4, 5, 6, 7, 8, 105, 106, 107] (by decide +kernel) (by decide +kernel)
set_option maxRecDepth 20000 in
theorem gX7_tell_X4_barOf : GoodIn wsX7_tell (wsV RX7 109 RX4 yX4_barOf wsX4_barOf) := goodIn_app (goodIn_of _ (by decide +kernel)) ggX7_tell_X4_barOf
set_option maxRecDepth 20000 in
theorem ggX7_tell_X4_bitsOf : GoodIn wsX7_tell wsX4_bitsOf := goodIn_r _ [18, 19, 14, 4, 5, 6, 7, 8, 105, 106, 107] (by decide +kernel) (by decide +kernel)
set_option maxRecDepth 20000 in
theorem gX7_tell_X4_bitsOf : GoodIn wsX7_tell (wsV RX7 118 RX4 yX4_bitsOf wsX4_bitsOf) := goodIn_app (goodIn_of _ (by decide +kernel)) ggX7_tell_X4_bitsOf
set_option maxRecDepth 20000 in
theorem ggX7_tell_X3_degree : GoodIn wsX7_tell wsX3_degree := goodIn_r _ [23, 24, 25, 22, 26, 27, 28, 29, 30, 31, 32, 33, 34, 35, 36, 37, 38, 39, 40, 41, 42, 43, 44, 45, 46] (by decide +kernel) (by decide +kernel)
set_option maxRecDepth 20000 in
theorem gX7_tell_X3_degree : GoodIn wsX7_tell (va_wsS RX7 121 yX3_degree wsX3_degree) := goodIn_app (goodIn_of _ (by decide +kernel)) ggX7_tell_X3_degree
set_option maxRecDepth 20000 in
theorem ggX7_tell_X3_isReal : GoodIn wsX7_tell wsX3_isReal := goodIn_r _ [49, 50, 51, 22, 52] (by decide +kernel) (by decide +kernel)
set_option maxRecDepth 20000 in
theorem gX7_tell_X3_isReal : GoodIn wsX7_tell (va_wsS RX7 124 yX3_isReal wsX3_isReal) := goodIn_app (goodIn_of _ (by decide +kernel)) ggX7_tell_X3_isReal
set_option maxRecDepth 20000 in
theorem ggX7_tell_X3_isCyclic : GoodIn wsX7_tell wsX3_isCyclic := goodIn_r _ [55, 24, 25, 22, 26, 27, 28, 29, 30, 31, 32, 33, 56, 21, 23, 34, 35, 36, 37, 38, 39, 40, 41, 42, 43, 44, 45, 46, 50, 51, 52, 57, 58, 59, 60, 61, 62] (by decide +kernel) (by decide +kernel)
set_option maxRecDepth 20000 in
theorem gX7_tell_X3_isCyclic : GoodIn wsX7_tell (va_wsS RX7 127 yX3_isCyclic wsX3_isCyclic) := goodIn_app (goodIn_of _ (by decide +kernel)) ggX7_tell_X3_isCyclic
set_option maxRecDepth 20000 in
theorem ggX7_tell_X3_sign : GoodIn wsX7_tell wsX3_sign := goodIn_r _ [65, 56, 21, 22, 23, 24, 25, 26, 27, 28, 29, 30, 31, 32, 33, 34, 35, 36, 37, 38, 39, 40, 41, 42, 43, 44, 45, 46, 66, 48, 49, 50, 51, 52, 67, 68, 69] (by decide +kernel) (by decide +kernel)
set_option maxRecDepth 20000 in
theorem gX7_tell_X3_sign : GoodIn wsX7_tell (va_wsS RX7 130 yX3_sign wsX3_sign) := goodIn_app (goodIn_of _ (by decide +kernel)) ggX7_tell_X3_sign
set_option maxRecDepth 20000 in
theorem ggX7_tell_X0_find : GoodIn wsX7_tell wsX0_find := goodIn_r _ [74, 75, 76, 77, 78, 79, 73, 80, 81, 82, 83, 84, 85, 86, 25, 22, 26, 27, 28, 29, 30, 31, 32, 33, 87, 51, 52, 88, 89, 90, 50, 91, 92, 93, 60, 61, 62, 94, 108, 109] (by decide +kernel) (by decide +kernel)
set_option maxRecDepth 20000 in
theorem gX7_tell_X0_find : GoodIn wsX7_tell (wsV RX7 133 RX0 yX0_find wsX0_find) := goodIn_app (goodIn_of _ (by decide +kernel)) ggX7_tell_X0_find
set_option maxRecDepth 20000 in
theorem ggX7_tell_X0_size : GoodIn wsX7_tell wsX0_size := goodIn_r _ [98, 75, 108, 109] (by decide +kernel) (by decide +kernel)
set_option maxRecDepth 20000 in
theorem gX7_tell_X0_size : GoodIn wsX7_tell (wsV RX7 136 RX0 yX0_size wsX0_size) := goodIn_app (goodIn_of _ (by decide +kernel)) ggX7_tell_X0_size
theorem dX7_tell_0 : decode cX7_tell 0 = .ok (.aload_n 0, 1) := by decide +kernel
theorem dX7_tell_1 : decode cX7_tell 1 = .ok (.getfield 10, 3) := by decide +kernel
theorem dX7_tell_4 : decode cX7_tell 4 = .ok (.iload_n 1, 1) := by decide +kernel
theorem dX7_tell_5 : decode cX7_tell 5 = .ok (.invokevirtual 106, 3) := by decide +kernel
theorem dX7_tell_8 : decode cX7_tell 8 = .ok (.ifCond .ne 6, 3) := by decide +kernel
theorem dX7_tell_11 : decode cX7_tell 11 = .ok (.bipush (-9), 2) := by decide +kernel
theorem dX7_tell_13 : decode cX7_tell 13 = .ok (.ireturn, 1) := by decide +kernel
theorem dX7_tell_14 : decode cX7_tell 14 = .ok (.aload_n 0, 1) := by decide +kernel
theorem dX7_tell_15 : decode cX7_tell 15 = .ok (.getfield 10, 3) := by decide +kernel
theorem dX7_tell_18 : decode cX7_tell 18 = .ok (.iload_n 1, 1) := by decide +kernel
theorem dX7_tell_19 : decode cX7_tell 19 = .ok (.invokevirtual 109, 3) := by decide +kernel
theorem dX7_tell_22 : decode cX7_tell 22 = .ok (.istore_n 3, 1) := by decide +kernel
theorem dX7_tell_23 : decode cX7_tell 23 = .ok (.aload_n 0, 1) := by decide +kernel
theorem dX7_tell_24 : decode cX7_tell 24 = .ok (.getfield 10, 3) := by decide +kernel
theorem dX7_tell_27 : decode cX7_tell 27 = .ok (.iload_n 1, 1) := by decide +kernel
theorem dX7_tell_28 : decode cX7_tell 28 = .ok (.invokevirtual 118, 3) := by decide +kernel
theorem dX7_tell_31 : decode cX7_tell 31 = .ok (.lstore 4, 2) := by decide +kernel
theorem dX7_tell_33 : decode cX7_tell 33 = .ok (.iload_n 2, 1) := by decide +kernel
theorem dX7_tell_34 : decode cX7_tell 34 = .ok (.tableswitch 102 0 5 #[38, 40, 47, 62, 77, 84], 38) := by decide +kernel
theorem dX7_tell_72 : decode cX7_tell 72 = .ok (.iload_n 3, 1) := by decide +kernel
theorem dX7_tell_73 : decode cX7_tell 73 = .ok (.ireturn, 1) := by decide +kernel
theorem dX7_tell_74 : decode cX7_tell 74 = .ok (.lload 4, 2) := by decide +kernel
theorem dX7_tell_76 : decode cX7_tell 76 = .ok (.iload_n 3, 1) := by decide +kernel
theorem dX7_tell_77 : decode cX7_tell 77 = .ok (.invokestatic 121, 3) := by decide +kernel
theorem dX7_tell_80 : decode cX7_tell 80 = .ok (.ireturn, 1) := by decide +kernel
theorem dX7_tell_81 : decode cX7_tell 81 = .ok (.lload 4, 2) := by decide +kernel
theorem dX7_tell_83 : decode cX7_tell 83 = .ok (.iload_n 3, 1) := by decide +kernel
theorem dX7_tell_84 : decode cX7_tell 84 = .ok (.invokestatic 124, 3) := by decide +kernel
theorem dX7_tell_87 : decode cX7_tell 87 = .ok (.ifCond .eq 7, 3) := by decide +kernel
theorem dX7_tell_90 : decode cX7_tell 90 = .ok (.iconst 1, 1) := by decide +kernel
theorem dX7_tell_91 : decode cX7_tell 91 = .ok (.goto 4, 3) := by decide +kernel
theorem dX7_tell_94 : decode cX7_tell 94 = .ok (.iconst 0, 1) := by decide +kernel
theorem dX7_tell_95 : decode cX7_tell 95 = .ok (.ireturn, 1) := by decide +kernel
theorem dX7_tell_96 : decode cX7_tell 96 = .ok (.lload 4, 2) := by decide +kernel
theorem dX7_tell_98 : decode cX7_tell 98 = .ok (.iload_n 3, 1) := by decide +kernel
theorem dX7_tell_99 : decode cX7_tell 99 = .ok (.invokestatic 127, 3) := by decide +kernel
theorem dX7_tell_102 : decode cX7_tell 102 = .ok (.ifCond .eq 7, 3) := by decide +kernel
theorem dX7_tell_105 : decode cX7_tell 105 = .ok (.iconst 1, 1) := by decide +kernel
theorem dX7_tell_106 : decode cX7_tell 106 = .ok (.goto 4, 3) := by decide +kernel
theorem dX7_tell_109 : decode cX7_tell 109 = .ok (.iconst 0, 1) := by decide +kernel
theorem dX7_tell_110 : decode cX7_tell 110 = .ok (.ireturn, 1) := by decide +kernel
theorem dX7_tell_111 : decode cX7_tell 111 = .ok (.lload 4, 2) := by decide +kernel
theorem dX7_tell_113 : decode cX7_tell 113 = .ok (.iload_n 3, 1) := by decide +kernel
theorem dX7_tell_114 : decode cX7_tell 114 = .ok (.invokestatic 130, 3) := by decide +kernel
theorem dX7_tell_117 : decode cX7_tell 117 = .ok (.ireturn, 1) := by decide +kernel
theorem dX7_tell_118 : decode cX7_tell 118 = .ok (.aload_n 0, 1) := by decide +kernel
theorem dX7_tell_119 : decode cX7_tell 119 = .ok (.getfield 30, 3) := by decide +kernel
theorem dX7_tell_122 : decode cX7_tell 122 = .ok (.lload 4, 2) := by decide +kernel
theorem dX7_tell_124 : decode cX7_tell 124 = .ok (.iload_n 3, 1) := by decide +kernel
theorem dX7_tell_125 : decode cX7_tell 125 = .ok (.invokevirtual 133, 3) := by decide +kernel
theorem dX7_tell_128 : decode cX7_tell 128 = .ok (.aload_n 0, 1) := by decide +kernel
theorem dX7_tell_129 : decode cX7_tell 129 = .ok (.getfield 30, 3) := by decide +kernel
theorem dX7_tell_132 : decode cX7_tell 132 = .ok (.invokevirtual 136, 3) := by decide +kernel
theorem dX7_tell_135 : decode cX7_tell 135 = .ok (.ireturn, 1) := by decide +kernel
theorem dX7_tell_136 : decode cX7_tell 136 = .ok (.bipush (-9), 2) := by decide +kernel
theorem dX7_tell_138 : decode cX7_tell 138 = .ok (.ireturn, 1) := by decide +kernel
set_option maxRecDepth 20000 in
theorem ggX7_group_X4_holds : GoodIn wsX7_group wsX4_holds := goodIn_r _ [7, 8, 21, 22, 23] (by decide +kernel) (by decide +kernel)
set_option maxRecDepth 20000 in
theorem gX7_group_X4_holds : GoodIn wsX7_group (wsV RX7 106 RX4 yX4_holds wsX4_holds) := goodIn_app (goodIn_of _ (by decide +kernel)) ggX7_group_X4_holds
set_option maxRecDepth 20000 in
theorem ggX7_group_X4_bitsOf : GoodIn wsX7_group wsX4_bitsOf := goodIn_r _ [12, 13, 14, 4, 5, 6, 7, 8, 21, 22, 23] (by decide +kernel) (by decide +kernel)
set_option maxRecDepth 20000 in
theorem gX7_group_X4_bitsOf : GoodIn wsX7_group (wsV RX7 118 RX4 yX4_bitsOf wsX4_bitsOf) := goodIn_app (goodIn_of _ (by decide +kernel)) ggX7_group_X4_bitsOf
theorem dX7_group_0 : decode cX7_group 0 = .ok (.aload_n 0, 1) := by decide +kernel
theorem dX7_group_1 : decode cX7_group 1 = .ok (.getfield 10, 3) := by decide +kernel
theorem dX7_group_4 : decode cX7_group 4 = .ok (.iload_n 1, 1) := by decide +kernel
theorem dX7_group_5 : decode cX7_group 5 = .ok (.invokevirtual 106, 3) := by decide +kernel
theorem dX7_group_8 : decode cX7_group 8 = .ok (.ifCond .eq 14, 3) := by decide +kernel
theorem dX7_group_11 : decode cX7_group 11 = .ok (.aload_n 0, 1) := by decide +kernel
theorem dX7_group_12 : decode cX7_group 12 = .ok (.getfield 10, 3) := by decide +kernel
theorem dX7_group_15 : decode cX7_group 15 = .ok (.iload_n 1, 1) := by decide +kernel
theorem dX7_group_16 : decode cX7_group 16 = .ok (.invokevirtual 118, 3) := by decide +kernel
theorem dX7_group_19 : decode cX7_group 19 = .ok (.goto 6, 3) := by decide +kernel
theorem dX7_group_22 : decode cX7_group 22 = .ok (.ldc2_w 81, 3) := by decide +kernel
theorem dX7_group_25 : decode cX7_group 25 = .ok (.lreturn, 1) := by decide +kernel
set_option maxRecDepth 20000 in
theorem ggX7_parts_X4_holds : GoodIn wsX7_parts wsX4_holds := goodIn_r _ [6, 7, 90, 91, 92] (by decide +kernel) (by decide +kernel)
set_option maxRecDepth 20000 in
theorem gX7_parts_X4_holds : GoodIn wsX7_parts (wsV RX7 106 RX4 yX4_holds wsX4_holds) := goodIn_app (goodIn_of _ (by decide +kernel)) ggX7_parts_X4_holds
set_option maxRecDepth 20000 in
theorem ggX7_parts_X6_isPrime : GoodIn wsX7_parts wsX6_isPrime := goodIn_r _ [11, 12, 13, 10, 14] (by decide +kernel) (by decide +kernel)
set_option maxRecDepth 20000 in
theorem gX7_parts_X6_isPrime : GoodIn wsX7_parts (va_wsS RX7 139 yX6_isPrime wsX6_isPrime) := goodIn_app (goodIn_of _ (by decide +kernel)) ggX7_parts_X6_isPrime
set_option maxRecDepth 20000 in
theorem ggX7_parts_X4_barOf : GoodIn wsX7_parts wsX4_barOf := goodIn_r _ [18, 19, 20, 3, 4, 5, 6, 7, 90, 91, 92] (by decide +kernel) (by decide +kernel)
set_option maxRecDepth 20000 in
theorem gX7_parts_X4_barOf : GoodIn wsX7_parts (wsV RX7 109 RX4 yX4_barOf wsX4_barOf) := goodIn_app (goodIn_of _ (by decide +kernel)) ggX7_parts_X4_barOf
set_option maxRecDepth 20000 in
theorem ggX7_parts_X4_bitsOf : GoodIn wsX7_parts wsX4_bitsOf := goodIn_r _ [24, 25, 20, 3, 4, 5, 6, 7, 90, 91, 92] (by decide +kernel) (by decide +kernel)
set_option maxRecDepth 20000 in
theorem gX7_parts_X4_bitsOf : GoodIn wsX7_parts (wsV RX7 118 RX4 yX4_bitsOf wsX4_bitsOf) := goodIn_app (goodIn_of _ (by decide +kernel)) ggX7_parts_X4_bitsOf
set_option maxRecDepth 20000 in
theorem ggX7_parts_X6_without : GoodIn wsX7_parts wsX6_without := goodIn_r _ [28, 29, 30, 10, 31, 12, 13, 14, 32, 33, 34] (by decide +kernel) (by decide +kernel)
set_option maxRecDepth 20000 in
theorem gX7_parts_X6_without : GoodIn wsX7_parts (va_wsS RX7 142 yX6_without wsX6_without) := goodIn_app (goodIn_of _ (by decide +kernel)) ggX7_parts_X6_without
set_option maxRecDepth 20000 in
theorem ggX7_parts_X3_onesBy : GoodIn wsX7_parts wsX3_onesBy := goodIn_r _ [38, 39, 40, 37, 41, 42, 43, 10, 44, 45, 46, 47, 48, 49, 50, 51, 52, 53] (by decide +kernel) (by decide +kernel)
set_option maxRecDepth 20000 in
theorem gX7_parts_X3_onesBy : GoodIn wsX7_parts (va_wsS RX7 145 yX3_onesBy wsX3_onesBy) := goodIn_app (goodIn_of _ (by decide +kernel)) ggX7_parts_X3_onesBy
set_option maxRecDepth 20000 in
theorem ggX7_parts_X3_product : GoodIn wsX7_parts wsX3_product := goodIn_r _ [56, 57, 48, 49, 37, 50, 58, 59, 60, 51, 52, 10, 53, 45, 46, 47] (by decide +kernel) (by decide +kernel)
set_option maxRecDepth 20000 in
theorem gX7_parts_X3_product : GoodIn wsX7_parts (va_wsS RX7 102 yX3_product wsX3_product) := goodIn_app (goodIn_of _ (by decide +kernel)) ggX7_parts_X3_product
set_option maxRecDepth 20000 in
theorem ggX7_parts_X3_lowered : GoodIn wsX7_parts wsX3_lowered := goodIn_r _ [63, 48, 49, 37, 50, 51, 52, 10, 53, 45, 46, 47] (by decide +kernel) (by decide +kernel)
set_option maxRecDepth 20000 in
theorem gX7_parts_X3_lowered : GoodIn wsX7_parts (va_wsS RX7 148 yX3_lowered wsX3_lowered) := goodIn_app (goodIn_of _ (by decide +kernel)) ggX7_parts_X3_lowered
set_option maxRecDepth 20000 in
theorem ggX7_parts_X6_rest : GoodIn wsX7_parts wsX6_rest := goodIn_r _ [53] (by decide +kernel) (by decide +kernel)
set_option maxRecDepth 20000 in
theorem gX7_parts_X6_rest : GoodIn wsX7_parts (va_wsS RX7 151 yX6_rest wsX6_rest) := goodIn_app (goodIn_of _ (by decide +kernel)) ggX7_parts_X6_rest
set_option maxRecDepth 20000 in
theorem ggX7_parts_X3_orderOver : GoodIn wsX7_parts wsX3_orderOver := goodIn_r _ [67, 48, 49, 37, 50, 51, 52, 10, 53] (by decide +kernel) (by decide +kernel)
set_option maxRecDepth 20000 in
theorem gX7_parts_X3_orderOver : GoodIn wsX7_parts (va_wsS RX7 77 yX3_orderOver wsX3_orderOver) := goodIn_app (goodIn_of _ (by decide +kernel)) ggX7_parts_X3_orderOver
set_option maxRecDepth 20000 in
theorem ggX7_parts_X3_size : GoodIn wsX7_parts wsX3_size := goodIn_r _ [70, 71, 72, 73, 74, 75, 76, 77] (by decide +kernel) (by decide +kernel)
set_option maxRecDepth 20000 in
theorem gX7_parts_X3_size : GoodIn wsX7_parts (va_wsS RX7 58 yX3_size wsX3_size) := goodIn_app (goodIn_of _ (by decide +kernel)) ggX7_parts_X3_size
set_option maxRecDepth 20000 in
theorem ggX7_parts_X6_quotient : GoodIn wsX7_parts wsX6_quotient := goodIn_r _ [34] (by decide +kernel) (by decide +kernel)
set_option maxRecDepth 20000 in
theorem gX7_parts_X6_quotient : GoodIn wsX7_parts (va_wsS RX7 154 yX6_quotient wsX6_quotient) := goodIn_app (goodIn_of _ (by decide +kernel)) ggX7_parts_X6_quotient
set_option maxRecDepth 20000 in
theorem ggX7_parts_X3_degree : GoodIn wsX7_parts wsX3_degree := goodIn_r _ [81, 39, 40, 37, 41, 42, 43, 10, 44, 45, 46, 47, 82, 69, 70, 71, 72, 73, 74, 75, 76, 77, 83, 33, 34] (by decide +kernel) (by decide +kernel)
set_option maxRecDepth 20000 in
theorem gX7_parts_X3_degree : GoodIn wsX7_parts (va_wsS RX7 121 yX3_degree wsX3_degree) := goodIn_app (goodIn_of _ (by decide +kernel)) ggX7_parts_X3_degree
theorem dX7_parts_0 : decode cX7_parts 0 = .ok (.aload_n 0, 1) := by decide +kernel
theorem dX7_parts_1 : decode cX7_parts 1 = .ok (.getfield 10, 3) := by decide +kernel
theorem dX7_parts_4 : decode cX7_parts 4 = .ok (.iload_n 1, 1) := by decide +kernel
theorem dX7_parts_5 : decode cX7_parts 5 = .ok (.invokevirtual 106, 3) := by decide +kernel
theorem dX7_parts_8 : decode cX7_parts 8 = .ok (.ifCond .eq 10, 3) := by decide +kernel
theorem dX7_parts_11 : decode cX7_parts 11 = .ok (.iload_n 2, 1) := by decide +kernel
theorem dX7_parts_12 : decode cX7_parts 12 = .ok (.invokestatic 139, 3) := by decide +kernel
theorem dX7_parts_15 : decode cX7_parts 15 = .ok (.ifCond .ne 5, 3) := by decide +kernel
theorem dX7_parts_18 : decode cX7_parts 18 = .ok (.iconst (-1), 1) := by decide +kernel
theorem dX7_parts_19 : decode cX7_parts 19 = .ok (.ireturn, 1) := by decide +kernel
theorem dX7_parts_20 : decode cX7_parts 20 = .ok (.aload_n 0, 1) := by decide +kernel
theorem dX7_parts_21 : decode cX7_parts 21 = .ok (.getfield 10, 3) := by decide +kernel
theorem dX7_parts_24 : decode cX7_parts 24 = .ok (.iload_n 1, 1) := by decide +kernel
theorem dX7_parts_25 : decode cX7_parts 25 = .ok (.invokevirtual 109, 3) := by decide +kernel
theorem dX7_parts_28 : decode cX7_parts 28 = .ok (.istore 4, 2) := by decide +kernel
theorem dX7_parts_30 : decode cX7_parts 30 = .ok (.aload_n 0, 1) := by decide +kernel
theorem dX7_parts_31 : decode cX7_parts 31 = .ok (.getfield 10, 3) := by decide +kernel
theorem dX7_parts_34 : decode cX7_parts 34 = .ok (.iload_n 1, 1) := by decide +kernel
theorem dX7_parts_35 : decode cX7_parts 35 = .ok (.invokevirtual 118, 3) := by decide +kernel
theorem dX7_parts_38 : decode cX7_parts 38 = .ok (.lstore 5, 2) := by decide +kernel
theorem dX7_parts_40 : decode cX7_parts 40 = .ok (.iload 4, 2) := by decide +kernel
theorem dX7_parts_42 : decode cX7_parts 42 = .ok (.iload_n 2, 1) := by decide +kernel
theorem dX7_parts_43 : decode cX7_parts 43 = .ok (.invokestatic 142, 3) := by decide +kernel
theorem dX7_parts_46 : decode cX7_parts 46 = .ok (.istore 7, 2) := by decide +kernel
theorem dX7_parts_48 : decode cX7_parts 48 = .ok (.lload 5, 2) := by decide +kernel
theorem dX7_parts_50 : decode cX7_parts 50 = .ok (.iload 7, 2) := by decide +kernel
theorem dX7_parts_52 : decode cX7_parts 52 = .ok (.iload 4, 2) := by decide +kernel
theorem dX7_parts_54 : decode cX7_parts 54 = .ok (.invokestatic 145, 3) := by decide +kernel
theorem dX7_parts_57 : decode cX7_parts 57 = .ok (.iload 4, 2) := by decide +kernel
theorem dX7_parts_59 : decode cX7_parts 59 = .ok (.invokestatic 102, 3) := by decide +kernel
theorem dX7_parts_62 : decode cX7_parts 62 = .ok (.lstore 8, 2) := by decide +kernel
theorem dX7_parts_64 : decode cX7_parts 64 = .ok (.lload 8, 2) := by decide +kernel
theorem dX7_parts_66 : decode cX7_parts 66 = .ok (.iload 7, 2) := by decide +kernel
theorem dX7_parts_68 : decode cX7_parts 68 = .ok (.invokestatic 148, 3) := by decide +kernel
theorem dX7_parts_71 : decode cX7_parts 71 = .ok (.iload_n 2, 1) := by decide +kernel
theorem dX7_parts_72 : decode cX7_parts 72 = .ok (.iload 7, 2) := by decide +kernel
theorem dX7_parts_74 : decode cX7_parts 74 = .ok (.invokestatic 151, 3) := by decide +kernel
theorem dX7_parts_77 : decode cX7_parts 77 = .ok (.iload 7, 2) := by decide +kernel
theorem dX7_parts_79 : decode cX7_parts 79 = .ok (.invokestatic 77, 3) := by decide +kernel
theorem dX7_parts_82 : decode cX7_parts 82 = .ok (.istore 10, 2) := by decide +kernel
theorem dX7_parts_84 : decode cX7_parts 84 = .ok (.iload_n 3, 1) := by decide +kernel
theorem dX7_parts_85 : decode cX7_parts 85 = .ok (.tableswitch 57 0 2 #[27, 41, 44], 27) := by decide +kernel
theorem dX7_parts_112 : decode cX7_parts 112 = .ok (.lload 8, 2) := by decide +kernel
theorem dX7_parts_114 : decode cX7_parts 114 = .ok (.invokestatic 58, 3) := by decide +kernel
theorem dX7_parts_117 : decode cX7_parts 117 = .ok (.lload 5, 2) := by decide +kernel
theorem dX7_parts_119 : decode cX7_parts 119 = .ok (.invokestatic 58, 3) := by decide +kernel
theorem dX7_parts_122 : decode cX7_parts 122 = .ok (.invokestatic 154, 3) := by decide +kernel
theorem dX7_parts_125 : decode cX7_parts 125 = .ok (.ireturn, 1) := by decide +kernel
theorem dX7_parts_126 : decode cX7_parts 126 = .ok (.iload 10, 2) := by decide +kernel
theorem dX7_parts_128 : decode cX7_parts 128 = .ok (.ireturn, 1) := by decide +kernel
theorem dX7_parts_129 : decode cX7_parts 129 = .ok (.lload 8, 2) := by decide +kernel
theorem dX7_parts_131 : decode cX7_parts 131 = .ok (.iload 4, 2) := by decide +kernel
theorem dX7_parts_133 : decode cX7_parts 133 = .ok (.invokestatic 121, 3) := by decide +kernel
theorem dX7_parts_136 : decode cX7_parts 136 = .ok (.iload 10, 2) := by decide +kernel
theorem dX7_parts_138 : decode cX7_parts 138 = .ok (.invokestatic 154, 3) := by decide +kernel
theorem dX7_parts_141 : decode cX7_parts 141 = .ok (.ireturn, 1) := by decide +kernel
theorem dX7_parts_142 : decode cX7_parts 142 = .ok (.iconst (-1), 1) := by decide +kernel
theorem dX7_parts_143 : decode cX7_parts 143 = .ok (.ireturn, 1) := by decide +kernel
set_option maxRecDepth 20000 in
theorem ggX7_discriminant_X4_holds : GoodIn wsX7_discriminant wsX4_holds := goodIn_r _ [7, 8, 119, 120, 121] (by decide +kernel) (by decide +kernel)
set_option maxRecDepth 20000 in
theorem gX7_discriminant_X4_holds : GoodIn wsX7_discriminant (wsV RX7 106 RX4 yX4_holds wsX4_holds) := goodIn_app (goodIn_of _ (by decide +kernel)) ggX7_discriminant_X4_holds
set_option maxRecDepth 20000 in
theorem ggX7_discriminant_X6_isPrime : GoodIn wsX7_discriminant wsX6_isPrime := goodIn_r _ [12, 13, 14, 11, 15] (by decide +kernel) (by decide +kernel)
set_option maxRecDepth 20000 in
theorem gX7_discriminant_X6_isPrime : GoodIn wsX7_discriminant (va_wsS RX7 139 yX6_isPrime wsX6_isPrime) := goodIn_app (goodIn_of _ (by decide +kernel)) ggX7_discriminant_X6_isPrime
set_option maxRecDepth 20000 in
theorem ggX7_discriminant_X4_barOf : GoodIn wsX7_discriminant wsX4_barOf := goodIn_r _ [19, 20, 21, 4, 5, 6, 7, 8, 119, 120, 121] (by decide +kernel) (by decide +kernel)
set_option maxRecDepth 20000 in
theorem gX7_discriminant_X4_barOf : GoodIn wsX7_discriminant (wsV RX7 109 RX4 yX4_barOf wsX4_barOf) := goodIn_app (goodIn_of _ (by decide +kernel)) ggX7_discriminant_X4_barOf
set_option maxRecDepth 20000 in
theorem ggX7_discriminant_X4_bitsOf : GoodIn wsX7_discriminant wsX4_bitsOf := goodIn_r _ [25, 26, 21, 4, 5, 6, 7, 8, 119, 120, 121] (by decide +kernel) (by decide +kernel)
set_option maxRecDepth 20000 in
theorem gX7_discriminant_X4_bitsOf : GoodIn wsX7_discriminant (wsV RX7 118 RX4 yX4_bitsOf wsX4_bitsOf) := goodIn_app (goodIn_of _ (by decide +kernel)) ggX7_discriminant_X4_bitsOf
set_option maxRecDepth 20000 in
theorem ggX7_discriminant_X0_find : GoodIn wsX7_discriminant wsX0_find := goodIn_r _ [31, 32, 33, 34, 35, 36, 30, 37, 38, 39, 40, 41, 42, 43, 44, 45, 46, 47, 48, 11, 49, 50, 51, 52, 53, 54, 55, 56, 57, 58, 59, 60, 61, 62, 63, 64, 65, 66, 122, 123] (by decide +kernel) (by decide +kernel)
set_option maxRecDepth 20000 in
theorem gX7_discriminant_X0_find : GoodIn wsX7_discriminant (wsV RX7 133 RX0 yX0_find wsX0_find) := goodIn_app (goodIn_of _ (by decide +kernel)) ggX7_discriminant_X0_find
set_option maxRecDepth 20000 in
theorem ggX7_discriminant_X0_size : GoodIn wsX7_discriminant wsX0_size := goodIn_r _ [70, 32, 122, 123] (by decide +kernel) (by decide +kernel)
set_option maxRecDepth 20000 in
theorem gX7_discriminant_X0_size : GoodIn wsX7_discriminant (wsV RX7 136 RX0 yX0_size wsX0_size) := goodIn_app (goodIn_of _ (by decide +kernel)) ggX7_discriminant_X0_size
set_option maxRecDepth 20000 in
theorem ggX7_discriminant_X0_at : GoodIn wsX7_discriminant wsX0_at := goodIn_r _ [74, 32, 33, 122, 123] (by decide +kernel) (by decide +kernel)
set_option maxRecDepth 20000 in
theorem gX7_discriminant_X0_at : GoodIn wsX7_discriminant (wsV RX7 157 RX0 yX0_at wsX0_at) := goodIn_app (goodIn_of _ (by decide +kernel)) ggX7_discriminant_X0_at
set_option maxRecDepth 20000 in
theorem ggX7_discriminant_X3_characters : GoodIn wsX7_discriminant wsX3_characters := goodIn_r _ [77, 78, 79, 45, 80, 81, 44, 46, 47, 48, 11, 49, 50, 51, 52, 82, 83, 84, 85, 86, 87, 88, 89, 90, 91, 92, 93, 94, 95, 96, 97, 59, 54, 55, 98, 99, 100, 63, 64, 65] (by decide +kernel) (by decide +kernel)
set_option maxRecDepth 20000 in
theorem gX7_discriminant_X3_characters : GoodIn wsX7_discriminant (va_wsS RX7 160 yX3_characters wsX3_characters) := goodIn_app (goodIn_of _ (by decide +kernel)) ggX7_discriminant_X3_characters
set_option maxRecDepth 20000 in
theorem ggX7_discriminant_X3_bar : GoodIn wsX7_discriminant wsX3_bar := goodIn_r _ [103, 104, 81, 44, 45, 46, 47, 48, 11, 49, 50, 51, 52, 105, 14, 15, 106, 107, 108, 59, 54, 55, 63, 64, 65] (by decide +kernel) (by decide +kernel)
set_option maxRecDepth 20000 in
theorem gX7_discriminant_X3_bar : GoodIn wsX7_discriminant (va_wsS RX7 163 yX3_bar wsX3_bar) := goodIn_app (goodIn_of _ (by decide +kernel)) ggX7_discriminant_X3_bar
set_option maxRecDepth 20000 in
theorem ggX7_discriminant_X6_howOften : GoodIn wsX7_discriminant wsX6_howOften := goodIn_r _ [111, 13, 14, 11, 15, 112, 96, 97] (by decide +kernel) (by decide +kernel)
set_option maxRecDepth 20000 in
theorem gX7_discriminant_X6_howOften : GoodIn wsX7_discriminant (va_wsS RX7 166 yX6_howOften wsX6_howOften) := goodIn_app (goodIn_of _ (by decide +kernel)) ggX7_discriminant_X6_howOften
theorem dX7_discriminant_0 : decode cX7_discriminant 0 = .ok (.aload_n 0, 1) := by decide +kernel
theorem dX7_discriminant_1 : decode cX7_discriminant 1 = .ok (.getfield 10, 3) := by decide +kernel
theorem dX7_discriminant_4 : decode cX7_discriminant 4 = .ok (.iload_n 1, 1) := by decide +kernel
theorem dX7_discriminant_5 : decode cX7_discriminant 5 = .ok (.invokevirtual 106, 3) := by decide +kernel
theorem dX7_discriminant_8 : decode cX7_discriminant 8 = .ok (.ifCond .eq 10, 3) := by decide +kernel
theorem dX7_discriminant_11 : decode cX7_discriminant 11 = .ok (.iload_n 2, 1) := by decide +kernel
theorem dX7_discriminant_12 : decode cX7_discriminant 12 = .ok (.invokestatic 139, 3) := by decide +kernel
theorem dX7_discriminant_15 : decode cX7_discriminant 15 = .ok (.ifCond .ne 5, 3) := by decide +kernel
theorem dX7_discriminant_18 : decode cX7_discriminant 18 = .ok (.iconst (-1), 1) := by decide +kernel
theorem dX7_discriminant_19 : decode cX7_discriminant 19 = .ok (.ireturn, 1) := by decide +kernel
theorem dX7_discriminant_20 : decode cX7_discriminant 20 = .ok (.aload_n 0, 1) := by decide +kernel
theorem dX7_discriminant_21 : decode cX7_discriminant 21 = .ok (.getfield 10, 3) := by decide +kernel
