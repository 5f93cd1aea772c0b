theorem dX8_init_0 : decode cX8_init 0 = .ok (.aload_n 0, 1) := by decide +kernel
theorem dX8_init_1 : decode cX8_init 1 = .ok (.invokespecial 1, 3) := by decide +kernel
theorem dX8_init_4 : decode cX8_init 4 = .ok (.aload_n 0, 1) := by decide +kernel
theorem dX8_init_5 : decode cX8_init 5 = .ok (.sipush 160, 3) := by decide +kernel
theorem dX8_init_8 : decode cX8_init 8 = .ok (.newarray .int, 2) := by decide +kernel
theorem dX8_init_10 : decode cX8_init 10 = .ok (.putfield 7, 3) := by decide +kernel
theorem dX8_init_13 : decode cX8_init 13 = .ok (.aload_n 0, 1) := by decide +kernel
theorem dX8_init_14 : decode cX8_init 14 = .ok (.sipush 160, 3) := by decide +kernel
theorem dX8_init_17 : decode cX8_init 17 = .ok (.newarray .long, 2) := by decide +kernel
theorem dX8_init_19 : decode cX8_init 19 = .ok (.putfield 13, 3) := by decide +kernel
theorem dX8_init_22 : decode cX8_init 22 = .ok (.aload_n 0, 1) := by decide +kernel
theorem dX8_init_23 : decode cX8_init 23 = .ok (.iconst 4, 1) := by decide +kernel
theorem dX8_init_24 : decode cX8_init 24 = .ok (.newarray .int, 2) := by decide +kernel
theorem dX8_init_26 : decode cX8_init 26 = .ok (.putfield 17, 3) := by decide +kernel
theorem dX8_init_29 : decode cX8_init 29 = .ok (.aload_n 0, 1) := by decide +kernel
theorem dX8_init_30 : decode cX8_init 30 = .ok (.iconst 3, 1) := by decide +kernel
theorem dX8_init_31 : decode cX8_init 31 = .ok (.newarray .boolean, 2) := by decide +kernel
theorem dX8_init_33 : decode cX8_init 33 = .ok (.putfield 20, 3) := by decide +kernel
theorem dX8_init_36 : decode cX8_init 36 = .ok (.aload_n 0, 1) := by decide +kernel
theorem dX8_init_37 : decode cX8_init 37 = .ok (.sipush 128, 3) := by decide +kernel
theorem dX8_init_40 : decode cX8_init 40 = .ok (.newarray .long, 2) := by decide +kernel
theorem dX8_init_42 : decode cX8_init 42 = .ok (.putfield 24, 3) := by decide +kernel
theorem dX8_init_45 : decode cX8_init 45 = .ok (.aload_n 0, 1) := by decide +kernel
theorem dX8_init_46 : decode cX8_init 46 = .ok (.bipush 8, 2) := by decide +kernel
theorem dX8_init_48 : decode cX8_init 48 = .ok (.newarray .long, 2) := by decide +kernel
theorem dX8_init_50 : decode cX8_init 50 = .ok (.putfield 27, 3) := by decide +kernel
theorem dX8_init_53 : decode cX8_init 53 = .ok (.aload_n 0, 1) := by decide +kernel
theorem dX8_init_54 : decode cX8_init 54 = .ok (.bipush 9, 2) := by decide +kernel
theorem dX8_init_56 : decode cX8_init 56 = .ok (.newarray .long, 2) := by decide +kernel
theorem dX8_init_58 : decode cX8_init 58 = .ok (.putfield 30, 3) := by decide +kernel
theorem dX8_init_61 : decode cX8_init 61 = .ok (.return_, 1) := by decide +kernel
theorem dX8_isIn_0 : decode cX8_isIn 0 = .ok (.iload_n 0, 1) := by decide +kernel
theorem dX8_isIn_1 : decode cX8_isIn 1 = .ok (.iload_n 1, 1) := by decide +kernel
theorem dX8_isIn_2 : decode cX8_isIn 2 = .ok (.if_icmp .lt 12, 3) := by decide +kernel
theorem dX8_isIn_5 : decode cX8_isIn 5 = .ok (.iload_n 0, 1) := by decide +kernel
theorem dX8_isIn_6 : decode cX8_isIn 6 = .ok (.iload_n 2, 1) := by decide +kernel
theorem dX8_isIn_7 : decode cX8_isIn 7 = .ok (.if_icmp .gt 7, 3) := by decide +kernel
theorem dX8_isIn_10 : decode cX8_isIn 10 = .ok (.iconst 1, 1) := by decide +kernel
theorem dX8_isIn_11 : decode cX8_isIn 11 = .ok (.goto 4, 3) := by decide +kernel
theorem dX8_isIn_14 : decode cX8_isIn 14 = .ok (.iconst 0, 1) := by decide +kernel
theorem dX8_isIn_15 : decode cX8_isIn 15 = .ok (.ireturn, 1) := by decide +kernel
theorem dX8_divisor_0 : decode cX8_divisor 0 = .ok (.iload_n 0, 1) := by decide +kernel
theorem dX8_divisor_1 : decode cX8_divisor 1 = .ok (.istore_n 2, 1) := by decide +kernel
theorem dX8_divisor_2 : decode cX8_divisor 2 = .ok (.iload_n 1, 1) := by decide +kernel
theorem dX8_divisor_3 : decode cX8_divisor 3 = .ok (.istore_n 3, 1) := by decide +kernel
theorem dX8_divisor_4 : decode cX8_divisor 4 = .ok (.iload_n 3, 1) := by decide +kernel
theorem dX8_divisor_5 : decode cX8_divisor 5 = .ok (.ifCond .le 16, 3) := by decide +kernel
theorem dX8_divisor_8 : decode cX8_divisor 8 = .ok (.iload_n 2, 1) := by decide +kernel
theorem dX8_divisor_9 : decode cX8_divisor 9 = .ok (.iload_n 3, 1) := by decide +kernel
theorem dX8_divisor_10 : decode cX8_divisor 10 = .ok (.irem, 1) := by decide +kernel
theorem dX8_divisor_11 : decode cX8_divisor 11 = .ok (.istore 4, 2) := by decide +kernel
theorem dX8_divisor_13 : decode cX8_divisor 13 = .ok (.iload_n 3, 1) := by decide +kernel
theorem dX8_divisor_14 : decode cX8_divisor 14 = .ok (.istore_n 2, 1) := by decide +kernel
theorem dX8_divisor_15 : decode cX8_divisor 15 = .ok (.iload 4, 2) := by decide +kernel
theorem dX8_divisor_17 : decode cX8_divisor 17 = .ok (.istore_n 3, 1) := by decide +kernel
theorem dX8_divisor_18 : decode cX8_divisor 18 = .ok (.goto (-14), 3) := by decide +kernel
theorem dX8_divisor_21 : decode cX8_divisor 21 = .ok (.iload_n 2, 1) := by decide +kernel
theorem dX8_divisor_22 : decode cX8_divisor 22 = .ok (.ireturn, 1) := by decide +kernel
set_option maxRecDepth 20000 in
theorem ggX8_multiple_X8_divisor : GoodIn wsX8_multiple wsX8_divisor := goodIn_r _ [4] (by decide +kernel) (by decide +kernel)
set_option maxRecDepth 20000 in
theorem gX8_multiple_X8_divisor : GoodIn wsX8_multiple (va_wsS RX8 33 yX8_divisor wsX8_divisor) := goodIn_app (goodIn_of _ (by decide +kernel)) ggX8_multiple_X8_divisor
theorem dX8_multiple_0 : decode cX8_multiple 0 = .ok (.iload_n 0, 1) := by decide +kernel
theorem dX8_multiple_1 : decode cX8_multiple 1 = .ok (.iload_n 0, 1) := by decide +kernel
theorem dX8_multiple_2 : decode cX8_multiple 2 = .ok (.iload_n 1, 1) := by decide +kernel
theorem dX8_multiple_3 : decode cX8_multiple 3 = .ok (.invokestatic 33, 3) := by decide +kernel
theorem dX8_multiple_6 : decode cX8_multiple 6 = .ok (.idiv, 1) := by decide +kernel
theorem dX8_multiple_7 : decode cX8_multiple 7 = .ok (.iload_n 1, 1) := by decide +kernel
theorem dX8_multiple_8 : decode cX8_multiple 8 = .ok (.imul, 1) := by decide +kernel
theorem dX8_multiple_9 : decode cX8_multiple 9 = .ok (.ireturn, 1) := by decide +kernel
set_option maxRecDepth 20000 in
theorem ggX8_isM_X8_isIn : GoodIn wsX8_isM wsX8_isIn := goodIn_r _ [4] (by decide +kernel) (by decide +kernel)
set_option maxRecDepth 20000 in
theorem gX8_isM_X8_isIn : GoodIn wsX8_isM (va_wsS RX8 37 yX8_isIn wsX8_isIn) := goodIn_app (goodIn_of _ (by decide +kernel)) ggX8_isM_X8_isIn
theorem dX8_isM_0 : decode cX8_isM 0 = .ok (.iload_n 0, 1) := by decide +kernel
theorem dX8_isM_1 : decode cX8_isM 1 = .ok (.iconst 1, 1) := by decide +kernel
theorem dX8_isM_2 : decode cX8_isM 2 = .ok (.bipush 63, 2) := by decide +kernel
theorem dX8_isM_4 : decode cX8_isM 4 = .ok (.invokestatic 37, 3) := by decide +kernel
theorem dX8_isM_7 : decode cX8_isM 7 = .ok (.ireturn, 1) := by decide +kernel
set_option maxRecDepth 20000 in
theorem ggX8_isRest_X8_isIn : GoodIn wsX8_isRest wsX8_isIn := goodIn_r _ [4] (by decide +kernel) (by decide +kernel)
set_option maxRecDepth 20000 in
theorem gX8_isRest_X8_isIn : GoodIn wsX8_isRest (va_wsS RX8 37 yX8_isIn wsX8_isIn) := goodIn_app (goodIn_of _ (by decide +kernel)) ggX8_isRest_X8_isIn
set_option maxRecDepth 20000 in
theorem ggX8_isRest_X8_divisor : GoodIn wsX8_isRest wsX8_divisor := goodIn_r _ [7] (by decide +kernel) (by decide +kernel)
set_option maxRecDepth 20000 in
theorem gX8_isRest_X8_divisor : GoodIn wsX8_isRest (va_wsS RX8 33 yX8_divisor wsX8_divisor) := goodIn_app (goodIn_of _ (by decide +kernel)) ggX8_isRest_X8_divisor
theorem dX8_isRest_0 : decode cX8_isRest 0 = .ok (.iload_n 0, 1) := by decide +kernel
theorem dX8_isRest_1 : decode cX8_isRest 1 = .ok (.iconst 1, 1) := by decide +kernel
theorem dX8_isRest_2 : decode cX8_isRest 2 = .ok (.if_icmp .ne 15, 3) := by decide +kernel
theorem dX8_isRest_5 : decode cX8_isRest 5 = .ok (.iload_n 1, 1) := by decide +kernel
theorem dX8_isRest_6 : decode cX8_isRest 6 = .ok (.ifCond .ne 7, 3) := by decide +kernel
theorem dX8_isRest_9 : decode cX8_isRest 9 = .ok (.iconst 1, 1) := by decide +kernel
theorem dX8_isRest_10 : decode cX8_isRest 10 = .ok (.goto 32, 3) := by decide +kernel
theorem dX8_isRest_13 : decode cX8_isRest 13 = .ok (.iconst 0, 1) := by decide +kernel
theorem dX8_isRest_14 : decode cX8_isRest 14 = .ok (.goto 28, 3) := by decide +kernel
theorem dX8_isRest_17 : decode cX8_isRest 17 = .ok (.iload_n 1, 1) := by decide +kernel
theorem dX8_isRest_18 : decode cX8_isRest 18 = .ok (.iconst 1, 1) := by decide +kernel
theorem dX8_isRest_19 : decode cX8_isRest 19 = .ok (.iload_n 0, 1) := by decide +kernel
theorem dX8_isRest_20 : decode cX8_isRest 20 = .ok (.iconst 1, 1) := by decide +kernel
theorem dX8_isRest_21 : decode cX8_isRest 21 = .ok (.isub, 1) := by decide +kernel
theorem dX8_isRest_22 : decode cX8_isRest 22 = .ok (.invokestatic 37, 3) := by decide +kernel
theorem dX8_isRest_25 : decode cX8_isRest 25 = .ok (.ifCond .eq 16, 3) := by decide +kernel
theorem dX8_isRest_28 : decode cX8_isRest 28 = .ok (.iload_n 1, 1) := by decide +kernel
theorem dX8_isRest_29 : decode cX8_isRest 29 = .ok (.iload_n 0, 1) := by decide +kernel
theorem dX8_isRest_30 : decode cX8_isRest 30 = .ok (.invokestatic 33, 3) := by decide +kernel
theorem dX8_isRest_33 : decode cX8_isRest 33 = .ok (.iconst 1, 1) := by decide +kernel
theorem dX8_isRest_34 : decode cX8_isRest 34 = .ok (.if_icmp .ne 7, 3) := by decide +kernel
theorem dX8_isRest_37 : decode cX8_isRest 37 = .ok (.iconst 1, 1) := by decide +kernel
theorem dX8_isRest_38 : decode cX8_isRest 38 = .ok (.goto 4, 3) := by decide +kernel
theorem dX8_isRest_41 : decode cX8_isRest 41 = .ok (.iconst 0, 1) := by decide +kernel
theorem dX8_isRest_42 : decode cX8_isRest 42 = .ok (.ireturn, 1) := by decide +kernel
set_option maxRecDepth 20000 in
theorem ggX8_all_X8_isRest : GoodIn wsX8_all wsX8_isRest := goodIn_r _ [4, 5, 6, 3, 7, 8, 9, 10] (by decide +kernel) (by decide +kernel)
set_option maxRecDepth 20000 in
theorem gX8_all_X8_isRest : GoodIn wsX8_all (va_wsS RX8 41 yX8_isRest wsX8_isRest) := goodIn_app (goodIn_of _ (by decide +kernel)) ggX8_all_X8_isRest
theorem dX8_all_0 : decode cX8_all 0 = .ok (.lconst 0, 1) := by decide +kernel
theorem dX8_all_1 : decode cX8_all 1 = .ok (.lstore_n 1, 1) := by decide +kernel
theorem dX8_all_2 : decode cX8_all 2 = .ok (.iconst 0, 1) := by decide +kernel
theorem dX8_all_3 : decode cX8_all 3 = .ok (.istore_n 3, 1) := by decide +kernel
theorem dX8_all_4 : decode cX8_all 4 = .ok (.iload_n 3, 1) := by decide +kernel
theorem dX8_all_5 : decode cX8_all 5 = .ok (.iload_n 0, 1) := by decide +kernel
theorem dX8_all_6 : decode cX8_all 6 = .ok (.if_icmp .ge 23, 3) := by decide +kernel
theorem dX8_all_9 : decode cX8_all 9 = .ok (.iload_n 0, 1) := by decide +kernel
theorem dX8_all_10 : decode cX8_all 10 = .ok (.iload_n 3, 1) := by decide +kernel
theorem dX8_all_11 : decode cX8_all 11 = .ok (.invokestatic 41, 3) := by decide +kernel
theorem dX8_all_14 : decode cX8_all 14 = .ok (.ifCond .eq 9, 3) := by decide +kernel
theorem dX8_all_17 : decode cX8_all 17 = .ok (.lload_n 1, 1) := by decide +kernel
theorem dX8_all_18 : decode cX8_all 18 = .ok (.lconst 1, 1) := by decide +kernel
theorem dX8_all_19 : decode cX8_all 19 = .ok (.iload_n 3, 1) := by decide +kernel
theorem dX8_all_20 : decode cX8_all 20 = .ok (.lshl, 1) := by decide +kernel
theorem dX8_all_21 : decode cX8_all 21 = .ok (.lor, 1) := by decide +kernel
theorem dX8_all_22 : decode cX8_all 22 = .ok (.lstore_n 1, 1) := by decide +kernel
theorem dX8_all_23 : decode cX8_all 23 = .ok (.iinc 3 1, 3) := by decide +kernel
theorem dX8_all_26 : decode cX8_all 26 = .ok (.goto (-22), 3) := by decide +kernel
theorem dX8_all_29 : decode cX8_all 29 = .ok (.lload_n 1, 1) := by decide +kernel
theorem dX8_all_30 : decode cX8_all 30 = .ok (.lreturn, 1) := by decide +kernel
theorem dX8_many_0 : decode cX8_many 0 = .ok (.iconst 0, 1) := by decide +kernel
theorem dX8_many_1 : decode cX8_many 1 = .ok (.istore_n 2, 1) := by decide +kernel
theorem dX8_many_2 : decode cX8_many 2 = .ok (.iconst 0, 1) := by decide +kernel
theorem dX8_many_3 : decode cX8_many 3 = .ok (.istore_n 3, 1) := by decide +kernel
theorem dX8_many_4 : decode cX8_many 4 = .ok (.iload_n 3, 1) := by decide +kernel
theorem dX8_many_5 : decode cX8_many 5 = .ok (.bipush 63, 2) := by decide +kernel
theorem dX8_many_7 : decode cX8_many 7 = .ok (.if_icmp .ge 18, 3) := by decide +kernel
theorem dX8_many_10 : decode cX8_many 10 = .ok (.iload_n 2, 1) := by decide +kernel
theorem dX8_many_11 : decode cX8_many 11 = .ok (.lload_n 0, 1) := by decide +kernel
theorem dX8_many_12 : decode cX8_many 12 = .ok (.iload_n 3, 1) := by decide +kernel
theorem dX8_many_13 : decode cX8_many 13 = .ok (.lshr, 1) := by decide +kernel
theorem dX8_many_14 : decode cX8_many 14 = .ok (.lconst 1, 1) := by decide +kernel
theorem dX8_many_15 : decode cX8_many 15 = .ok (.land, 1) := by decide +kernel
theorem dX8_many_16 : decode cX8_many 16 = .ok (.l2i, 1) := by decide +kernel
theorem dX8_many_17 : decode cX8_many 17 = .ok (.iadd, 1) := by decide +kernel
theorem dX8_many_18 : decode cX8_many 18 = .ok (.istore_n 2, 1) := by decide +kernel
theorem dX8_many_19 : decode cX8_many 19 = .ok (.iinc 3 1, 3) := by decide +kernel
theorem dX8_many_22 : decode cX8_many 22 = .ok (.goto (-18), 3) := by decide +kernel
theorem dX8_many_25 : decode cX8_many 25 = .ok (.iload_n 2, 1) := by decide +kernel
theorem dX8_many_26 : decode cX8_many 26 = .ok (.ireturn, 1) := by decide +kernel
theorem dX8_power_0 : decode cX8_power 0 = .ok (.iconst 1, 1) := by decide +kernel
theorem dX8_power_1 : decode cX8_power 1 = .ok (.iload_n 0, 1) := by decide +kernel
theorem dX8_power_2 : decode cX8_power 2 = .ok (.irem, 1) := by decide +kernel
theorem dX8_power_3 : decode cX8_power 3 = .ok (.istore_n 3, 1) := by decide +kernel
theorem dX8_power_4 : decode cX8_power 4 = .ok (.iconst 0, 1) := by decide +kernel
theorem dX8_power_5 : decode cX8_power 5 = .ok (.istore 4, 2) := by decide +kernel
theorem dX8_power_7 : decode cX8_power 7 = .ok (.iload 4, 2) := by decide +kernel
theorem dX8_power_9 : decode cX8_power 9 = .ok (.iload_n 2, 1) := by decide +kernel
theorem dX8_power_10 : decode cX8_power 10 = .ok (.if_icmp .ge 15, 3) := by decide +kernel
theorem dX8_power_13 : decode cX8_power 13 = .ok (.iload_n 3, 1) := by decide +kernel
theorem dX8_power_14 : decode cX8_power 14 = .ok (.iload_n 1, 1) := by decide +kernel
theorem dX8_power_15 : decode cX8_power 15 = .ok (.imul, 1) := by decide +kernel
theorem dX8_power_16 : decode cX8_power 16 = .ok (.iload_n 0, 1) := by decide +kernel
theorem dX8_power_17 : decode cX8_power 17 = .ok (.irem, 1) := by decide +kernel
theorem dX8_power_18 : decode cX8_power 18 = .ok (.istore_n 3, 1) := by decide +kernel
theorem dX8_power_19 : decode cX8_power 19 = .ok (.iinc 4 1, 3) := by decide +kernel
theorem dX8_power_22 : decode cX8_power 22 = .ok (.goto (-15), 3) := by decide +kernel
theorem dX8_power_25 : decode cX8_power 25 = .ok (.iload_n 3, 1) := by decide +kernel
theorem dX8_power_26 : decode cX8_power 26 = .ok (.ireturn, 1) := by decide +kernel
set_option maxRecDepth 20000 in
theorem ggX8_rests_X8_isM : GoodIn wsX8_rests wsX8_isM := goodIn_r _ [4, 5, 6, 3, 7] (by decide +kernel) (by decide +kernel)
set_option maxRecDepth 20000 in
theorem gX8_rests_X8_isM : GoodIn wsX8_rests (va_wsS RX8 45 yX8_isM wsX8_isM) := goodIn_app (goodIn_of _ (by decide +kernel)) ggX8_rests_X8_isM
set_option maxRecDepth 20000 in
theorem ggX8_rests_X8_all : GoodIn wsX8_rests wsX8_all := goodIn_r _ [10, 11, 12, 3, 13, 5, 6, 7, 14, 15, 16] (by decide +kernel) (by decide +kernel)
set_option maxRecDepth 20000 in
theorem gX8_rests_X8_all : GoodIn wsX8_rests (va_wsS RX8 49 yX8_all wsX8_all) := goodIn_app (goodIn_of _ (by decide +kernel)) ggX8_rests_X8_all
set_option maxRecDepth 20000 in
theorem ggX8_rests_X8_many : GoodIn wsX8_rests wsX8_many := goodIn_r _ [19] (by decide +kernel) (by decide +kernel)
set_option maxRecDepth 20000 in
theorem gX8_rests_X8_many : GoodIn wsX8_rests (va_wsS RX8 53 yX8_many wsX8_many) := goodIn_app (goodIn_of _ (by decide +kernel)) ggX8_rests_X8_many
theorem dX8_rests_0 : decode cX8_rests 0 = .ok (.iload_n 1, 1) := by decide +kernel
theorem dX8_rests_1 : decode cX8_rests 1 = .ok (.invokestatic 45, 3) := by decide +kernel
theorem dX8_rests_4 : decode cX8_rests 4 = .ok (.ifCond .eq 13, 3) := by decide +kernel
theorem dX8_rests_7 : decode cX8_rests 7 = .ok (.iload_n 1, 1) := by decide +kernel
theorem dX8_rests_8 : decode cX8_rests 8 = .ok (.invokestatic 49, 3) := by decide +kernel
theorem dX8_rests_11 : decode cX8_rests 11 = .ok (.invokestatic 53, 3) := by decide +kernel
theorem dX8_rests_14 : decode cX8_rests 14 = .ok (.goto 4, 3) := by decide +kernel
theorem dX8_rests_17 : decode cX8_rests 17 = .ok (.iconst (-1), 1) := by decide +kernel
theorem dX8_rests_18 : decode cX8_rests 18 = .ok (.ireturn, 1) := by decide +kernel
set_option maxRecDepth 20000 in
theorem ggX8_order_X8_isM : GoodIn wsX8_order wsX8_isM := goodIn_r _ [4, 5, 6, 3, 7] (by decide +kernel) (by decide +kernel)
set_option maxRecDepth 20000 in
theorem gX8_order_X8_isM : GoodIn wsX8_order (va_wsS RX8 45 yX8_isM wsX8_isM) := goodIn_app (goodIn_of _ (by decide +kernel)) ggX8_order_X8_isM
set_option maxRecDepth 20000 in
theorem ggX8_order_X8_isRest : GoodIn wsX8_order wsX8_isRest := goodIn_r _ [10, 5, 6, 3, 7, 11, 12, 13] (by decide +kernel) (by decide +kernel)
set_option maxRecDepth 20000 in
theorem gX8_order_X8_isRest : GoodIn wsX8_order (va_wsS RX8 41 yX8_isRest wsX8_isRest) := goodIn_app (goodIn_of _ (by decide +kernel)) ggX8_order_X8_isRest
set_option maxRecDepth 20000 in
theorem ggX8_order_X8_power : GoodIn wsX8_order wsX8_power := goodIn_r _ [16] (by decide +kernel) (by decide +kernel)
set_option maxRecDepth 20000 in
theorem gX8_order_X8_power : GoodIn wsX8_order (va_wsS RX8 57 yX8_power wsX8_power) := goodIn_app (goodIn_of _ (by decide +kernel)) ggX8_order_X8_power
theorem dX8_order_0 : decode cX8_order 0 = .ok (.iload_n 1, 1) := by decide +kernel
theorem dX8_order_1 : decode cX8_order 1 = .ok (.invokestatic 45, 3) := by decide +kernel
theorem dX8_order_4 : decode cX8_order 4 = .ok (.ifCond .eq 11, 3) := by decide +kernel
theorem dX8_order_7 : decode cX8_order 7 = .ok (.iload_n 1, 1) := by decide +kernel
theorem dX8_order_8 : decode cX8_order 8 = .ok (.iload_n 2, 1) := by decide +kernel
theorem dX8_order_9 : decode cX8_order 9 = .ok (.invokestatic 41, 3) := by decide +kernel
theorem dX8_order_12 : decode cX8_order 12 = .ok (.ifCond .ne 5, 3) := by decide +kernel
theorem dX8_order_15 : decode cX8_order 15 = .ok (.iconst (-1), 1) := by decide +kernel
theorem dX8_order_16 : decode cX8_order 16 = .ok (.ireturn, 1) := by decide +kernel
theorem dX8_order_17 : decode cX8_order 17 = .ok (.iconst 1, 1) := by decide +kernel
theorem dX8_order_18 : decode cX8_order 18 = .ok (.istore_n 3, 1) := by decide +kernel
theorem dX8_order_19 : decode cX8_order 19 = .ok (.iload_n 1, 1) := by decide +kernel
theorem dX8_order_20 : decode cX8_order 20 = .ok (.iload_n 2, 1) := by decide +kernel
theorem dX8_order_21 : decode cX8_order 21 = .ok (.iload_n 3, 1) := by decide +kernel
theorem dX8_order_22 : decode cX8_order 22 = .ok (.invokestatic 57, 3) := by decide +kernel
theorem dX8_order_25 : decode cX8_order 25 = .ok (.iconst 1, 1) := by decide +kernel
theorem dX8_order_26 : decode cX8_order 26 = .ok (.iload_n 1, 1) := by decide +kernel
theorem dX8_order_27 : decode cX8_order 27 = .ok (.irem, 1) := by decide +kernel
theorem dX8_order_28 : decode cX8_order 28 = .ok (.if_icmp .eq 9, 3) := by decide +kernel
theorem dX8_order_31 : decode cX8_order 31 = .ok (.iinc 3 1, 3) := by decide +kernel
theorem dX8_order_34 : decode cX8_order 34 = .ok (.goto (-15), 3) := by decide +kernel
theorem dX8_order_37 : decode cX8_order 37 = .ok (.iload_n 3, 1) := by decide +kernel
theorem dX8_order_38 : decode cX8_order 38 = .ok (.ireturn, 1) := by decide +kernel
set_option maxRecDepth 20000 in
theorem ggX8_killed_X8_isRest : GoodIn wsX8_killed wsX8_isRest := goodIn_r _ [4, 5, 6, 3, 7, 8, 9, 10] (by decide +kernel) (by decide +kernel)
set_option maxRecDepth 20000 in
theorem gX8_killed_X8_isRest : GoodIn wsX8_killed (va_wsS RX8 41 yX8_isRest wsX8_isRest) := goodIn_app (goodIn_of _ (by decide +kernel)) ggX8_killed_X8_isRest
set_option maxRecDepth 20000 in
theorem ggX8_killed_X8_power : GoodIn wsX8_killed wsX8_power := goodIn_r _ [13] (by decide +kernel) (by decide +kernel)
set_option maxRecDepth 20000 in
theorem gX8_killed_X8_power : GoodIn wsX8_killed (va_wsS RX8 57 yX8_power wsX8_power) := goodIn_app (goodIn_of _ (by decide +kernel)) ggX8_killed_X8_power
theorem dX8_killed_0 : decode cX8_killed 0 = .ok (.iconst 0, 1) := by decide +kernel
theorem dX8_killed_1 : decode cX8_killed 1 = .ok (.istore_n 2, 1) := by decide +kernel
theorem dX8_killed_2 : decode cX8_killed 2 = .ok (.iconst 0, 1) := by decide +kernel
theorem dX8_killed_3 : decode cX8_killed 3 = .ok (.istore_n 3, 1) := by decide +kernel
theorem dX8_killed_4 : decode cX8_killed 4 = .ok (.iload_n 3, 1) := by decide +kernel
theorem dX8_killed_5 : decode cX8_killed 5 = .ok (.iload_n 0, 1) := by decide +kernel
theorem dX8_killed_6 : decode cX8_killed 6 = .ok (.if_icmp .ge 37, 3) := by decide +kernel
theorem dX8_killed_9 : decode cX8_killed 9 = .ok (.iload_n 2, 1) := by decide +kernel
theorem dX8_killed_10 : decode cX8_killed 10 = .ok (.iload_n 0, 1) := by decide +kernel
theorem dX8_killed_11 : decode cX8_killed 11 = .ok (.iload_n 3, 1) := by decide +kernel
theorem dX8_killed_12 : decode cX8_killed 12 = .ok (.invokestatic 41, 3) := by decide +kernel
theorem dX8_killed_15 : decode cX8_killed 15 = .ok (.ifCond .eq 19, 3) := by decide +kernel
theorem dX8_killed_18 : decode cX8_killed 18 = .ok (.iload_n 0, 1) := by decide +kernel
theorem dX8_killed_19 : decode cX8_killed 19 = .ok (.iload_n 3, 1) := by decide +kernel
theorem dX8_killed_20 : decode cX8_killed 20 = .ok (.iload_n 1, 1) := by decide +kernel
theorem dX8_killed_21 : decode cX8_killed 21 = .ok (.invokestatic 57, 3) := by decide +kernel
theorem dX8_killed_24 : decode cX8_killed 24 = .ok (.iconst 1, 1) := by decide +kernel
theorem dX8_killed_25 : decode cX8_killed 25 = .ok (.iload_n 0, 1) := by decide +kernel
theorem dX8_killed_26 : decode cX8_killed 26 = .ok (.irem, 1) := by decide +kernel
theorem dX8_killed_27 : decode cX8_killed 27 = .ok (.if_icmp .ne 7, 3) := by decide +kernel
theorem dX8_killed_30 : decode cX8_killed 30 = .ok (.iconst 1, 1) := by decide +kernel
theorem dX8_killed_31 : decode cX8_killed 31 = .ok (.goto 4, 3) := by decide +kernel
theorem dX8_killed_34 : decode cX8_killed 34 = .ok (.iconst 0, 1) := by decide +kernel
theorem dX8_killed_35 : decode cX8_killed 35 = .ok (.iadd, 1) := by decide +kernel
theorem dX8_killed_36 : decode cX8_killed 36 = .ok (.istore_n 2, 1) := by decide +kernel
theorem dX8_killed_37 : decode cX8_killed 37 = .ok (.iinc 3 1, 3) := by decide +kernel
theorem dX8_killed_40 : decode cX8_killed 40 = .ok (.goto (-36), 3) := by decide +kernel
theorem dX8_killed_43 : decode cX8_killed 43 = .ok (.iload_n 2, 1) := by decide +kernel
theorem dX8_killed_44 : decode cX8_killed 44 = .ok (.ireturn, 1) := by decide +kernel
set_option maxRecDepth 20000 in
theorem ggX8_cycles_X8_killed : GoodIn wsX8_cycles wsX8_killed := goodIn_r _ [4, 5, 6, 3, 7, 8, 9, 10, 11, 12, 13, 14, 15, 16] (by decide +kernel) (by decide +kernel)
set_option maxRecDepth 20000 in
theorem gX8_cycles_X8_killed : GoodIn wsX8_cycles (va_wsS RX8 61 yX8_killed wsX8_killed) := goodIn_app (goodIn_of _ (by decide +kernel)) ggX8_cycles_X8_killed
theorem dX8_cycles_0 : decode cX8_cycles 0 = .ok (.iconst 1, 1) := by decide +kernel
theorem dX8_cycles_1 : decode cX8_cycles 1 = .ok (.istore_n 3, 1) := by decide +kernel
theorem dX8_cycles_2 : decode cX8_cycles 2 = .ok (.iconst 1, 1) := by decide +kernel
theorem dX8_cycles_3 : decode cX8_cycles 3 = .ok (.istore 4, 2) := by decide +kernel
theorem dX8_cycles_5 : decode cX8_cycles 5 = .ok (.iload 4, 2) := by decide +kernel
theorem dX8_cycles_7 : decode cX8_cycles 7 = .ok (.iload_n 2, 1) := by decide +kernel
theorem dX8_cycles_8 : decode cX8_cycles 8 = .ok (.if_icmp .ge 13, 3) := by decide +kernel
theorem dX8_cycles_11 : decode cX8_cycles 11 = .ok (.iload_n 3, 1) := by decide +kernel
theorem dX8_cycles_12 : decode cX8_cycles 12 = .ok (.iload_n 1, 1) := by decide +kernel
theorem dX8_cycles_13 : decode cX8_cycles 13 = .ok (.imul, 1) := by decide +kernel
theorem dX8_cycles_14 : decode cX8_cycles 14 = .ok (.istore_n 3, 1) := by decide +kernel
theorem dX8_cycles_15 : decode cX8_cycles 15 = .ok (.iinc 4 1, 3) := by decide +kernel
theorem dX8_cycles_18 : decode cX8_cycles 18 = .ok (.goto (-13), 3) := by decide +kernel
theorem dX8_cycles_21 : decode cX8_cycles 21 = .ok (.iconst 0, 1) := by decide +kernel
theorem dX8_cycles_22 : decode cX8_cycles 22 = .ok (.istore 4, 2) := by decide +kernel
theorem dX8_cycles_24 : decode cX8_cycles 24 = .ok (.iload_n 0, 1) := by decide +kernel
theorem dX8_cycles_25 : decode cX8_cycles 25 = .ok (.iload_n 3, 1) := by decide +kernel
theorem dX8_cycles_26 : decode cX8_cycles 26 = .ok (.iload_n 1, 1) := by decide +kernel
theorem dX8_cycles_27 : decode cX8_cycles 27 = .ok (.imul, 1) := by decide +kernel
theorem dX8_cycles_28 : decode cX8_cycles 28 = .ok (.invokestatic 61, 3) := by decide +kernel
theorem dX8_cycles_31 : decode cX8_cycles 31 = .ok (.iload_n 0, 1) := by decide +kernel
theorem dX8_cycles_32 : decode cX8_cycles 32 = .ok (.iload_n 3, 1) := by decide +kernel
theorem dX8_cycles_33 : decode cX8_cycles 33 = .ok (.invokestatic 61, 3) := by decide +kernel
theorem dX8_cycles_36 : decode cX8_cycles 36 = .ok (.idiv, 1) := by decide +kernel
theorem dX8_cycles_37 : decode cX8_cycles 37 = .ok (.istore 5, 2) := by decide +kernel
theorem dX8_cycles_39 : decode cX8_cycles 39 = .ok (.iload 5, 2) := by decide +kernel
theorem dX8_cycles_41 : decode cX8_cycles 41 = .ok (.iconst 1, 1) := by decide +kernel
theorem dX8_cycles_42 : decode cX8_cycles 42 = .ok (.if_icmp .le 15, 3) := by decide +kernel
theorem dX8_cycles_45 : decode cX8_cycles 45 = .ok (.iinc 4 1, 3) := by decide +kernel
theorem dX8_cycles_48 : decode cX8_cycles 48 = .ok (.iload 5, 2) := by decide +kernel
theorem dX8_cycles_50 : decode cX8_cycles 50 = .ok (.iload_n 1, 1) := by decide +kernel
theorem dX8_cycles_51 : decode cX8_cycles 51 = .ok (.idiv, 1) := by decide +kernel
theorem dX8_cycles_52 : decode cX8_cycles 52 = .ok (.istore 5, 2) := by decide +kernel
theorem dX8_cycles_54 : decode cX8_cycles 54 = .ok (.goto (-15), 3) := by decide +kernel
theorem dX8_cycles_57 : decode cX8_cycles 57 = .ok (.iload 4, 2) := by decide +kernel
theorem dX8_cycles_59 : decode cX8_cycles 59 = .ok (.ireturn, 1) := by decide +kernel
set_option maxRecDepth 20000 in
theorem ggX8_factor_X8_isM : GoodIn wsX8_factor wsX8_isM := goodIn_r _ [4, 5, 6, 3, 7] (by decide +kernel) (by decide +kernel)
set_option maxRecDepth 20000 in
theorem gX8_factor_X8_isM : GoodIn wsX8_factor (va_wsS RX8 45 yX8_isM wsX8_isM) := goodIn_app (goodIn_of _ (by decide +kernel)) ggX8_factor_X8_isM
set_option maxRecDepth 20000 in
theorem ggX8_factor_X8_all : GoodIn wsX8_factor wsX8_all := goodIn_r _ [10, 11, 12, 3, 13, 5, 6, 7, 14, 15, 16] (by decide +kernel) (by decide +kernel)
set_option maxRecDepth 20000 in
theorem gX8_factor_X8_all : GoodIn wsX8_factor (va_wsS RX8 49 yX8_all wsX8_all) := goodIn_app (goodIn_of _ (by decide +kernel)) ggX8_factor_X8_all
set_option maxRecDepth 20000 in
theorem ggX8_factor_X8_many : GoodIn wsX8_factor wsX8_many := goodIn_r _ [19] (by decide +kernel) (by decide +kernel)
set_option maxRecDepth 20000 in
theorem gX8_factor_X8_many : GoodIn wsX8_factor (va_wsS RX8 53 yX8_many wsX8_many) := goodIn_app (goodIn_of _ (by decide +kernel)) ggX8_factor_X8_many
set_option maxRecDepth 20000 in
theorem ggX8_factor_X8_isPrime : GoodIn wsX8_factor wsX8_isPrime := goodIn_r _ [22] (by decide +kernel) (by decide +kernel)
set_option maxRecDepth 20000 in
theorem gX8_factor_X8_isPrime : GoodIn wsX8_factor (va_wsS RX8 64 yX8_isPrime wsX8_isPrime) := goodIn_app (goodIn_of _ (by decide +kernel)) ggX8_factor_X8_isPrime
set_option maxRecDepth 20000 in
theorem ggX8_factor_X8_cycles : GoodIn wsX8_factor wsX8_cycles := goodIn_r _ [25, 26, 27, 3, 28, 11, 12, 13, 5, 6, 7, 14, 15, 16, 29, 30, 31] (by decide +kernel) (by decide +kernel)
set_option maxRecDepth 20000 in
theorem gX8_factor_X8_cycles : GoodIn wsX8_factor (va_wsS RX8 67 yX8_cycles wsX8_cycles) := goodIn_app (goodIn_of _ (by decide +kernel)) ggX8_factor_X8_cycles
theorem dX8_factor_0 : decode cX8_factor 0 = .ok (.iload_n 1, 1) := by decide +kernel
theorem dX8_factor_1 : decode cX8_factor 1 = .ok (.invokestatic 45, 3) := by decide +kernel
theorem dX8_factor_4 : decode cX8_factor 4 = .ok (.ifCond .eq 7, 3) := by decide +kernel
theorem dX8_factor_7 : decode cX8_factor 7 = .ok (.iload_n 2, 1) := by decide +kernel
theorem dX8_factor_8 : decode cX8_factor 8 = .ok (.ifCond .ge 5, 3) := by decide +kernel
theorem dX8_factor_11 : decode cX8_factor 11 = .ok (.iconst (-1), 1) := by decide +kernel
theorem dX8_factor_12 : decode cX8_factor 12 = .ok (.ireturn, 1) := by decide +kernel
theorem dX8_factor_13 : decode cX8_factor 13 = .ok (.iload_n 1, 1) := by decide +kernel
theorem dX8_factor_14 : decode cX8_factor 14 = .ok (.invokestatic 49, 3) := by decide +kernel
theorem dX8_factor_17 : decode cX8_factor 17 = .ok (.invokestatic 53, 3) := by decide +kernel
theorem dX8_factor_20 : decode cX8_factor 20 = .ok (.istore_n 3, 1) := by decide +kernel
theorem dX8_factor_21 : decode cX8_factor 21 = .ok (.iconst 0, 1) := by decide +kernel
theorem dX8_factor_22 : decode cX8_factor 22 = .ok (.istore 4, 2) := by decide +kernel
theorem dX8_factor_24 : decode cX8_factor 24 = .ok (.iconst 2, 1) := by decide +kernel
theorem dX8_factor_25 : decode cX8_factor 25 = .ok (.istore 5, 2) := by decide +kernel
theorem dX8_factor_27 : decode cX8_factor 27 = .ok (.iload 5, 2) := by decide +kernel
theorem dX8_factor_29 : decode cX8_factor 29 = .ok (.iload_n 3, 1) := by decide +kernel
theorem dX8_factor_30 : decode cX8_factor 30 = .ok (.if_icmp .gt 45, 3) := by decide +kernel
theorem dX8_factor_33 : decode cX8_factor 33 = .ok (.iload 5, 2) := by decide +kernel
theorem dX8_factor_35 : decode cX8_factor 35 = .ok (.invokestatic 64, 3) := by decide +kernel
theorem dX8_factor_38 : decode cX8_factor 38 = .ok (.ifCond .eq 31, 3) := by decide +kernel
theorem dX8_factor_41 : decode cX8_factor 41 = .ok (.iload_n 3, 1) := by decide +kernel
theorem dX8_factor_42 : decode cX8_factor 42 = .ok (.iload 5, 2) := by decide +kernel
theorem dX8_factor_44 : decode cX8_factor 44 = .ok (.irem, 1) := by decide +kernel
theorem dX8_factor_45 : decode cX8_factor 45 = .ok (.ifCond .ne 24, 3) := by decide +kernel
theorem dX8_factor_48 : decode cX8_factor 48 = .ok (.iload_n 1, 1) := by decide +kernel
theorem dX8_factor_49 : decode cX8_factor 49 = .ok (.iload 5, 2) := by decide +kernel
theorem dX8_factor_51 : decode cX8_factor 51 = .ok (.iconst 1, 1) := by decide +kernel
theorem dX8_factor_52 : decode cX8_factor 52 = .ok (.invokestatic 67, 3) := by decide +kernel
theorem dX8_factor_55 : decode cX8_factor 55 = .ok (.iload 4, 2) := by decide +kernel
theorem dX8_factor_57 : decode cX8_factor 57 = .ok (.if_icmp .le 12, 3) := by decide +kernel
theorem dX8_factor_60 : decode cX8_factor 60 = .ok (.iload_n 1, 1) := by decide +kernel
theorem dX8_factor_61 : decode cX8_factor 61 = .ok (.iload 5, 2) := by decide +kernel
theorem dX8_factor_63 : decode cX8_factor 63 = .ok (.iconst 1, 1) := by decide +kernel
theorem dX8_factor_64 : decode cX8_factor 64 = .ok (.invokestatic 67, 3) := by decide +kernel
theorem dX8_factor_67 : decode cX8_factor 67 = .ok (.istore 4, 2) := by decide +kernel
theorem dX8_factor_69 : decode cX8_factor 69 = .ok (.iinc 5 1, 3) := by decide +kernel
theorem dX8_factor_72 : decode cX8_factor 72 = .ok (.goto (-45), 3) := by decide +kernel
theorem dX8_factor_75 : decode cX8_factor 75 = .ok (.iload_n 2, 1) := by decide +kernel
theorem dX8_factor_76 : decode cX8_factor 76 = .ok (.iload 4, 2) := by decide +kernel
theorem dX8_factor_78 : decode cX8_factor 78 = .ok (.if_icmp .lt 5, 3) := by decide +kernel
theorem dX8_factor_81 : decode cX8_factor 81 = .ok (.iconst (-1), 1) := by decide +kernel
theorem dX8_factor_82 : decode cX8_factor 82 = .ok (.ireturn, 1) := by decide +kernel
theorem dX8_factor_83 : decode cX8_factor 83 = .ok (.iload 4, 2) := by decide +kernel
theorem dX8_factor_85 : decode cX8_factor 85 = .ok (.iload_n 2, 1) := by decide +kernel
theorem dX8_factor_86 : decode cX8_factor 86 = .ok (.isub, 1) := by decide +kernel
theorem dX8_factor_87 : decode cX8_factor 87 = .ok (.istore 5, 2) := by decide +kernel
theorem dX8_factor_89 : decode cX8_factor 89 = .ok (.iconst 1, 1) := by decide +kernel
theorem dX8_factor_90 : decode cX8_factor 90 = .ok (.istore 6, 2) := by decide +kernel
theorem dX8_factor_92 : decode cX8_factor 92 = .ok (.iconst 2, 1) := by decide +kernel
theorem dX8_factor_93 : decode cX8_factor 93 = .ok (.istore 7, 2) := by decide +kernel
theorem dX8_factor_95 : decode cX8_factor 95 = .ok (.iload 7, 2) := by decide +kernel
theorem dX8_factor_97 : decode cX8_factor 97 = .ok (.iload_n 3, 1) := by decide +kernel
theorem dX8_factor_98 : decode cX8_factor 98 = .ok (.if_icmp .gt 56, 3) := by decide +kernel
theorem dX8_factor_101 : decode cX8_factor 101 = .ok (.iload 7, 2) := by decide +kernel
theorem dX8_factor_103 : decode cX8_factor 103 = .ok (.invokestatic 64, 3) := by decide +kernel
theorem dX8_factor_106 : decode cX8_factor 106 = .ok (.ifCond .eq 42, 3) := by decide +kernel
theorem dX8_factor_109 : decode cX8_factor 109 = .ok (.iload_n 3, 1) := by decide +kernel
theorem dX8_factor_110 : decode cX8_factor 110 = .ok (.iload 7, 2) := by decide +kernel
theorem dX8_factor_112 : decode cX8_factor 112 = .ok (.irem, 1) := by decide +kernel
theorem dX8_factor_113 : decode cX8_factor 113 = .ok (.ifCond .eq 6, 3) := by decide +kernel
theorem dX8_factor_116 : decode cX8_factor 116 = .ok (.goto 32, 3) := by decide +kernel
theorem dX8_factor_119 : decode cX8_factor 119 = .ok (.iconst 1, 1) := by decide +kernel
theorem dX8_factor_120 : decode cX8_factor 120 = .ok (.istore 8, 2) := by decide +kernel
theorem dX8_factor_122 : decode cX8_factor 122 = .ok (.iload_n 1, 1) := by decide +kernel
theorem dX8_factor_123 : decode cX8_factor 123 = .ok (.iload 7, 2) := by decide +kernel
theorem dX8_factor_125 : decode cX8_factor 125 = .ok (.iload 8, 2) := by decide +kernel
theorem dX8_factor_127 : decode cX8_factor 127 = .ok (.invokestatic 67, 3) := by decide +kernel
theorem dX8_factor_130 : decode cX8_factor 130 = .ok (.iload 5, 2) := by decide +kernel
theorem dX8_factor_132 : decode cX8_factor 132 = .ok (.if_icmp .lt 16, 3) := by decide +kernel
theorem dX8_factor_135 : decode cX8_factor 135 = .ok (.iload 6, 2) := by decide +kernel
theorem dX8_factor_137 : decode cX8_factor 137 = .ok (.iload 7, 2) := by decide +kernel
theorem dX8_factor_139 : decode cX8_factor 139 = .ok (.imul, 1) := by decide +kernel
theorem dX8_factor_140 : decode cX8_factor 140 = .ok (.istore 6, 2) := by decide +kernel
theorem dX8_factor_142 : decode cX8_factor 142 = .ok (.iinc 8 1, 3) := by decide +kernel
theorem dX8_factor_145 : decode cX8_factor 145 = .ok (.goto (-23), 3) := by decide +kernel
theorem dX8_factor_148 : decode cX8_factor 148 = .ok (.iinc 7 1, 3) := by decide +kernel
theorem dX8_factor_151 : decode cX8_factor 151 = .ok (.goto (-56), 3) := by decide +kernel
theorem dX8_factor_154 : decode cX8_factor 154 = .ok (.iload 6, 2) := by decide +kernel
theorem dX8_factor_156 : decode cX8_factor 156 = .ok (.ireturn, 1) := by decide +kernel
theorem dX8_isPrime_0 : decode cX8_isPrime 0 = .ok (.iload_n 0, 1) := by decide +kernel
theorem dX8_isPrime_1 : decode cX8_isPrime 1 = .ok (.iconst 1, 1) := by decide +kernel
theorem dX8_isPrime_2 : decode cX8_isPrime 2 = .ok (.if_icmp .le 7, 3) := by decide +kernel
theorem dX8_isPrime_5 : decode cX8_isPrime 5 = .ok (.iconst 1, 1) := by decide +kernel
theorem dX8_isPrime_6 : decode cX8_isPrime 6 = .ok (.goto 4, 3) := by decide +kernel
theorem dX8_isPrime_9 : decode cX8_isPrime 9 = .ok (.iconst 0, 1) := by decide +kernel
theorem dX8_isPrime_10 : decode cX8_isPrime 10 = .ok (.istore_n 1, 1) := by decide +kernel
theorem dX8_isPrime_11 : decode cX8_isPrime 11 = .ok (.iconst 2, 1) := by decide +kernel
theorem dX8_isPrime_12 : decode cX8_isPrime 12 = .ok (.istore_n 2, 1) := by decide +kernel
theorem dX8_isPrime_13 : decode cX8_isPrime 13 = .ok (.iload_n 2, 1) := by decide +kernel
theorem dX8_isPrime_14 : decode cX8_isPrime 14 = .ok (.iload_n 2, 1) := by decide +kernel
theorem dX8_isPrime_15 : decode cX8_isPrime 15 = .ok (.imul, 1) := by decide +kernel
theorem dX8_isPrime_16 : decode cX8_isPrime 16 = .ok (.iload_n 0, 1) := by decide +kernel
theorem dX8_isPrime_17 : decode cX8_isPrime 17 = .ok (.if_icmp .gt 25, 3) := by decide +kernel
theorem dX8_isPrime_20 : decode cX8_isPrime 20 = .ok (.iload_n 1, 1) := by decide +kernel
theorem dX8_isPrime_21 : decode cX8_isPrime 21 = .ok (.ifCond .eq 21, 3) := by decide +kernel
theorem dX8_isPrime_24 : decode cX8_isPrime 24 = .ok (.iload_n 0, 1) := by decide +kernel
theorem dX8_isPrime_25 : decode cX8_isPrime 25 = .ok (.iload_n 2, 1) := by decide +kernel
theorem dX8_isPrime_26 : decode cX8_isPrime 26 = .ok (.irem, 1) := by decide +kernel
theorem dX8_isPrime_27 : decode cX8_isPrime 27 = .ok (.ifCond .eq 7, 3) := by decide +kernel
theorem dX8_isPrime_30 : decode cX8_isPrime 30 = .ok (.iconst 1, 1) := by decide +kernel
theorem dX8_isPrime_31 : decode cX8_isPrime 31 = .ok (.goto 4, 3) := by decide +kernel
theorem dX8_isPrime_34 : decode cX8_isPrime 34 = .ok (.iconst 0, 1) := by decide +kernel
theorem dX8_isPrime_35 : decode cX8_isPrime 35 = .ok (.istore_n 1, 1) := by decide +kernel
theorem dX8_isPrime_36 : decode cX8_isPrime 36 = .ok (.iinc 2 1, 3) := by decide +kernel
theorem dX8_isPrime_39 : decode cX8_isPrime 39 = .ok (.goto (-26), 3) := by decide +kernel
theorem dX8_isPrime_42 : decode cX8_isPrime 42 = .ok (.iload_n 1, 1) := by decide +kernel
theorem dX8_isPrime_43 : decode cX8_isPrime 43 = .ok (.ireturn, 1) := by decide +kernel
theorem dX8_times_0 : decode cX8_times 0 = .ok (.lconst 0, 1) := by decide +kernel
theorem dX8_times_1 : decode cX8_times 1 = .ok (.lstore 4, 2) := by decide +kernel
theorem dX8_times_3 : decode cX8_times 3 = .ok (.iconst 0, 1) := by decide +kernel
theorem dX8_times_4 : decode cX8_times 4 = .ok (.istore 6, 2) := by decide +kernel
theorem dX8_times_6 : decode cX8_times 6 = .ok (.iload 6, 2) := by decide +kernel
theorem dX8_times_8 : decode cX8_times 8 = .ok (.iload_n 0, 1) := by decide +kernel
theorem dX8_times_9 : decode cX8_times 9 = .ok (.if_icmp .ge 33, 3) := by decide +kernel
theorem dX8_times_12 : decode cX8_times 12 = .ok (.lload_n 1, 1) := by decide +kernel
theorem dX8_times_13 : decode cX8_times 13 = .ok (.iload 6, 2) := by decide +kernel
theorem dX8_times_15 : decode cX8_times 15 = .ok (.lshr, 1) := by decide +kernel
theorem dX8_times_16 : decode cX8_times 16 = .ok (.lconst 1, 1) := by decide +kernel
theorem dX8_times_17 : decode cX8_times 17 = .ok (.land, 1) := by decide +kernel
theorem dX8_times_18 : decode cX8_times 18 = .ok (.lconst 1, 1) := by decide +kernel
theorem dX8_times_19 : decode cX8_times 19 = .ok (.lcmp, 1) := by decide +kernel
theorem dX8_times_20 : decode cX8_times 20 = .ok (.ifCond .ne 16, 3) := by decide +kernel
theorem dX8_times_23 : decode cX8_times 23 = .ok (.lload 4, 2) := by decide +kernel
theorem dX8_times_25 : decode cX8_times 25 = .ok (.lconst 1, 1) := by decide +kernel
theorem dX8_times_26 : decode cX8_times 26 = .ok (.iload 6, 2) := by decide +kernel
theorem dX8_times_28 : decode cX8_times 28 = .ok (.iload_n 3, 1) := by decide +kernel
theorem dX8_times_29 : decode cX8_times 29 = .ok (.imul, 1) := by decide +kernel
theorem dX8_times_30 : decode cX8_times 30 = .ok (.iload_n 0, 1) := by decide +kernel
theorem dX8_times_31 : decode cX8_times 31 = .ok (.irem, 1) := by decide +kernel
theorem dX8_times_32 : decode cX8_times 32 = .ok (.lshl, 1) := by decide +kernel
theorem dX8_times_33 : decode cX8_times 33 = .ok (.lor, 1) := by decide +kernel
theorem dX8_times_34 : decode cX8_times 34 = .ok (.lstore 4, 2) := by decide +kernel
theorem dX8_times_36 : decode cX8_times 36 = .ok (.iinc 6 1, 3) := by decide +kernel
theorem dX8_times_39 : decode cX8_times 39 = .ok (.goto (-33), 3) := by decide +kernel
theorem dX8_times_42 : decode cX8_times 42 = .ok (.lload 4, 2) := by decide +kernel
theorem dX8_times_44 : decode cX8_times 44 = .ok (.lreturn, 1) := by decide +kernel
set_option maxRecDepth 20000 in
theorem ggX8_with_X8_times : GoodIn wsX8_with wsX8_times := goodIn_r _ [4] (by decide +kernel) (by decide +kernel)
set_option maxRecDepth 20000 in
theorem gX8_with_X8_times : GoodIn wsX8_with (va_wsS RX8 70 yX8_times wsX8_times) := goodIn_app (goodIn_of _ (by decide +kernel)) ggX8_with_X8_times
theorem dX8_with_0 : decode cX8_with 0 = .ok (.lload_n 1, 1) := by decide +kernel
theorem dX8_with_1 : decode cX8_with 1 = .ok (.lstore 4, 2) := by decide +kernel
theorem dX8_with_3 : decode cX8_with 3 = .ok (.iload_n 0, 1) := by decide +kernel
theorem dX8_with_4 : decode cX8_with 4 = .ok (.lload_n 1, 1) := by decide +kernel
theorem dX8_with_5 : decode cX8_with 5 = .ok (.iload_n 3, 1) := by decide +kernel
theorem dX8_with_6 : decode cX8_with 6 = .ok (.invokestatic 70, 3) := by decide +kernel
theorem dX8_with_9 : decode cX8_with 9 = .ok (.lstore 6, 2) := by decide +kernel
theorem dX8_with_11 : decode cX8_with 11 = .ok (.lload 6, 2) := by decide +kernel
theorem dX8_with_13 : decode cX8_with 13 = .ok (.lload_n 1, 1) := by decide +kernel
theorem dX8_with_14 : decode cX8_with 14 = .ok (.lcmp, 1) := by decide +kernel
theorem dX8_with_15 : decode cX8_with 15 = .ok (.ifCond .eq 22, 3) := by decide +kernel
theorem dX8_with_18 : decode cX8_with 18 = .ok (.lload 4, 2) := by decide +kernel
theorem dX8_with_20 : decode cX8_with 20 = .ok (.lload 6, 2) := by decide +kernel
theorem dX8_with_22 : decode cX8_with 22 = .ok (.lor, 1) := by decide +kernel
theorem dX8_with_23 : decode cX8_with 23 = .ok (.lstore 4, 2) := by decide +kernel
theorem dX8_with_25 : decode cX8_with 25 = .ok (.iload_n 0, 1) := by decide +kernel
theorem dX8_with_26 : decode cX8_with 26 = .ok (.lload 6, 2) := by decide +kernel
theorem dX8_with_28 : decode cX8_with 28 = .ok (.iload_n 3, 1) := by decide +kernel
theorem dX8_with_29 : decode cX8_with 29 = .ok (.invokestatic 70, 3) := by decide +kernel
theorem dX8_with_32 : decode cX8_with 32 = .ok (.lstore 6, 2) := by decide +kernel
theorem dX8_with_34 : decode cX8_with 34 = .ok (.goto (-23), 3) := by decide +kernel
theorem dX8_with_37 : decode cX8_with 37 = .ok (.lload 4, 2) := by decide +kernel
theorem dX8_with_39 : decode cX8_with 39 = .ok (.lreturn, 1) := by decide +kernel
theorem dX8_one_0 : decode cX8_one 0 = .ok (.lconst 1, 1) := by decide +kernel
theorem dX8_one_1 : decode cX8_one 1 = .ok (.iconst 1, 1) := by decide +kernel
theorem dX8_one_2 : decode cX8_one 2 = .ok (.iload_n 0, 1) := by decide +kernel
theorem dX8_one_3 : decode cX8_one 3 = .ok (.irem, 1) := by decide +kernel
theorem dX8_one_4 : decode cX8_one 4 = .ok (.lshl, 1) := by decide +kernel
theorem dX8_one_5 : decode cX8_one 5 = .ok (.lreturn, 1) := by decide +kernel
set_option maxRecDepth 20000 in
theorem ggX8_product_X8_with : GoodIn wsX8_product wsX8_with := goodIn_r _ [4, 5, 6, 3, 7] (by decide +kernel) (by decide +kernel)
set_option maxRecDepth 20000 in
theorem gX8_product_X8_with : GoodIn wsX8_product (va_wsS RX8 74 yX8_with wsX8_with) := goodIn_app (goodIn_of _ (by decide +kernel)) ggX8_product_X8_with
theorem dX8_product_0 : decode cX8_product 0 = .ok (.lload_n 1, 1) := by decide +kernel
theorem dX8_product_1 : decode cX8_product 1 = .ok (.lstore 5, 2) := by decide +kernel
theorem dX8_product_3 : decode cX8_product 3 = .ok (.iconst 0, 1) := by decide +kernel
theorem dX8_product_4 : decode cX8_product 4 = .ok (.istore 7, 2) := by decide +kernel
theorem dX8_product_6 : decode cX8_product 6 = .ok (.iload 7, 2) := by decide +kernel
theorem dX8_product_8 : decode cX8_product 8 = .ok (.iload_n 0, 1) := by decide +kernel
theorem dX8_product_9 : decode cX8_product 9 = .ok (.if_icmp .ge 30, 3) := by decide +kernel
theorem dX8_product_12 : decode cX8_product 12 = .ok (.lload_n 3, 1) := by decide +kernel
theorem dX8_product_13 : decode cX8_product 13 = .ok (.iload 7, 2) := by decide +kernel
theorem dX8_product_15 : decode cX8_product 15 = .ok (.lshr, 1) := by decide +kernel
theorem dX8_product_16 : decode cX8_product 16 = .ok (.lconst 1, 1) := by decide +kernel
theorem dX8_product_17 : decode cX8_product 17 = .ok (.land, 1) := by decide +kernel
theorem dX8_product_18 : decode cX8_product 18 = .ok (.lconst 1, 1) := by decide +kernel
theorem dX8_product_19 : decode cX8_product 19 = .ok (.lcmp, 1) := by decide +kernel
theorem dX8_product_20 : decode cX8_product 20 = .ok (.ifCond .ne 13, 3) := by decide +kernel
theorem dX8_product_23 : decode cX8_product 23 = .ok (.iload_n 0, 1) := by decide +kernel
theorem dX8_product_24 : decode cX8_product 24 = .ok (.lload 5, 2) := by decide +kernel
theorem dX8_product_26 : decode cX8_product 26 = .ok (.iload 7, 2) := by decide +kernel
theorem dX8_product_28 : decode cX8_product 28 = .ok (.invokestatic 74, 3) := by decide +kernel
theorem dX8_product_31 : decode cX8_product 31 = .ok (.lstore 5, 2) := by decide +kernel
theorem dX8_product_33 : decode cX8_product 33 = .ok (.iinc 7 1, 3) := by decide +kernel
theorem dX8_product_36 : decode cX8_product 36 = .ok (.goto (-30), 3) := by decide +kernel
theorem dX8_product_39 : decode cX8_product 39 = .ok (.lload 5, 2) := by decide +kernel
theorem dX8_product_41 : decode cX8_product 41 = .ok (.lreturn, 1) := by decide +kernel
set_option maxRecDepth 20000 in
theorem ggX8_onesBy_X8_isRest : GoodIn wsX8_onesBy wsX8_isRest := goodIn_r _ [4, 5, 6, 3, 7, 8, 9, 10] (by decide +kernel) (by decide +kernel)
set_option maxRecDepth 20000 in
theorem gX8_onesBy_X8_isRest : GoodIn wsX8_onesBy (va_wsS RX8 41 yX8_isRest wsX8_isRest) := goodIn_app (goodIn_of _ (by decide +kernel)) ggX8_onesBy_X8_isRest
theorem dX8_onesBy_0 : decode cX8_onesBy 0 = .ok (.lconst 0, 1) := by decide +kernel
theorem dX8_onesBy_1 : decode cX8_onesBy 1 = .ok (.lstore_n 2, 1) := by decide +kernel
theorem dX8_onesBy_2 : decode cX8_onesBy 2 = .ok (.iconst 0, 1) := by decide +kernel
theorem dX8_onesBy_3 : decode cX8_onesBy 3 = .ok (.istore 4, 2) := by decide +kernel
theorem dX8_onesBy_5 : decode cX8_onesBy 5 = .ok (.iload 4, 2) := by decide +kernel
theorem dX8_onesBy_7 : decode cX8_onesBy 7 = .ok (.iload_n 0, 1) := by decide +kernel
theorem dX8_onesBy_8 : decode cX8_onesBy 8 = .ok (.if_icmp .ge 35, 3) := by decide +kernel
theorem dX8_onesBy_11 : decode cX8_onesBy 11 = .ok (.iload_n 0, 1) := by decide +kernel
theorem dX8_onesBy_12 : decode cX8_onesBy 12 = .ok (.iload 4, 2) := by decide +kernel
theorem dX8_onesBy_14 : decode cX8_onesBy 14 = .ok (.invokestatic 41, 3) := by decide +kernel
theorem dX8_onesBy_17 : decode cX8_onesBy 17 = .ok (.ifCond .eq 20, 3) := by decide +kernel
theorem dX8_onesBy_20 : decode cX8_onesBy 20 = .ok (.iload 4, 2) := by decide +kernel
theorem dX8_onesBy_22 : decode cX8_onesBy 22 = .ok (.iload_n 1, 1) := by decide +kernel
theorem dX8_onesBy_23 : decode cX8_onesBy 23 = .ok (.irem, 1) := by decide +kernel
theorem dX8_onesBy_24 : decode cX8_onesBy 24 = .ok (.iconst 1, 1) := by decide +kernel
theorem dX8_onesBy_25 : decode cX8_onesBy 25 = .ok (.iload_n 1, 1) := by decide +kernel
theorem dX8_onesBy_26 : decode cX8_onesBy 26 = .ok (.irem, 1) := by decide +kernel
theorem dX8_onesBy_27 : decode cX8_onesBy 27 = .ok (.if_icmp .ne 10, 3) := by decide +kernel
theorem dX8_onesBy_30 : decode cX8_onesBy 30 = .ok (.lload_n 2, 1) := by decide +kernel
theorem dX8_onesBy_31 : decode cX8_onesBy 31 = .ok (.lconst 1, 1) := by decide +kernel
theorem dX8_onesBy_32 : decode cX8_onesBy 32 = .ok (.iload 4, 2) := by decide +kernel
theorem dX8_onesBy_34 : decode cX8_onesBy 34 = .ok (.lshl, 1) := by decide +kernel
theorem dX8_onesBy_35 : decode cX8_onesBy 35 = .ok (.lor, 1) := by decide +kernel
theorem dX8_onesBy_36 : decode cX8_onesBy 36 = .ok (.lstore_n 2, 1) := by decide +kernel
theorem dX8_onesBy_37 : decode cX8_onesBy 37 = .ok (.iinc 4 1, 3) := by decide +kernel
theorem dX8_onesBy_40 : decode cX8_onesBy 40 = .ok (.goto (-35), 3) := by decide +kernel
theorem dX8_onesBy_43 : decode cX8_onesBy 43 = .ok (.lload_n 2, 1) := by decide +kernel
theorem dX8_onesBy_44 : decode cX8_onesBy 44 = .ok (.lreturn, 1) := by decide +kernel
set_option maxRecDepth 20000 in
theorem ggX8_barOf_X8_onesBy : GoodIn wsX8_barOf wsX8_onesBy := goodIn_r _ [4, 5, 6, 3, 7, 8, 9, 10, 11, 12, 13] (by decide +kernel) (by decide +kernel)
set_option maxRecDepth 20000 in
theorem gX8_barOf_X8_onesBy : GoodIn wsX8_barOf (va_wsS RX8 77 yX8_onesBy wsX8_onesBy) := goodIn_app (goodIn_of _ (by decide +kernel)) ggX8_barOf_X8_onesBy
theorem dX8_barOf_0 : decode cX8_barOf 0 = .ok (.iconst 1, 1) := by decide +kernel
theorem dX8_barOf_1 : decode cX8_barOf 1 = .ok (.istore_n 3, 1) := by decide +kernel
theorem dX8_barOf_2 : decode cX8_barOf 2 = .ok (.iload_n 3, 1) := by decide +kernel
theorem dX8_barOf_3 : decode cX8_barOf 3 = .ok (.iload_n 0, 1) := by decide +kernel
theorem dX8_barOf_4 : decode cX8_barOf 4 = .ok (.if_icmp .ge 37, 3) := by decide +kernel
theorem dX8_barOf_7 : decode cX8_barOf 7 = .ok (.iload_n 0, 1) := by decide +kernel
theorem dX8_barOf_8 : decode cX8_barOf 8 = .ok (.iload_n 3, 1) := by decide +kernel
theorem dX8_barOf_9 : decode cX8_barOf 9 = .ok (.irem, 1) := by decide +kernel
theorem dX8_barOf_10 : decode cX8_barOf 10 = .ok (.ifCond .eq 6, 3) := by decide +kernel
theorem dX8_barOf_13 : decode cX8_barOf 13 = .ok (.goto 22, 3) := by decide +kernel
theorem dX8_barOf_16 : decode cX8_barOf 16 = .ok (.iload_n 0, 1) := by decide +kernel
theorem dX8_barOf_17 : decode cX8_barOf 17 = .ok (.iload_n 3, 1) := by decide +kernel
theorem dX8_barOf_18 : decode cX8_barOf 18 = .ok (.invokestatic 77, 3) := by decide +kernel
theorem dX8_barOf_21 : decode cX8_barOf 21 = .ok (.lstore 4, 2) := by decide +kernel
theorem dX8_barOf_23 : decode cX8_barOf 23 = .ok (.lload 4, 2) := by decide +kernel
theorem dX8_barOf_25 : decode cX8_barOf 25 = .ok (.lload_n 1, 1) := by decide +kernel
theorem dX8_barOf_26 : decode cX8_barOf 26 = .ok (.land, 1) := by decide +kernel
theorem dX8_barOf_27 : decode cX8_barOf 27 = .ok (.lload 4, 2) := by decide +kernel
theorem dX8_barOf_29 : decode cX8_barOf 29 = .ok (.lcmp, 1) := by decide +kernel
theorem dX8_barOf_30 : decode cX8_barOf 30 = .ok (.ifCond .ne 5, 3) := by decide +kernel
theorem dX8_barOf_33 : decode cX8_barOf 33 = .ok (.iload_n 3, 1) := by decide +kernel
theorem dX8_barOf_34 : decode cX8_barOf 34 = .ok (.ireturn, 1) := by decide +kernel
theorem dX8_barOf_35 : decode cX8_barOf 35 = .ok (.iinc 3 1, 3) := by decide +kernel
theorem dX8_barOf_38 : decode cX8_barOf 38 = .ok (.goto (-36), 3) := by decide +kernel
theorem dX8_barOf_41 : decode cX8_barOf 41 = .ok (.iload_n 0, 1) := by decide +kernel
theorem dX8_barOf_42 : decode cX8_barOf 42 = .ok (.ireturn, 1) := by decide +kernel
theorem dX8_down_0 : decode cX8_down 0 = .ok (.lconst 0, 1) := by decide +kernel
theorem dX8_down_1 : decode cX8_down 1 = .ok (.lstore 4, 2) := by decide +kernel
theorem dX8_down_3 : decode cX8_down 3 = .ok (.iconst 0, 1) := by decide +kernel
theorem dX8_down_4 : decode cX8_down 4 = .ok (.istore 6, 2) := by decide +kernel
theorem dX8_down_6 : decode cX8_down 6 = .ok (.iload 6, 2) := by decide +kernel
theorem dX8_down_8 : decode cX8_down 8 = .ok (.iload_n 0, 1) := by decide +kernel
theorem dX8_down_9 : decode cX8_down 9 = .ok (.if_icmp .ge 31, 3) := by decide +kernel
theorem dX8_down_12 : decode cX8_down 12 = .ok (.lload_n 1, 1) := by decide +kernel
theorem dX8_down_13 : decode cX8_down 13 = .ok (.iload 6, 2) := by decide +kernel
theorem dX8_down_15 : decode cX8_down 15 = .ok (.lshr, 1) := by decide +kernel
theorem dX8_down_16 : decode cX8_down 16 = .ok (.lconst 1, 1) := by decide +kernel
