theorem dX2_addThoseBy_20 : decode cX2_addThoseBy 20 = .ok (.invokevirtual 52, 3) := by decide +kernel
theorem dX2_addThoseBy_23 : decode cX2_addThoseBy 23 = .ok (.aload_n 0, 1) := by decide +kernel
theorem dX2_addThoseBy_24 : decode cX2_addThoseBy 24 = .ok (.iload_n 3, 1) := by decide +kernel
theorem dX2_addThoseBy_25 : decode cX2_addThoseBy 25 = .ok (.iconst 2, 1) := by decide +kernel
theorem dX2_addThoseBy_26 : decode cX2_addThoseBy 26 = .ok (.invokestatic 33, 3) := by decide +kernel
theorem dX2_addThoseBy_29 : decode cX2_addThoseBy 29 = .ok (.invokevirtual 52, 3) := by decide +kernel
theorem dX2_addThoseBy_32 : decode cX2_addThoseBy 32 = .ok (.goto 8, 3) := by decide +kernel
theorem dX2_addThoseBy_35 : decode cX2_addThoseBy 35 = .ok (.aload_n 0, 1) := by decide +kernel
theorem dX2_addThoseBy_36 : decode cX2_addThoseBy 36 = .ok (.iload_n 3, 1) := by decide +kernel
theorem dX2_addThoseBy_37 : decode cX2_addThoseBy 37 = .ok (.invokevirtual 52, 3) := by decide +kernel
theorem dX2_addThoseBy_40 : decode cX2_addThoseBy 40 = .ok (.return_, 1) := by decide +kernel
theorem dX2_add_0 : decode cX2_add 0 = .ok (.aload_n 0, 1) := by decide +kernel
theorem dX2_add_1 : decode cX2_add 1 = .ok (.getfield 15, 3) := by decide +kernel
theorem dX2_add_4 : decode cX2_add 4 = .ok (.ifCond .lt 31, 3) := by decide +kernel
theorem dX2_add_7 : decode cX2_add 7 = .ok (.aload_n 0, 1) := by decide +kernel
theorem dX2_add_8 : decode cX2_add 8 = .ok (.getfield 15, 3) := by decide +kernel
theorem dX2_add_11 : decode cX2_add 11 = .ok (.iconst 4, 1) := by decide +kernel
theorem dX2_add_12 : decode cX2_add 12 = .ok (.if_icmp .ge 23, 3) := by decide +kernel
theorem dX2_add_15 : decode cX2_add 15 = .ok (.aload_n 0, 1) := by decide +kernel
theorem dX2_add_16 : decode cX2_add 16 = .ok (.getfield 11, 3) := by decide +kernel
theorem dX2_add_19 : decode cX2_add 19 = .ok (.aload_n 0, 1) := by decide +kernel
theorem dX2_add_20 : decode cX2_add 20 = .ok (.getfield 15, 3) := by decide +kernel
theorem dX2_add_23 : decode cX2_add 23 = .ok (.iload_n 1, 1) := by decide +kernel
theorem dX2_add_24 : decode cX2_add 24 = .ok (.iastore, 1) := by decide +kernel
theorem dX2_add_25 : decode cX2_add 25 = .ok (.aload_n 0, 1) := by decide +kernel
theorem dX2_add_26 : decode cX2_add 26 = .ok (.dup, 1) := by decide +kernel
theorem dX2_add_27 : decode cX2_add 27 = .ok (.getfield 15, 3) := by decide +kernel
theorem dX2_add_30 : decode cX2_add 30 = .ok (.iconst 1, 1) := by decide +kernel
theorem dX2_add_31 : decode cX2_add 31 = .ok (.iadd, 1) := by decide +kernel
theorem dX2_add_32 : decode cX2_add 32 = .ok (.putfield 15, 3) := by decide +kernel
theorem dX2_add_35 : decode cX2_add 35 = .ok (.return_, 1) := by decide +kernel
set_option maxRecDepth 20000 in
theorem ggX2_split_X6_greatestDivisor : GoodIn wsX2_split wsX6_greatestDivisor := goodIn_r _ [5] (by decide +kernel) (by decide +kernel)
set_option maxRecDepth 20000 in
theorem gX2_split_X6_greatestDivisor : GoodIn wsX2_split (va_wsS RX2 56 yX6_greatestDivisor wsX6_greatestDivisor) := goodIn_app (goodIn_of _ (by decide +kernel)) ggX2_split_X6_greatestDivisor
set_option maxRecDepth 20000 in
theorem ggX2_split_X6_leastMultiple : GoodIn wsX2_split wsX6_leastMultiple := goodIn_r _ [8, 9, 3, 4, 5, 10, 11, 12] (by decide +kernel) (by decide +kernel)
set_option maxRecDepth 20000 in
theorem gX2_split_X6_leastMultiple : GoodIn wsX2_split (va_wsS RX2 59 yX6_leastMultiple wsX6_leastMultiple) := goodIn_app (goodIn_of _ (by decide +kernel)) ggX2_split_X6_leastMultiple
theorem dX2_split_0 : decode cX2_split 0 = .ok (.iload_n 1, 1) := by decide +kernel
theorem dX2_split_1 : decode cX2_split 1 = .ok (.ifCond .lt 17, 3) := by decide +kernel
theorem dX2_split_4 : decode cX2_split 4 = .ok (.iload_n 2, 1) := by decide +kernel
theorem dX2_split_5 : decode cX2_split 5 = .ok (.ifCond .lt 13, 3) := by decide +kernel
theorem dX2_split_8 : decode cX2_split 8 = .ok (.iload_n 1, 1) := by decide +kernel
theorem dX2_split_9 : decode cX2_split 9 = .ok (.iconst 4, 1) := by decide +kernel
theorem dX2_split_10 : decode cX2_split 10 = .ok (.if_icmp .ge 8, 3) := by decide +kernel
theorem dX2_split_13 : decode cX2_split 13 = .ok (.iload_n 2, 1) := by decide +kernel
theorem dX2_split_14 : decode cX2_split 14 = .ok (.iconst 4, 1) := by decide +kernel
theorem dX2_split_15 : decode cX2_split 15 = .ok (.if_icmp .lt 4, 3) := by decide +kernel
theorem dX2_split_18 : decode cX2_split 18 = .ok (.return_, 1) := by decide +kernel
theorem dX2_split_19 : decode cX2_split 19 = .ok (.aload_n 0, 1) := by decide +kernel
theorem dX2_split_20 : decode cX2_split 20 = .ok (.getfield 11, 3) := by decide +kernel
theorem dX2_split_23 : decode cX2_split 23 = .ok (.iload_n 1, 1) := by decide +kernel
theorem dX2_split_24 : decode cX2_split 24 = .ok (.iaload, 1) := by decide +kernel
theorem dX2_split_25 : decode cX2_split 25 = .ok (.aload_n 0, 1) := by decide +kernel
theorem dX2_split_26 : decode cX2_split 26 = .ok (.getfield 11, 3) := by decide +kernel
theorem dX2_split_29 : decode cX2_split 29 = .ok (.iload_n 2, 1) := by decide +kernel
theorem dX2_split_30 : decode cX2_split 30 = .ok (.iaload, 1) := by decide +kernel
theorem dX2_split_31 : decode cX2_split 31 = .ok (.invokestatic 56, 3) := by decide +kernel
theorem dX2_split_34 : decode cX2_split 34 = .ok (.istore_n 3, 1) := by decide +kernel
theorem dX2_split_35 : decode cX2_split 35 = .ok (.aload_n 0, 1) := by decide +kernel
theorem dX2_split_36 : decode cX2_split 36 = .ok (.getfield 11, 3) := by decide +kernel
theorem dX2_split_39 : decode cX2_split 39 = .ok (.iload_n 1, 1) := by decide +kernel
theorem dX2_split_40 : decode cX2_split 40 = .ok (.iaload, 1) := by decide +kernel
theorem dX2_split_41 : decode cX2_split 41 = .ok (.aload_n 0, 1) := by decide +kernel
theorem dX2_split_42 : decode cX2_split 42 = .ok (.getfield 11, 3) := by decide +kernel
theorem dX2_split_45 : decode cX2_split 45 = .ok (.iload_n 2, 1) := by decide +kernel
theorem dX2_split_46 : decode cX2_split 46 = .ok (.iaload, 1) := by decide +kernel
theorem dX2_split_47 : decode cX2_split 47 = .ok (.invokestatic 59, 3) := by decide +kernel
theorem dX2_split_50 : decode cX2_split 50 = .ok (.istore 4, 2) := by decide +kernel
theorem dX2_split_52 : decode cX2_split 52 = .ok (.aload_n 0, 1) := by decide +kernel
theorem dX2_split_53 : decode cX2_split 53 = .ok (.getfield 11, 3) := by decide +kernel
theorem dX2_split_56 : decode cX2_split 56 = .ok (.iload_n 1, 1) := by decide +kernel
theorem dX2_split_57 : decode cX2_split 57 = .ok (.iload_n 3, 1) := by decide +kernel
theorem dX2_split_58 : decode cX2_split 58 = .ok (.iastore, 1) := by decide +kernel
theorem dX2_split_59 : decode cX2_split 59 = .ok (.aload_n 0, 1) := by decide +kernel
theorem dX2_split_60 : decode cX2_split 60 = .ok (.getfield 11, 3) := by decide +kernel
theorem dX2_split_63 : decode cX2_split 63 = .ok (.iload_n 2, 1) := by decide +kernel
theorem dX2_split_64 : decode cX2_split 64 = .ok (.iload 4, 2) := by decide +kernel
theorem dX2_split_66 : decode cX2_split 66 = .ok (.iastore, 1) := by decide +kernel
theorem dX2_split_67 : decode cX2_split 67 = .ok (.return_, 1) := by decide +kernel
theorem dX3_bit_0 : decode cX3_bit 0 = .ok (.iload_n 0, 1) := by decide +kernel
theorem dX3_bit_1 : decode cX3_bit 1 = .ok (.ifCond .lt 9, 3) := by decide +kernel
theorem dX3_bit_4 : decode cX3_bit 4 = .ok (.iload_n 0, 1) := by decide +kernel
theorem dX3_bit_5 : decode cX3_bit 5 = .ok (.bipush 63, 2) := by decide +kernel
theorem dX3_bit_7 : decode cX3_bit 7 = .ok (.if_icmp .lt 7, 3) := by decide +kernel
theorem dX3_bit_10 : decode cX3_bit 10 = .ok (.lconst 0, 1) := by decide +kernel
theorem dX3_bit_11 : decode cX3_bit 11 = .ok (.goto 6, 3) := by decide +kernel
theorem dX3_bit_14 : decode cX3_bit 14 = .ok (.lconst 1, 1) := by decide +kernel
theorem dX3_bit_15 : decode cX3_bit 15 = .ok (.iload_n 0, 1) := by decide +kernel
theorem dX3_bit_16 : decode cX3_bit 16 = .ok (.lshl, 1) := by decide +kernel
theorem dX3_bit_17 : decode cX3_bit 17 = .ok (.lreturn, 1) := by decide +kernel
theorem dX3_has_0 : decode cX3_has 0 = .ok (.iload_n 2, 1) := by decide +kernel
theorem dX3_has_1 : decode cX3_has 1 = .ok (.ifCond .lt 23, 3) := by decide +kernel
theorem dX3_has_4 : decode cX3_has 4 = .ok (.iload_n 2, 1) := by decide +kernel
theorem dX3_has_5 : decode cX3_has 5 = .ok (.bipush 63, 2) := by decide +kernel
theorem dX3_has_7 : decode cX3_has 7 = .ok (.if_icmp .ge 17, 3) := by decide +kernel
theorem dX3_has_10 : decode cX3_has 10 = .ok (.lload_n 0, 1) := by decide +kernel
theorem dX3_has_11 : decode cX3_has 11 = .ok (.iload_n 2, 1) := by decide +kernel
theorem dX3_has_12 : decode cX3_has 12 = .ok (.lshr, 1) := by decide +kernel
theorem dX3_has_13 : decode cX3_has 13 = .ok (.lconst 1, 1) := by decide +kernel
theorem dX3_has_14 : decode cX3_has 14 = .ok (.land, 1) := by decide +kernel
theorem dX3_has_15 : decode cX3_has 15 = .ok (.lconst 0, 1) := by decide +kernel
theorem dX3_has_16 : decode cX3_has 16 = .ok (.lcmp, 1) := by decide +kernel
theorem dX3_has_17 : decode cX3_has 17 = .ok (.ifCond .eq 7, 3) := by decide +kernel
theorem dX3_has_20 : decode cX3_has 20 = .ok (.iconst 1, 1) := by decide +kernel
theorem dX3_has_21 : decode cX3_has 21 = .ok (.goto 4, 3) := by decide +kernel
theorem dX3_has_24 : decode cX3_has 24 = .ok (.iconst 0, 1) := by decide +kernel
theorem dX3_has_25 : decode cX3_has 25 = .ok (.ireturn, 1) := by decide +kernel
set_option maxRecDepth 20000 in
theorem ggX3_size_J13_bitCount_95d88 : GoodIn wsX3_size wsJ13_bitCount_95d88 := goodIn_r _ [4, 5, 6, 7] (by decide +kernel) (by decide +kernel)
set_option maxRecDepth 20000 in
theorem gX3_size_J13_bitCount_95d88 : GoodIn wsX3_size (va_wsS RX3 9 yJ13_bitCount_95d88 wsJ13_bitCount_95d88) := goodIn_app (goodIn_of _ (by decide +kernel)) ggX3_size_J13_bitCount_95d88
theorem dX3_size_0 : decode cX3_size 0 = .ok (.lload_n 0, 1) := by decide +kernel
theorem dX3_size_1 : decode cX3_size 1 = .ok (.invokestatic 9, 3) := by decide +kernel
theorem dX3_size_4 : decode cX3_size 4 = .ok (.ireturn, 1) := by decide +kernel
set_option maxRecDepth 20000 in
theorem ggX3_all_X6_greatestDivisor : GoodIn wsX3_all wsX6_greatestDivisor := goodIn_r _ [4] (by decide +kernel) (by decide +kernel)
set_option maxRecDepth 20000 in
theorem gX3_all_X6_greatestDivisor : GoodIn wsX3_all (va_wsS RX3 15 yX6_greatestDivisor wsX6_greatestDivisor) := goodIn_app (goodIn_of _ (by decide +kernel)) ggX3_all_X6_greatestDivisor
set_option maxRecDepth 20000 in
theorem ggX3_all_X3_bit : GoodIn wsX3_all wsX3_bit := goodIn_r _ [8] (by decide +kernel) (by decide +kernel)
set_option maxRecDepth 20000 in
theorem gX3_all_X3_bit : GoodIn wsX3_all (va_wsS RX3 21 yX3_bit wsX3_bit) := goodIn_app (goodIn_of _ (by decide +kernel)) ggX3_all_X3_bit
theorem dX3_all_0 : decode cX3_all 0 = .ok (.lconst 0, 1) := by decide +kernel
theorem dX3_all_1 : decode cX3_all 1 = .ok (.lstore_n 1, 1) := by decide +kernel
theorem dX3_all_2 : decode cX3_all 2 = .ok (.iconst 0, 1) := by decide +kernel
theorem dX3_all_3 : decode cX3_all 3 = .ok (.istore_n 3, 1) := by decide +kernel
theorem dX3_all_4 : decode cX3_all 4 = .ok (.iload_n 3, 1) := by decide +kernel
theorem dX3_all_5 : decode cX3_all 5 = .ok (.iload_n 0, 1) := by decide +kernel
theorem dX3_all_6 : decode cX3_all 6 = .ok (.if_icmp .ge 31, 3) := by decide +kernel
theorem dX3_all_9 : decode cX3_all 9 = .ok (.iload_n 3, 1) := by decide +kernel
theorem dX3_all_10 : decode cX3_all 10 = .ok (.bipush 63, 2) := by decide +kernel
theorem dX3_all_12 : decode cX3_all 12 = .ok (.if_icmp .ge 25, 3) := by decide +kernel
theorem dX3_all_15 : decode cX3_all 15 = .ok (.iload_n 3, 1) := by decide +kernel
theorem dX3_all_16 : decode cX3_all 16 = .ok (.iload_n 0, 1) := by decide +kernel
theorem dX3_all_17 : decode cX3_all 17 = .ok (.invokestatic 15, 3) := by decide +kernel
theorem dX3_all_20 : decode cX3_all 20 = .ok (.iconst 1, 1) := by decide +kernel
theorem dX3_all_21 : decode cX3_all 21 = .ok (.if_icmp .ne 10, 3) := by decide +kernel
theorem dX3_all_24 : decode cX3_all 24 = .ok (.lload_n 1, 1) := by decide +kernel
theorem dX3_all_25 : decode cX3_all 25 = .ok (.iload_n 3, 1) := by decide +kernel
theorem dX3_all_26 : decode cX3_all 26 = .ok (.invokestatic 21, 3) := by decide +kernel
theorem dX3_all_29 : decode cX3_all 29 = .ok (.lor, 1) := by decide +kernel
theorem dX3_all_30 : decode cX3_all 30 = .ok (.lstore_n 1, 1) := by decide +kernel
theorem dX3_all_31 : decode cX3_all 31 = .ok (.iinc 3 1, 3) := by decide +kernel
theorem dX3_all_34 : decode cX3_all 34 = .ok (.goto (-30), 3) := by decide +kernel
theorem dX3_all_37 : decode cX3_all 37 = .ok (.lload_n 1, 1) := by decide +kernel
theorem dX3_all_38 : decode cX3_all 38 = .ok (.lreturn, 1) := by decide +kernel
set_option maxRecDepth 20000 in
theorem ggX3_one_X6_rest : GoodIn wsX3_one wsX6_rest := goodIn_r _ [4] (by decide +kernel) (by decide +kernel)
set_option maxRecDepth 20000 in
theorem gX3_one_X6_rest : GoodIn wsX3_one (va_wsS RX3 27 yX6_rest wsX6_rest) := goodIn_app (goodIn_of _ (by decide +kernel)) ggX3_one_X6_rest
set_option maxRecDepth 20000 in
theorem ggX3_one_X3_bit : GoodIn wsX3_one wsX3_bit := goodIn_r _ [8] (by decide +kernel) (by decide +kernel)
set_option maxRecDepth 20000 in
theorem gX3_one_X3_bit : GoodIn wsX3_one (va_wsS RX3 21 yX3_bit wsX3_bit) := goodIn_app (goodIn_of _ (by decide +kernel)) ggX3_one_X3_bit
theorem dX3_one_0 : decode cX3_one 0 = .ok (.iconst 1, 1) := by decide +kernel
theorem dX3_one_1 : decode cX3_one 1 = .ok (.iload_n 0, 1) := by decide +kernel
theorem dX3_one_2 : decode cX3_one 2 = .ok (.invokestatic 27, 3) := by decide +kernel
theorem dX3_one_5 : decode cX3_one 5 = .ok (.invokestatic 21, 3) := by decide +kernel
theorem dX3_one_8 : decode cX3_one 8 = .ok (.lreturn, 1) := by decide +kernel
set_option maxRecDepth 20000 in
theorem ggX3_times_X3_has : GoodIn wsX3_times wsX3_has := goodIn_r _ [4] (by decide +kernel) (by decide +kernel)
set_option maxRecDepth 20000 in
theorem gX3_times_X3_has : GoodIn wsX3_times (va_wsS RX3 30 yX3_has wsX3_has) := goodIn_app (goodIn_of _ (by decide +kernel)) ggX3_times_X3_has
set_option maxRecDepth 20000 in
theorem ggX3_times_X6_rest : GoodIn wsX3_times wsX6_rest := goodIn_r _ [8] (by decide +kernel) (by decide +kernel)
set_option maxRecDepth 20000 in
theorem gX3_times_X6_rest : GoodIn wsX3_times (va_wsS RX3 27 yX6_rest wsX6_rest) := goodIn_app (goodIn_of _ (by decide +kernel)) ggX3_times_X6_rest
set_option maxRecDepth 20000 in
theorem ggX3_times_X3_bit : GoodIn wsX3_times wsX3_bit := goodIn_r _ [11] (by decide +kernel) (by decide +kernel)
set_option maxRecDepth 20000 in
theorem gX3_times_X3_bit : GoodIn wsX3_times (va_wsS RX3 21 yX3_bit wsX3_bit) := goodIn_app (goodIn_of _ (by decide +kernel)) ggX3_times_X3_bit
theorem dX3_times_0 : decode cX3_times 0 = .ok (.lconst 0, 1) := by decide +kernel
theorem dX3_times_1 : decode cX3_times 1 = .ok (.lstore 4, 2) := by decide +kernel
theorem dX3_times_3 : decode cX3_times 3 = .ok (.iconst 0, 1) := by decide +kernel
theorem dX3_times_4 : decode cX3_times 4 = .ok (.istore 6, 2) := by decide +kernel
theorem dX3_times_6 : decode cX3_times 6 = .ok (.iload 6, 2) := by decide +kernel
theorem dX3_times_8 : decode cX3_times 8 = .ok (.iload_n 3, 1) := by decide +kernel
theorem dX3_times_9 : decode cX3_times 9 = .ok (.if_icmp .ge 34, 3) := by decide +kernel
theorem dX3_times_12 : decode cX3_times 12 = .ok (.lload_n 0, 1) := by decide +kernel
theorem dX3_times_13 : decode cX3_times 13 = .ok (.iload 6, 2) := by decide +kernel
theorem dX3_times_15 : decode cX3_times 15 = .ok (.invokestatic 30, 3) := by decide +kernel
theorem dX3_times_18 : decode cX3_times 18 = .ok (.ifCond .eq 19, 3) := by decide +kernel
theorem dX3_times_21 : decode cX3_times 21 = .ok (.lload 4, 2) := by decide +kernel
theorem dX3_times_23 : decode cX3_times 23 = .ok (.iload_n 2, 1) := by decide +kernel
theorem dX3_times_24 : decode cX3_times 24 = .ok (.iload 6, 2) := by decide +kernel
theorem dX3_times_26 : decode cX3_times 26 = .ok (.imul, 1) := by decide +kernel
theorem dX3_times_27 : decode cX3_times 27 = .ok (.iload_n 3, 1) := by decide +kernel
theorem dX3_times_28 : decode cX3_times 28 = .ok (.invokestatic 27, 3) := by decide +kernel
theorem dX3_times_31 : decode cX3_times 31 = .ok (.invokestatic 21, 3) := by decide +kernel
theorem dX3_times_34 : decode cX3_times 34 = .ok (.lor, 1) := by decide +kernel
theorem dX3_times_35 : decode cX3_times 35 = .ok (.lstore 4, 2) := by decide +kernel
theorem dX3_times_37 : decode cX3_times 37 = .ok (.iinc 6 1, 3) := by decide +kernel
theorem dX3_times_40 : decode cX3_times 40 = .ok (.goto (-34), 3) := by decide +kernel
theorem dX3_times_43 : decode cX3_times 43 = .ok (.lload 4, 2) := by decide +kernel
theorem dX3_times_45 : decode cX3_times 45 = .ok (.lreturn, 1) := by decide +kernel
set_option maxRecDepth 20000 in
theorem ggX3_product_X3_has : GoodIn wsX3_product wsX3_has := goodIn_r _ [5] (by decide +kernel) (by decide +kernel)
set_option maxRecDepth 20000 in
theorem gX3_product_X3_has : GoodIn wsX3_product (va_wsS RX3 30 yX3_has wsX3_has) := goodIn_app (goodIn_of _ (by decide +kernel)) ggX3_product_X3_has
set_option maxRecDepth 20000 in
theorem ggX3_product_X3_times : GoodIn wsX3_product wsX3_times := goodIn_r _ [8, 2, 3, 4, 5, 9, 10, 11, 12, 13, 14, 15] (by decide +kernel) (by decide +kernel)
set_option maxRecDepth 20000 in
theorem gX3_product_X3_times : GoodIn wsX3_product (va_wsS RX3 36 yX3_times wsX3_times) := goodIn_app (goodIn_of _ (by decide +kernel)) ggX3_product_X3_times
theorem dX3_product_0 : decode cX3_product 0 = .ok (.lload_n 0, 1) := by decide +kernel
theorem dX3_product_1 : decode cX3_product 1 = .ok (.lstore 5, 2) := by decide +kernel
theorem dX3_product_3 : decode cX3_product 3 = .ok (.iconst 0, 1) := by decide +kernel
theorem dX3_product_4 : decode cX3_product 4 = .ok (.istore 7, 2) := by decide +kernel
theorem dX3_product_6 : decode cX3_product 6 = .ok (.iload 7, 2) := by decide +kernel
theorem dX3_product_8 : decode cX3_product 8 = .ok (.iload 4, 2) := by decide +kernel
theorem dX3_product_10 : decode cX3_product 10 = .ok (.if_icmp .ge 38, 3) := by decide +kernel
theorem dX3_product_13 : decode cX3_product 13 = .ok (.lload_n 2, 1) := by decide +kernel
theorem dX3_product_14 : decode cX3_product 14 = .ok (.lload 5, 2) := by decide +kernel
theorem dX3_product_16 : decode cX3_product 16 = .ok (.ldc2_w 34, 3) := by decide +kernel
theorem dX3_product_19 : decode cX3_product 19 = .ok (.lxor, 1) := by decide +kernel
theorem dX3_product_20 : decode cX3_product 20 = .ok (.land, 1) := by decide +kernel
theorem dX3_product_21 : decode cX3_product 21 = .ok (.iload 7, 2) := by decide +kernel
theorem dX3_product_23 : decode cX3_product 23 = .ok (.invokestatic 30, 3) := by decide +kernel
theorem dX3_product_26 : decode cX3_product 26 = .ok (.ifCond .eq 16, 3) := by decide +kernel
theorem dX3_product_29 : decode cX3_product 29 = .ok (.lload 5, 2) := by decide +kernel
theorem dX3_product_31 : decode cX3_product 31 = .ok (.lload_n 0, 1) := by decide +kernel
theorem dX3_product_32 : decode cX3_product 32 = .ok (.iload 7, 2) := by decide +kernel
theorem dX3_product_34 : decode cX3_product 34 = .ok (.iload 4, 2) := by decide +kernel
theorem dX3_product_36 : decode cX3_product 36 = .ok (.invokestatic 36, 3) := by decide +kernel
theorem dX3_product_39 : decode cX3_product 39 = .ok (.lor, 1) := by decide +kernel
theorem dX3_product_40 : decode cX3_product 40 = .ok (.lstore 5, 2) := by decide +kernel
theorem dX3_product_42 : decode cX3_product 42 = .ok (.iinc 7 1, 3) := by decide +kernel
theorem dX3_product_45 : decode cX3_product 45 = .ok (.goto (-39), 3) := by decide +kernel
theorem dX3_product_48 : decode cX3_product 48 = .ok (.lload 5, 2) := by decide +kernel
theorem dX3_product_50 : decode cX3_product 50 = .ok (.lreturn, 1) := by decide +kernel
set_option maxRecDepth 20000 in
theorem ggX3_with_X3_has : GoodIn wsX3_with wsX3_has := goodIn_r _ [4] (by decide +kernel) (by decide +kernel)
set_option maxRecDepth 20000 in
theorem gX3_with_X3_has : GoodIn wsX3_with (va_wsS RX3 30 yX3_has wsX3_has) := goodIn_app (goodIn_of _ (by decide +kernel)) ggX3_with_X3_has
set_option maxRecDepth 20000 in
theorem ggX3_with_X3_times : GoodIn wsX3_with wsX3_times := goodIn_r _ [7, 1, 2, 3, 4, 8, 9, 10, 11, 12, 13, 14] (by decide +kernel) (by decide +kernel)
set_option maxRecDepth 20000 in
theorem gX3_with_X3_times : GoodIn wsX3_with (va_wsS RX3 36 yX3_times wsX3_times) := goodIn_app (goodIn_of _ (by decide +kernel)) ggX3_with_X3_times
set_option maxRecDepth 20000 in
theorem ggX3_with_X6_rest : GoodIn wsX3_with wsX6_rest := goodIn_r _ [11] (by decide +kernel) (by decide +kernel)
set_option maxRecDepth 20000 in
theorem gX3_with_X6_rest : GoodIn wsX3_with (va_wsS RX3 27 yX6_rest wsX6_rest) := goodIn_app (goodIn_of _ (by decide +kernel)) ggX3_with_X6_rest
theorem dX3_with_0 : decode cX3_with 0 = .ok (.lload_n 0, 1) := by decide +kernel
theorem dX3_with_1 : decode cX3_with 1 = .ok (.lstore 4, 2) := by decide +kernel
theorem dX3_with_3 : decode cX3_with 3 = .ok (.iload_n 2, 1) := by decide +kernel
theorem dX3_with_4 : decode cX3_with 4 = .ok (.istore 6, 2) := by decide +kernel
theorem dX3_with_6 : decode cX3_with 6 = .ok (.iconst 0, 1) := by decide +kernel
theorem dX3_with_7 : decode cX3_with 7 = .ok (.istore 7, 2) := by decide +kernel
theorem dX3_with_9 : decode cX3_with 9 = .ok (.iload 7, 2) := by decide +kernel
theorem dX3_with_11 : decode cX3_with 11 = .ok (.iload_n 3, 1) := by decide +kernel
theorem dX3_with_12 : decode cX3_with 12 = .ok (.if_icmp .ge 40, 3) := by decide +kernel
theorem dX3_with_15 : decode cX3_with 15 = .ok (.lload_n 0, 1) := by decide +kernel
theorem dX3_with_16 : decode cX3_with 16 = .ok (.iload 6, 2) := by decide +kernel
theorem dX3_with_18 : decode cX3_with 18 = .ok (.invokestatic 30, 3) := by decide +kernel
theorem dX3_with_21 : decode cX3_with 21 = .ok (.ifCond .ne 31, 3) := by decide +kernel
theorem dX3_with_24 : decode cX3_with 24 = .ok (.lload 4, 2) := by decide +kernel
theorem dX3_with_26 : decode cX3_with 26 = .ok (.lload_n 0, 1) := by decide +kernel
theorem dX3_with_27 : decode cX3_with 27 = .ok (.iload 6, 2) := by decide +kernel
theorem dX3_with_29 : decode cX3_with 29 = .ok (.iload_n 3, 1) := by decide +kernel
theorem dX3_with_30 : decode cX3_with 30 = .ok (.invokestatic 36, 3) := by decide +kernel
theorem dX3_with_33 : decode cX3_with 33 = .ok (.lor, 1) := by decide +kernel
theorem dX3_with_34 : decode cX3_with 34 = .ok (.lstore 4, 2) := by decide +kernel
theorem dX3_with_36 : decode cX3_with 36 = .ok (.iload 6, 2) := by decide +kernel
theorem dX3_with_38 : decode cX3_with 38 = .ok (.iload_n 2, 1) := by decide +kernel
theorem dX3_with_39 : decode cX3_with 39 = .ok (.imul, 1) := by decide +kernel
theorem dX3_with_40 : decode cX3_with 40 = .ok (.iload_n 3, 1) := by decide +kernel
theorem dX3_with_41 : decode cX3_with 41 = .ok (.invokestatic 27, 3) := by decide +kernel
theorem dX3_with_44 : decode cX3_with 44 = .ok (.istore 6, 2) := by decide +kernel
theorem dX3_with_46 : decode cX3_with 46 = .ok (.iinc 7 1, 3) := by decide +kernel
theorem dX3_with_49 : decode cX3_with 49 = .ok (.goto (-40), 3) := by decide +kernel
theorem dX3_with_52 : decode cX3_with 52 = .ok (.lload 4, 2) := by decide +kernel
theorem dX3_with_54 : decode cX3_with 54 = .ok (.lreturn, 1) := by decide +kernel
set_option maxRecDepth 20000 in
theorem ggX3_madeOf_X3_one : GoodIn wsX3_madeOf wsX3_one := goodIn_r _ [5, 6, 7, 8, 9, 10, 11, 4, 12] (by decide +kernel) (by decide +kernel)
set_option maxRecDepth 20000 in
theorem gX3_madeOf_X3_one : GoodIn wsX3_madeOf (va_wsS RX3 40 yX3_one wsX3_one) := goodIn_app (goodIn_of _ (by decide +kernel)) ggX3_madeOf_X3_one
set_option maxRecDepth 20000 in
theorem ggX3_madeOf_X3_has : GoodIn wsX3_madeOf wsX3_has := goodIn_r _ [15] (by decide +kernel) (by decide +kernel)
set_option maxRecDepth 20000 in
theorem gX3_madeOf_X3_has : GoodIn wsX3_madeOf (va_wsS RX3 30 yX3_has wsX3_has) := goodIn_app (goodIn_of _ (by decide +kernel)) ggX3_madeOf_X3_has
set_option maxRecDepth 20000 in
theorem ggX3_madeOf_X3_with : GoodIn wsX3_madeOf wsX3_with := goodIn_r _ [18, 13, 14, 4, 15, 19, 20, 21, 6, 7, 8, 9, 10, 11, 12] (by decide +kernel) (by decide +kernel)
set_option maxRecDepth 20000 in
theorem gX3_madeOf_X3_with : GoodIn wsX3_madeOf (va_wsS RX3 43 yX3_with wsX3_with) := goodIn_app (goodIn_of _ (by decide +kernel)) ggX3_madeOf_X3_with
theorem dX3_madeOf_0 : decode cX3_madeOf 0 = .ok (.iload_n 2, 1) := by decide +kernel
theorem dX3_madeOf_1 : decode cX3_madeOf 1 = .ok (.invokestatic 40, 3) := by decide +kernel
theorem dX3_madeOf_4 : decode cX3_madeOf 4 = .ok (.lstore_n 3, 1) := by decide +kernel
theorem dX3_madeOf_5 : decode cX3_madeOf 5 = .ok (.iconst 0, 1) := by decide +kernel
theorem dX3_madeOf_6 : decode cX3_madeOf 6 = .ok (.istore 5, 2) := by decide +kernel
theorem dX3_madeOf_8 : decode cX3_madeOf 8 = .ok (.iload 5, 2) := by decide +kernel
theorem dX3_madeOf_10 : decode cX3_madeOf 10 = .ok (.iload_n 2, 1) := by decide +kernel
theorem dX3_madeOf_11 : decode cX3_madeOf 11 = .ok (.if_icmp .ge 32, 3) := by decide +kernel
theorem dX3_madeOf_14 : decode cX3_madeOf 14 = .ok (.lload_n 0, 1) := by decide +kernel
theorem dX3_madeOf_15 : decode cX3_madeOf 15 = .ok (.lload_n 3, 1) := by decide +kernel
theorem dX3_madeOf_16 : decode cX3_madeOf 16 = .ok (.ldc2_w 34, 3) := by decide +kernel
theorem dX3_madeOf_19 : decode cX3_madeOf 19 = .ok (.lxor, 1) := by decide +kernel
theorem dX3_madeOf_20 : decode cX3_madeOf 20 = .ok (.land, 1) := by decide +kernel
theorem dX3_madeOf_21 : decode cX3_madeOf 21 = .ok (.iload 5, 2) := by decide +kernel
theorem dX3_madeOf_23 : decode cX3_madeOf 23 = .ok (.invokestatic 30, 3) := by decide +kernel
theorem dX3_madeOf_26 : decode cX3_madeOf 26 = .ok (.ifCond .eq 11, 3) := by decide +kernel
theorem dX3_madeOf_29 : decode cX3_madeOf 29 = .ok (.lload_n 3, 1) := by decide +kernel
theorem dX3_madeOf_30 : decode cX3_madeOf 30 = .ok (.iload 5, 2) := by decide +kernel
theorem dX3_madeOf_32 : decode cX3_madeOf 32 = .ok (.iload_n 2, 1) := by decide +kernel
theorem dX3_madeOf_33 : decode cX3_madeOf 33 = .ok (.invokestatic 43, 3) := by decide +kernel
theorem dX3_madeOf_36 : decode cX3_madeOf 36 = .ok (.lstore_n 3, 1) := by decide +kernel
theorem dX3_madeOf_37 : decode cX3_madeOf 37 = .ok (.iinc 5 1, 3) := by decide +kernel
theorem dX3_madeOf_40 : decode cX3_madeOf 40 = .ok (.goto (-32), 3) := by decide +kernel
theorem dX3_madeOf_43 : decode cX3_madeOf 43 = .ok (.lload_n 3, 1) := by decide +kernel
theorem dX3_madeOf_44 : decode cX3_madeOf 44 = .ok (.lreturn, 1) := by decide +kernel
set_option maxRecDepth 20000 in
theorem ggX3_allPowers_X3_all : GoodIn wsX3_allPowers wsX3_all := goodIn_r _ [4, 5, 6, 7, 8, 9, 10, 3, 11] (by decide +kernel) (by decide +kernel)
set_option maxRecDepth 20000 in
theorem gX3_allPowers_X3_all : GoodIn wsX3_allPowers (va_wsS RX3 46 yX3_all wsX3_all) := goodIn_app (goodIn_of _ (by decide +kernel)) ggX3_allPowers_X3_all
set_option maxRecDepth 20000 in
theorem ggX3_allPowers_X3_has : GoodIn wsX3_allPowers wsX3_has := goodIn_r _ [14] (by decide +kernel) (by decide +kernel)
set_option maxRecDepth 20000 in
theorem gX3_allPowers_X3_has : GoodIn wsX3_allPowers (va_wsS RX3 30 yX3_has wsX3_has) := goodIn_app (goodIn_of _ (by decide +kernel)) ggX3_allPowers_X3_has
set_option maxRecDepth 20000 in
theorem ggX3_allPowers_X6_rest : GoodIn wsX3_allPowers wsX6_rest := goodIn_r _ [17] (by decide +kernel) (by decide +kernel)
set_option maxRecDepth 20000 in
theorem gX3_allPowers_X6_rest : GoodIn wsX3_allPowers (va_wsS RX3 27 yX6_rest wsX6_rest) := goodIn_app (goodIn_of _ (by decide +kernel)) ggX3_allPowers_X6_rest
set_option maxRecDepth 20000 in
theorem ggX3_allPowers_X3_bit : GoodIn wsX3_allPowers wsX3_bit := goodIn_r _ [11] (by decide +kernel) (by decide +kernel)
set_option maxRecDepth 20000 in
theorem gX3_allPowers_X3_bit : GoodIn wsX3_allPowers (va_wsS RX3 21 yX3_bit wsX3_bit) := goodIn_app (goodIn_of _ (by decide +kernel)) ggX3_allPowers_X3_bit
theorem dX3_allPowers_0 : decode cX3_allPowers 0 = .ok (.iload_n 0, 1) := by decide +kernel
theorem dX3_allPowers_1 : decode cX3_allPowers 1 = .ok (.invokestatic 46, 3) := by decide +kernel
theorem dX3_allPowers_4 : decode cX3_allPowers 4 = .ok (.lstore_n 2, 1) := by decide +kernel
theorem dX3_allPowers_5 : decode cX3_allPowers 5 = .ok (.lconst 0, 1) := by decide +kernel
theorem dX3_allPowers_6 : decode cX3_allPowers 6 = .ok (.lstore 4, 2) := by decide +kernel
theorem dX3_allPowers_8 : decode cX3_allPowers 8 = .ok (.iconst 0, 1) := by decide +kernel
theorem dX3_allPowers_9 : decode cX3_allPowers 9 = .ok (.istore 6, 2) := by decide +kernel
theorem dX3_allPowers_11 : decode cX3_allPowers 11 = .ok (.iload 6, 2) := by decide +kernel
theorem dX3_allPowers_13 : decode cX3_allPowers 13 = .ok (.iload_n 0, 1) := by decide +kernel
theorem dX3_allPowers_14 : decode cX3_allPowers 14 = .ok (.if_icmp .ge 61, 3) := by decide +kernel
theorem dX3_allPowers_17 : decode cX3_allPowers 17 = .ok (.lload_n 2, 1) := by decide +kernel
theorem dX3_allPowers_18 : decode cX3_allPowers 18 = .ok (.iload 6, 2) := by decide +kernel
theorem dX3_allPowers_20 : decode cX3_allPowers 20 = .ok (.invokestatic 30, 3) := by decide +kernel
theorem dX3_allPowers_23 : decode cX3_allPowers 23 = .ok (.ifCond .eq 46, 3) := by decide +kernel
theorem dX3_allPowers_26 : decode cX3_allPowers 26 = .ok (.iconst 1, 1) := by decide +kernel
theorem dX3_allPowers_27 : decode cX3_allPowers 27 = .ok (.iload_n 0, 1) := by decide +kernel
theorem dX3_allPowers_28 : decode cX3_allPowers 28 = .ok (.invokestatic 27, 3) := by decide +kernel
theorem dX3_allPowers_31 : decode cX3_allPowers 31 = .ok (.istore 7, 2) := by decide +kernel
theorem dX3_allPowers_33 : decode cX3_allPowers 33 = .ok (.iconst 0, 1) := by decide +kernel
theorem dX3_allPowers_34 : decode cX3_allPowers 34 = .ok (.istore 8, 2) := by decide +kernel
theorem dX3_allPowers_36 : decode cX3_allPowers 36 = .ok (.iload 8, 2) := by decide +kernel
theorem dX3_allPowers_38 : decode cX3_allPowers 38 = .ok (.iload_n 1, 1) := by decide +kernel
theorem dX3_allPowers_39 : decode cX3_allPowers 39 = .ok (.if_icmp .ge 20, 3) := by decide +kernel
theorem dX3_allPowers_42 : decode cX3_allPowers 42 = .ok (.iload 7, 2) := by decide +kernel
theorem dX3_allPowers_44 : decode cX3_allPowers 44 = .ok (.iload 6, 2) := by decide +kernel
theorem dX3_allPowers_46 : decode cX3_allPowers 46 = .ok (.imul, 1) := by decide +kernel
theorem dX3_allPowers_47 : decode cX3_allPowers 47 = .ok (.iload_n 0, 1) := by decide +kernel
theorem dX3_allPowers_48 : decode cX3_allPowers 48 = .ok (.invokestatic 27, 3) := by decide +kernel
theorem dX3_allPowers_51 : decode cX3_allPowers 51 = .ok (.istore 7, 2) := by decide +kernel
theorem dX3_allPowers_53 : decode cX3_allPowers 53 = .ok (.iinc 8 1, 3) := by decide +kernel
theorem dX3_allPowers_56 : decode cX3_allPowers 56 = .ok (.goto (-20), 3) := by decide +kernel
theorem dX3_allPowers_59 : decode cX3_allPowers 59 = .ok (.lload 4, 2) := by decide +kernel
theorem dX3_allPowers_61 : decode cX3_allPowers 61 = .ok (.iload 7, 2) := by decide +kernel
theorem dX3_allPowers_63 : decode cX3_allPowers 63 = .ok (.invokestatic 21, 3) := by decide +kernel
theorem dX3_allPowers_66 : decode cX3_allPowers 66 = .ok (.lor, 1) := by decide +kernel
theorem dX3_allPowers_67 : decode cX3_allPowers 67 = .ok (.lstore 4, 2) := by decide +kernel
theorem dX3_allPowers_69 : decode cX3_allPowers 69 = .ok (.iinc 6 1, 3) := by decide +kernel
theorem dX3_allPowers_72 : decode cX3_allPowers 72 = .ok (.goto (-61), 3) := by decide +kernel
theorem dX3_allPowers_75 : decode cX3_allPowers 75 = .ok (.lload 4, 2) := by decide +kernel
theorem dX3_allPowers_77 : decode cX3_allPowers 77 = .ok (.lreturn, 1) := by decide +kernel
set_option maxRecDepth 20000 in
theorem ggX3_orderOver_X3_has : GoodIn wsX3_orderOver wsX3_has := goodIn_r _ [4] (by decide +kernel) (by decide +kernel)
set_option maxRecDepth 20000 in
theorem gX3_orderOver_X3_has : GoodIn wsX3_orderOver (va_wsS RX3 30 yX3_has wsX3_has) := goodIn_app (goodIn_of _ (by decide +kernel)) ggX3_orderOver_X3_has
set_option maxRecDepth 20000 in
theorem ggX3_orderOver_X6_rest : GoodIn wsX3_orderOver wsX6_rest := goodIn_r _ [8] (by decide +kernel) (by decide +kernel)
set_option maxRecDepth 20000 in
theorem gX3_orderOver_X6_rest : GoodIn wsX3_orderOver (va_wsS RX3 27 yX6_rest wsX6_rest) := goodIn_app (goodIn_of _ (by decide +kernel)) ggX3_orderOver_X6_rest
theorem dX3_orderOver_0 : decode cX3_orderOver 0 = .ok (.iload_n 2, 1) := by decide +kernel
theorem dX3_orderOver_1 : decode cX3_orderOver 1 = .ok (.istore 4, 2) := by decide +kernel
theorem dX3_orderOver_3 : decode cX3_orderOver 3 = .ok (.iconst 1, 1) := by decide +kernel
theorem dX3_orderOver_4 : decode cX3_orderOver 4 = .ok (.istore 5, 2) := by decide +kernel
theorem dX3_orderOver_6 : decode cX3_orderOver 6 = .ok (.iload 5, 2) := by decide +kernel
theorem dX3_orderOver_8 : decode cX3_orderOver 8 = .ok (.iload_n 3, 1) := by decide +kernel
theorem dX3_orderOver_9 : decode cX3_orderOver 9 = .ok (.if_icmp .ge 31, 3) := by decide +kernel
theorem dX3_orderOver_12 : decode cX3_orderOver 12 = .ok (.lload_n 0, 1) := by decide +kernel
theorem dX3_orderOver_13 : decode cX3_orderOver 13 = .ok (.iload 4, 2) := by decide +kernel
theorem dX3_orderOver_15 : decode cX3_orderOver 15 = .ok (.invokestatic 30, 3) := by decide +kernel
theorem dX3_orderOver_18 : decode cX3_orderOver 18 = .ok (.ifCond .eq 6, 3) := by decide +kernel
theorem dX3_orderOver_21 : decode cX3_orderOver 21 = .ok (.iload 5, 2) := by decide +kernel
theorem dX3_orderOver_23 : decode cX3_orderOver 23 = .ok (.ireturn, 1) := by decide +kernel
theorem dX3_orderOver_24 : decode cX3_orderOver 24 = .ok (.iload 4, 2) := by decide +kernel
theorem dX3_orderOver_26 : decode cX3_orderOver 26 = .ok (.iload_n 2, 1) := by decide +kernel
theorem dX3_orderOver_27 : decode cX3_orderOver 27 = .ok (.imul, 1) := by decide +kernel
theorem dX3_orderOver_28 : decode cX3_orderOver 28 = .ok (.iload_n 3, 1) := by decide +kernel
theorem dX3_orderOver_29 : decode cX3_orderOver 29 = .ok (.invokestatic 27, 3) := by decide +kernel
theorem dX3_orderOver_32 : decode cX3_orderOver 32 = .ok (.istore 4, 2) := by decide +kernel
theorem dX3_orderOver_34 : decode cX3_orderOver 34 = .ok (.iinc 5 1, 3) := by decide +kernel
theorem dX3_orderOver_37 : decode cX3_orderOver 37 = .ok (.goto (-31), 3) := by decide +kernel
theorem dX3_orderOver_40 : decode cX3_orderOver 40 = .ok (.iconst 1, 1) := by decide +kernel
theorem dX3_orderOver_41 : decode cX3_orderOver 41 = .ok (.ireturn, 1) := by decide +kernel
set_option maxRecDepth 20000 in
theorem ggX3_onesBy_X3_all : GoodIn wsX3_onesBy wsX3_all := goodIn_r _ [4, 5, 6, 7, 8, 9, 10, 3, 11] (by decide +kernel) (by decide +kernel)
set_option maxRecDepth 20000 in
theorem gX3_onesBy_X3_all : GoodIn wsX3_onesBy (va_wsS RX3 46 yX3_all wsX3_all) := goodIn_app (goodIn_of _ (by decide +kernel)) ggX3_onesBy_X3_all
set_option maxRecDepth 20000 in
theorem ggX3_onesBy_X3_has : GoodIn wsX3_onesBy wsX3_has := goodIn_r _ [14] (by decide +kernel) (by decide +kernel)
set_option maxRecDepth 20000 in
theorem gX3_onesBy_X3_has : GoodIn wsX3_onesBy (va_wsS RX3 30 yX3_has wsX3_has) := goodIn_app (goodIn_of _ (by decide +kernel)) ggX3_onesBy_X3_has
set_option maxRecDepth 20000 in
theorem ggX3_onesBy_X6_rest : GoodIn wsX3_onesBy wsX6_rest := goodIn_r _ [17] (by decide +kernel) (by decide +kernel)
set_option maxRecDepth 20000 in
theorem gX3_onesBy_X6_rest : GoodIn wsX3_onesBy (va_wsS RX3 27 yX6_rest wsX6_rest) := goodIn_app (goodIn_of _ (by decide +kernel)) ggX3_onesBy_X6_rest
set_option maxRecDepth 20000 in
theorem ggX3_onesBy_X3_bit : GoodIn wsX3_onesBy wsX3_bit := goodIn_r _ [11] (by decide +kernel) (by decide +kernel)
set_option maxRecDepth 20000 in
theorem gX3_onesBy_X3_bit : GoodIn wsX3_onesBy (va_wsS RX3 21 yX3_bit wsX3_bit) := goodIn_app (goodIn_of _ (by decide +kernel)) ggX3_onesBy_X3_bit
theorem dX3_onesBy_0 : decode cX3_onesBy 0 = .ok (.iload_n 1, 1) := by decide +kernel
theorem dX3_onesBy_1 : decode cX3_onesBy 1 = .ok (.invokestatic 46, 3) := by decide +kernel
theorem dX3_onesBy_4 : decode cX3_onesBy 4 = .ok (.lstore_n 2, 1) := by decide +kernel
theorem dX3_onesBy_5 : decode cX3_onesBy 5 = .ok (.lconst 0, 1) := by decide +kernel
theorem dX3_onesBy_6 : decode cX3_onesBy 6 = .ok (.lstore 4, 2) := by decide +kernel
theorem dX3_onesBy_8 : decode cX3_onesBy 8 = .ok (.iconst 0, 1) := by decide +kernel
theorem dX3_onesBy_9 : decode cX3_onesBy 9 = .ok (.istore 6, 2) := by decide +kernel
theorem dX3_onesBy_11 : decode cX3_onesBy 11 = .ok (.iload 6, 2) := by decide +kernel
theorem dX3_onesBy_13 : decode cX3_onesBy 13 = .ok (.iload_n 1, 1) := by decide +kernel
theorem dX3_onesBy_14 : decode cX3_onesBy 14 = .ok (.if_icmp .ge 42, 3) := by decide +kernel
theorem dX3_onesBy_17 : decode cX3_onesBy 17 = .ok (.lload_n 2, 1) := by decide +kernel
theorem dX3_onesBy_18 : decode cX3_onesBy 18 = .ok (.iload 6, 2) := by decide +kernel
theorem dX3_onesBy_20 : decode cX3_onesBy 20 = .ok (.invokestatic 30, 3) := by decide +kernel
theorem dX3_onesBy_23 : decode cX3_onesBy 23 = .ok (.ifCond .eq 27, 3) := by decide +kernel
theorem dX3_onesBy_26 : decode cX3_onesBy 26 = .ok (.iload 6, 2) := by decide +kernel
theorem dX3_onesBy_28 : decode cX3_onesBy 28 = .ok (.iload_n 0, 1) := by decide +kernel
theorem dX3_onesBy_29 : decode cX3_onesBy 29 = .ok (.invokestatic 27, 3) := by decide +kernel
theorem dX3_onesBy_32 : decode cX3_onesBy 32 = .ok (.iconst 1, 1) := by decide +kernel
theorem dX3_onesBy_33 : decode cX3_onesBy 33 = .ok (.iload_n 0, 1) := by decide +kernel
theorem dX3_onesBy_34 : decode cX3_onesBy 34 = .ok (.invokestatic 27, 3) := by decide +kernel
theorem dX3_onesBy_37 : decode cX3_onesBy 37 = .ok (.if_icmp .ne 13, 3) := by decide +kernel
theorem dX3_onesBy_40 : decode cX3_onesBy 40 = .ok (.lload 4, 2) := by decide +kernel
theorem dX3_onesBy_42 : decode cX3_onesBy 42 = .ok (.iload 6, 2) := by decide +kernel
theorem dX3_onesBy_44 : decode cX3_onesBy 44 = .ok (.invokestatic 21, 3) := by decide +kernel
theorem dX3_onesBy_47 : decode cX3_onesBy 47 = .ok (.lor, 1) := by decide +kernel
theorem dX3_onesBy_48 : decode cX3_onesBy 48 = .ok (.lstore 4, 2) := by decide +kernel
theorem dX3_onesBy_50 : decode cX3_onesBy 50 = .ok (.iinc 6 1, 3) := by decide +kernel
theorem dX3_onesBy_53 : decode cX3_onesBy 53 = .ok (.goto (-42), 3) := by decide +kernel
theorem dX3_onesBy_56 : decode cX3_onesBy 56 = .ok (.lload 4, 2) := by decide +kernel
theorem dX3_onesBy_58 : decode cX3_onesBy 58 = .ok (.lreturn, 1) := by decide +kernel
set_option maxRecDepth 20000 in
theorem ggX3_lifted_X3_all : GoodIn wsX3_lifted wsX3_all := goodIn_r _ [4, 5, 6, 7, 8, 9, 10, 3, 11] (by decide +kernel) (by decide +kernel)
set_option maxRecDepth 20000 in
theorem gX3_lifted_X3_all : GoodIn wsX3_lifted (va_wsS RX3 46 yX3_all wsX3_all) := goodIn_app (goodIn_of _ (by decide +kernel)) ggX3_lifted_X3_all
set_option maxRecDepth 20000 in
theorem ggX3_lifted_X3_has : GoodIn wsX3_lifted wsX3_has := goodIn_r _ [14] (by decide +kernel) (by decide +kernel)
set_option maxRecDepth 20000 in
theorem gX3_lifted_X3_has : GoodIn wsX3_lifted (va_wsS RX3 30 yX3_has wsX3_has) := goodIn_app (goodIn_of _ (by decide +kernel)) ggX3_lifted_X3_has
set_option maxRecDepth 20000 in
theorem ggX3_lifted_X6_rest : GoodIn wsX3_lifted wsX6_rest := goodIn_r _ [17] (by decide +kernel) (by decide +kernel)
set_option maxRecDepth 20000 in
theorem gX3_lifted_X6_rest : GoodIn wsX3_lifted (va_wsS RX3 27 yX6_rest wsX6_rest) := goodIn_app (goodIn_of _ (by decide +kernel)) ggX3_lifted_X6_rest
set_option maxRecDepth 20000 in
theorem ggX3_lifted_X3_bit : GoodIn wsX3_lifted wsX3_bit := goodIn_r _ [11] (by decide +kernel) (by decide +kernel)
set_option maxRecDepth 20000 in
theorem gX3_lifted_X3_bit : GoodIn wsX3_lifted (va_wsS RX3 21 yX3_bit wsX3_bit) := goodIn_app (goodIn_of _ (by decide +kernel)) ggX3_lifted_X3_bit
theorem dX3_lifted_0 : decode cX3_lifted 0 = .ok (.iload_n 3, 1) := by decide +kernel
theorem dX3_lifted_1 : decode cX3_lifted 1 = .ok (.invokestatic 46, 3) := by decide +kernel
theorem dX3_lifted_4 : decode cX3_lifted 4 = .ok (.lstore 4, 2) := by decide +kernel
theorem dX3_lifted_6 : decode cX3_lifted 6 = .ok (.lconst 0, 1) := by decide +kernel
theorem dX3_lifted_7 : decode cX3_lifted 7 = .ok (.lstore 6, 2) := by decide +kernel
theorem dX3_lifted_9 : decode cX3_lifted 9 = .ok (.iconst 0, 1) := by decide +kernel
theorem dX3_lifted_10 : decode cX3_lifted 10 = .ok (.istore 8, 2) := by decide +kernel
theorem dX3_lifted_12 : decode cX3_lifted 12 = .ok (.iload 8, 2) := by decide +kernel
theorem dX3_lifted_14 : decode cX3_lifted 14 = .ok (.iload_n 3, 1) := by decide +kernel
theorem dX3_lifted_15 : decode cX3_lifted 15 = .ok (.if_icmp .ge 42, 3) := by decide +kernel
theorem dX3_lifted_18 : decode cX3_lifted 18 = .ok (.lload 4, 2) := by decide +kernel
theorem dX3_lifted_20 : decode cX3_lifted 20 = .ok (.iload 8, 2) := by decide +kernel
theorem dX3_lifted_22 : decode cX3_lifted 22 = .ok (.invokestatic 30, 3) := by decide +kernel
theorem dX3_lifted_25 : decode cX3_lifted 25 = .ok (.ifCond .eq 26, 3) := by decide +kernel
theorem dX3_lifted_28 : decode cX3_lifted 28 = .ok (.lload_n 0, 1) := by decide +kernel
theorem dX3_lifted_29 : decode cX3_lifted 29 = .ok (.iload 8, 2) := by decide +kernel
theorem dX3_lifted_31 : decode cX3_lifted 31 = .ok (.iload_n 2, 1) := by decide +kernel
theorem dX3_lifted_32 : decode cX3_lifted 32 = .ok (.invokestatic 27, 3) := by decide +kernel
theorem dX3_lifted_35 : decode cX3_lifted 35 = .ok (.invokestatic 30, 3) := by decide +kernel
theorem dX3_lifted_38 : decode cX3_lifted 38 = .ok (.ifCond .eq 13, 3) := by decide +kernel
theorem dX3_lifted_41 : decode cX3_lifted 41 = .ok (.lload 6, 2) := by decide +kernel
theorem dX3_lifted_43 : decode cX3_lifted 43 = .ok (.iload 8, 2) := by decide +kernel
theorem dX3_lifted_45 : decode cX3_lifted 45 = .ok (.invokestatic 21, 3) := by decide +kernel
theorem dX3_lifted_48 : decode cX3_lifted 48 = .ok (.lor, 1) := by decide +kernel
theorem dX3_lifted_49 : decode cX3_lifted 49 = .ok (.lstore 6, 2) := by decide +kernel
theorem dX3_lifted_51 : decode cX3_lifted 51 = .ok (.iinc 8 1, 3) := by decide +kernel
theorem dX3_lifted_54 : decode cX3_lifted 54 = .ok (.goto (-42), 3) := by decide +kernel
theorem dX3_lifted_57 : decode cX3_lifted 57 = .ok (.lload 6, 2) := by decide +kernel
theorem dX3_lifted_59 : decode cX3_lifted 59 = .ok (.lreturn, 1) := by decide +kernel
set_option maxRecDepth 20000 in
theorem ggX3_lowered_X3_has : GoodIn wsX3_lowered wsX3_has := goodIn_r _ [4] (by decide +kernel) (by decide +kernel)
set_option maxRecDepth 20000 in
theorem gX3_lowered_X3_has : GoodIn wsX3_lowered (va_wsS RX3 30 yX3_has wsX3_has) := goodIn_app (goodIn_of _ (by decide +kernel)) ggX3_lowered_X3_has
set_option maxRecDepth 20000 in
theorem ggX3_lowered_X6_rest : GoodIn wsX3_lowered wsX6_rest := goodIn_r _ [8] (by decide +kernel) (by decide +kernel)
set_option maxRecDepth 20000 in
theorem gX3_lowered_X6_rest : GoodIn wsX3_lowered (va_wsS RX3 27 yX6_rest wsX6_rest) := goodIn_app (goodIn_of _ (by decide +kernel)) ggX3_lowered_X6_rest
set_option maxRecDepth 20000 in
theorem ggX3_lowered_X3_bit : GoodIn wsX3_lowered wsX3_bit := goodIn_r _ [11] (by decide +kernel) (by decide +kernel)
set_option maxRecDepth 20000 in
theorem gX3_lowered_X3_bit : GoodIn wsX3_lowered (va_wsS RX3 21 yX3_bit wsX3_bit) := goodIn_app (goodIn_of _ (by decide +kernel)) ggX3_lowered_X3_bit
theorem dX3_lowered_0 : decode cX3_lowered 0 = .ok (.lconst 0, 1) := by decide +kernel
theorem dX3_lowered_1 : decode cX3_lowered 1 = .ok (.lstore_n 3, 1) := by decide +kernel
theorem dX3_lowered_2 : decode cX3_lowered 2 = .ok (.iconst 0, 1) := by decide +kernel
theorem dX3_lowered_3 : decode cX3_lowered 3 = .ok (.istore 5, 2) := by decide +kernel
theorem dX3_lowered_5 : decode cX3_lowered 5 = .ok (.iload 5, 2) := by decide +kernel
theorem dX3_lowered_7 : decode cX3_lowered 7 = .ok (.bipush 63, 2) := by decide +kernel
theorem dX3_lowered_9 : decode cX3_lowered 9 = .ok (.if_icmp .ge 30, 3) := by decide +kernel
theorem dX3_lowered_12 : decode cX3_lowered 12 = .ok (.lload_n 0, 1) := by decide +kernel
theorem dX3_lowered_13 : decode cX3_lowered 13 = .ok (.iload 5, 2) := by decide +kernel
theorem dX3_lowered_15 : decode cX3_lowered 15 = .ok (.invokestatic 30, 3) := by decide +kernel
theorem dX3_lowered_18 : decode cX3_lowered 18 = .ok (.ifCond .eq 15, 3) := by decide +kernel
theorem dX3_lowered_21 : decode cX3_lowered 21 = .ok (.lload_n 3, 1) := by decide +kernel
theorem dX3_lowered_22 : decode cX3_lowered 22 = .ok (.iload 5, 2) := by decide +kernel
theorem dX3_lowered_24 : decode cX3_lowered 24 = .ok (.iload_n 2, 1) := by decide +kernel
theorem dX3_lowered_25 : decode cX3_lowered 25 = .ok (.invokestatic 27, 3) := by decide +kernel
theorem dX3_lowered_28 : decode cX3_lowered 28 = .ok (.invokestatic 21, 3) := by decide +kernel
theorem dX3_lowered_31 : decode cX3_lowered 31 = .ok (.lor, 1) := by decide +kernel
theorem dX3_lowered_32 : decode cX3_lowered 32 = .ok (.lstore_n 3, 1) := by decide +kernel
theorem dX3_lowered_33 : decode cX3_lowered 33 = .ok (.iinc 5 1, 3) := by decide +kernel
theorem dX3_lowered_36 : decode cX3_lowered 36 = .ok (.goto (-31), 3) := by decide +kernel
theorem dX3_lowered_39 : decode cX3_lowered 39 = .ok (.lload_n 3, 1) := by decide +kernel
theorem dX3_lowered_40 : decode cX3_lowered 40 = .ok (.lreturn, 1) := by decide +kernel
set_option maxRecDepth 20000 in
theorem ggX3_bar_X3_all : GoodIn wsX3_bar wsX3_all := goodIn_r _ [5, 6, 7, 8, 9, 10, 11, 4, 12] (by decide +kernel) (by decide +kernel)
set_option maxRecDepth 20000 in
theorem gX3_bar_X3_all : GoodIn wsX3_bar (va_wsS RX3 46 yX3_all wsX3_all) := goodIn_app (goodIn_of _ (by decide +kernel)) ggX3_bar_X3_all
set_option maxRecDepth 20000 in
theorem ggX3_bar_X6_goesInto : GoodIn wsX3_bar wsX6_goesInto := goodIn_r _ [15] (by decide +kernel) (by decide +kernel)
set_option maxRecDepth 20000 in
theorem gX3_bar_X6_goesInto : GoodIn wsX3_bar (va_wsS RX3 49 yX6_goesInto wsX6_goesInto) := goodIn_app (goodIn_of _ (by decide +kernel)) ggX3_bar_X6_goesInto
set_option maxRecDepth 20000 in
theorem ggX3_bar_X3_hasOneBy : GoodIn wsX3_bar wsX3_hasOneBy := goodIn_r _ [18, 19, 20, 4, 21, 22, 23, 8, 24] (by decide +kernel) (by decide +kernel)
set_option maxRecDepth 20000 in
theorem gX3_bar_X3_hasOneBy : GoodIn wsX3_bar (va_wsS RX3 53 yX3_hasOneBy wsX3_hasOneBy) := goodIn_app (goodIn_of _ (by decide +kernel)) ggX3_bar_X3_hasOneBy
theorem dX3_bar_0 : decode cX3_bar 0 = .ok (.iload_n 2, 1) := by decide +kernel
theorem dX3_bar_1 : decode cX3_bar 1 = .ok (.invokestatic 46, 3) := by decide +kernel
theorem dX3_bar_4 : decode cX3_bar 4 = .ok (.lload_n 0, 1) := by decide +kernel
theorem dX3_bar_5 : decode cX3_bar 5 = .ok (.ldc2_w 34, 3) := by decide +kernel
theorem dX3_bar_8 : decode cX3_bar 8 = .ok (.lxor, 1) := by decide +kernel
theorem dX3_bar_9 : decode cX3_bar 9 = .ok (.land, 1) := by decide +kernel
theorem dX3_bar_10 : decode cX3_bar 10 = .ok (.lstore_n 3, 1) := by decide +kernel
theorem dX3_bar_11 : decode cX3_bar 11 = .ok (.iconst 1, 1) := by decide +kernel
theorem dX3_bar_12 : decode cX3_bar 12 = .ok (.istore 5, 2) := by decide +kernel
theorem dX3_bar_14 : decode cX3_bar 14 = .ok (.iload 5, 2) := by decide +kernel
theorem dX3_bar_16 : decode cX3_bar 16 = .ok (.iload_n 2, 1) := by decide +kernel
theorem dX3_bar_17 : decode cX3_bar 17 = .ok (.if_icmp .ge 31, 3) := by decide +kernel
theorem dX3_bar_20 : decode cX3_bar 20 = .ok (.iload 5, 2) := by decide +kernel
theorem dX3_bar_22 : decode cX3_bar 22 = .ok (.iload_n 2, 1) := by decide +kernel
theorem dX3_bar_23 : decode cX3_bar 23 = .ok (.invokestatic 49, 3) := by decide +kernel
theorem dX3_bar_26 : decode cX3_bar 26 = .ok (.ifCond .eq 16, 3) := by decide +kernel
theorem dX3_bar_29 : decode cX3_bar 29 = .ok (.lload_n 3, 1) := by decide +kernel
theorem dX3_bar_30 : decode cX3_bar 30 = .ok (.iload 5, 2) := by decide +kernel
theorem dX3_bar_32 : decode cX3_bar 32 = .ok (.iload_n 2, 1) := by decide +kernel
theorem dX3_bar_33 : decode cX3_bar 33 = .ok (.invokestatic 53, 3) := by decide +kernel
theorem dX3_bar_36 : decode cX3_bar 36 = .ok (.ifCond .ne 6, 3) := by decide +kernel
theorem dX3_bar_39 : decode cX3_bar 39 = .ok (.iload 5, 2) := by decide +kernel
theorem dX3_bar_41 : decode cX3_bar 41 = .ok (.ireturn, 1) := by decide +kernel
theorem dX3_bar_42 : decode cX3_bar 42 = .ok (.iinc 5 1, 3) := by decide +kernel
theorem dX3_bar_45 : decode cX3_bar 45 = .ok (.goto (-31), 3) := by decide +kernel
theorem dX3_bar_48 : decode cX3_bar 48 = .ok (.iload_n 2, 1) := by decide +kernel
theorem dX3_bar_49 : decode cX3_bar 49 = .ok (.ireturn, 1) := by decide +kernel
set_option maxRecDepth 20000 in
theorem ggX3_hasOneBy_X3_has : GoodIn wsX3_hasOneBy wsX3_has := goodIn_r _ [4] (by decide +kernel) (by decide +kernel)
set_option maxRecDepth 20000 in
theorem gX3_hasOneBy_X3_has : GoodIn wsX3_hasOneBy (va_wsS RX3 30 yX3_has wsX3_has) := goodIn_app (goodIn_of _ (by decide +kernel)) ggX3_hasOneBy_X3_has
set_option maxRecDepth 20000 in
theorem ggX3_hasOneBy_X6_rest : GoodIn wsX3_hasOneBy wsX6_rest := goodIn_r _ [8] (by decide +kernel) (by decide +kernel)
set_option maxRecDepth 20000 in
theorem gX3_hasOneBy_X6_rest : GoodIn wsX3_hasOneBy (va_wsS RX3 27 yX6_rest wsX6_rest) := goodIn_app (goodIn_of _ (by decide +kernel)) ggX3_hasOneBy_X6_rest
theorem dX3_hasOneBy_0 : decode cX3_hasOneBy 0 = .ok (.iconst 0, 1) := by decide +kernel
theorem dX3_hasOneBy_1 : decode cX3_hasOneBy 1 = .ok (.istore 4, 2) := by decide +kernel
theorem dX3_hasOneBy_3 : decode cX3_hasOneBy 3 = .ok (.iload 4, 2) := by decide +kernel
theorem dX3_hasOneBy_5 : decode cX3_hasOneBy 5 = .ok (.iload_n 3, 1) := by decide +kernel
theorem dX3_hasOneBy_6 : decode cX3_hasOneBy 6 = .ok (.if_icmp .ge 34, 3) := by decide +kernel
theorem dX3_hasOneBy_9 : decode cX3_hasOneBy 9 = .ok (.lload_n 0, 1) := by decide +kernel
theorem dX3_hasOneBy_10 : decode cX3_hasOneBy 10 = .ok (.iload 4, 2) := by decide +kernel
theorem dX3_hasOneBy_12 : decode cX3_hasOneBy 12 = .ok (.invokestatic 30, 3) := by decide +kernel
theorem dX3_hasOneBy_15 : decode cX3_hasOneBy 15 = .ok (.ifCond .eq 19, 3) := by decide +kernel
theorem dX3_hasOneBy_18 : decode cX3_hasOneBy 18 = .ok (.iload 4, 2) := by decide +kernel
theorem dX3_hasOneBy_20 : decode cX3_hasOneBy 20 = .ok (.iload_n 2, 1) := by decide +kernel
theorem dX3_hasOneBy_21 : decode cX3_hasOneBy 21 = .ok (.invokestatic 27, 3) := by decide +kernel
theorem dX3_hasOneBy_24 : decode cX3_hasOneBy 24 = .ok (.iconst 1, 1) := by decide +kernel
theorem dX3_hasOneBy_25 : decode cX3_hasOneBy 25 = .ok (.iload_n 2, 1) := by decide +kernel
theorem dX3_hasOneBy_26 : decode cX3_hasOneBy 26 = .ok (.invokestatic 27, 3) := by decide +kernel
theorem dX3_hasOneBy_29 : decode cX3_hasOneBy 29 = .ok (.if_icmp .ne 5, 3) := by decide +kernel
theorem dX3_hasOneBy_32 : decode cX3_hasOneBy 32 = .ok (.iconst 1, 1) := by decide +kernel
theorem dX3_hasOneBy_33 : decode cX3_hasOneBy 33 = .ok (.ireturn, 1) := by decide +kernel
theorem dX3_hasOneBy_34 : decode cX3_hasOneBy 34 = .ok (.iinc 4 1, 3) := by decide +kernel
theorem dX3_hasOneBy_37 : decode cX3_hasOneBy 37 = .ok (.goto (-34), 3) := by decide +kernel
theorem dX3_hasOneBy_40 : decode cX3_hasOneBy 40 = .ok (.iconst 0, 1) := by decide +kernel
theorem dX3_hasOneBy_41 : decode cX3_hasOneBy 41 = .ok (.ireturn, 1) := by decide +kernel
set_option maxRecDepth 20000 in
theorem ggX3_degree_X3_all : GoodIn wsX3_degree wsX3_all := goodIn_r _ [4, 5, 6, 7, 8, 9, 10, 3, 11] (by decide +kernel) (by decide +kernel)
set_option maxRecDepth 20000 in
theorem gX3_degree_X3_all : GoodIn wsX3_degree (va_wsS RX3 46 yX3_all wsX3_all) := goodIn_app (goodIn_of _ (by decide +kernel)) ggX3_degree_X3_all
set_option maxRecDepth 20000 in
theorem ggX3_degree_X3_size : GoodIn wsX3_degree wsX3_size := goodIn_r _ [14, 15, 16, 17, 18, 19, 20, 21] (by decide +kernel) (by decide +kernel)
set_option maxRecDepth 20000 in
theorem gX3_degree_X3_size : GoodIn wsX3_degree (va_wsS RX3 57 yX3_size wsX3_size) := goodIn_app (goodIn_of _ (by decide +kernel)) ggX3_degree_X3_size
set_option maxRecDepth 20000 in
theorem ggX3_degree_X6_quotient : GoodIn wsX3_degree wsX6_quotient := goodIn_r _ [24] (by decide +kernel) (by decide +kernel)
set_option maxRecDepth 20000 in
theorem gX3_degree_X6_quotient : GoodIn wsX3_degree (va_wsS RX3 60 yX6_quotient wsX6_quotient) := goodIn_app (goodIn_of _ (by decide +kernel)) ggX3_degree_X6_quotient
