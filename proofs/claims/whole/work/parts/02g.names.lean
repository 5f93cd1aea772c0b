theorem dX6_greatestDivisor_4 : decode cX6_greatestDivisor 4 = .ok (.iconst 0, 1) := by decide +kernel
theorem dX6_greatestDivisor_5 : decode cX6_greatestDivisor 5 = .ok (.istore 4, 2) := by decide +kernel
theorem dX6_greatestDivisor_7 : decode cX6_greatestDivisor 7 = .ok (.iload 4, 2) := by decide +kernel
theorem dX6_greatestDivisor_9 : decode cX6_greatestDivisor 9 = .ok (.bipush 63, 2) := by decide +kernel
theorem dX6_greatestDivisor_11 : decode cX6_greatestDivisor 11 = .ok (.if_icmp .ge 23, 3) := by decide +kernel
theorem dX6_greatestDivisor_14 : decode cX6_greatestDivisor 14 = .ok (.iload_n 3, 1) := by decide +kernel
theorem dX6_greatestDivisor_15 : decode cX6_greatestDivisor 15 = .ok (.ifCond .le 19, 3) := by decide +kernel
theorem dX6_greatestDivisor_18 : decode cX6_greatestDivisor 18 = .ok (.iload_n 2, 1) := by decide +kernel
theorem dX6_greatestDivisor_19 : decode cX6_greatestDivisor 19 = .ok (.iload_n 3, 1) := by decide +kernel
theorem dX6_greatestDivisor_20 : decode cX6_greatestDivisor 20 = .ok (.irem, 1) := by decide +kernel
theorem dX6_greatestDivisor_21 : decode cX6_greatestDivisor 21 = .ok (.istore 5, 2) := by decide +kernel
theorem dX6_greatestDivisor_23 : decode cX6_greatestDivisor 23 = .ok (.iload_n 3, 1) := by decide +kernel
theorem dX6_greatestDivisor_24 : decode cX6_greatestDivisor 24 = .ok (.istore_n 2, 1) := by decide +kernel
theorem dX6_greatestDivisor_25 : decode cX6_greatestDivisor 25 = .ok (.iload 5, 2) := by decide +kernel
theorem dX6_greatestDivisor_27 : decode cX6_greatestDivisor 27 = .ok (.istore_n 3, 1) := by decide +kernel
theorem dX6_greatestDivisor_28 : decode cX6_greatestDivisor 28 = .ok (.iinc 4 1, 3) := by decide +kernel
theorem dX6_greatestDivisor_31 : decode cX6_greatestDivisor 31 = .ok (.goto (-24), 3) := by decide +kernel
theorem dX6_greatestDivisor_34 : decode cX6_greatestDivisor 34 = .ok (.iload_n 2, 1) := by decide +kernel
theorem dX6_greatestDivisor_35 : decode cX6_greatestDivisor 35 = .ok (.ireturn, 1) := by decide +kernel
set_option maxRecDepth 20000 in
theorem ggX6_leastMultiple_X6_greatestDivisor : GoodIn wsX6_leastMultiple wsX6_greatestDivisor := goodIn_r _ [4] (by decide +kernel) (by decide +kernel)
set_option maxRecDepth 20000 in
theorem gX6_leastMultiple_X6_greatestDivisor : GoodIn wsX6_leastMultiple (va_wsS RX6 9 yX6_greatestDivisor wsX6_greatestDivisor) := goodIn_app (goodIn_of _ (by decide +kernel)) ggX6_leastMultiple_X6_greatestDivisor
set_option maxRecDepth 20000 in
theorem ggX6_leastMultiple_X6_quotient : GoodIn wsX6_leastMultiple wsX6_quotient := goodIn_r _ [7] (by decide +kernel) (by decide +kernel)
set_option maxRecDepth 20000 in
theorem gX6_leastMultiple_X6_quotient : GoodIn wsX6_leastMultiple (va_wsS RX6 15 yX6_quotient wsX6_quotient) := goodIn_app (goodIn_of _ (by decide +kernel)) ggX6_leastMultiple_X6_quotient
theorem dX6_leastMultiple_0 : decode cX6_leastMultiple 0 = .ok (.iload_n 0, 1) := by decide +kernel
theorem dX6_leastMultiple_1 : decode cX6_leastMultiple 1 = .ok (.iload_n 0, 1) := by decide +kernel
theorem dX6_leastMultiple_2 : decode cX6_leastMultiple 2 = .ok (.iload_n 1, 1) := by decide +kernel
theorem dX6_leastMultiple_3 : decode cX6_leastMultiple 3 = .ok (.invokestatic 9, 3) := by decide +kernel
theorem dX6_leastMultiple_6 : decode cX6_leastMultiple 6 = .ok (.invokestatic 15, 3) := by decide +kernel
theorem dX6_leastMultiple_9 : decode cX6_leastMultiple 9 = .ok (.iload_n 1, 1) := by decide +kernel
theorem dX6_leastMultiple_10 : decode cX6_leastMultiple 10 = .ok (.imul, 1) := by decide +kernel
theorem dX6_leastMultiple_11 : decode cX6_leastMultiple 11 = .ok (.ireturn, 1) := by decide +kernel
set_option maxRecDepth 20000 in
theorem ggX6_isPrime_X6_goesInto : GoodIn wsX6_isPrime wsX6_goesInto := goodIn_r _ [4] (by decide +kernel) (by decide +kernel)
set_option maxRecDepth 20000 in
theorem gX6_isPrime_X6_goesInto : GoodIn wsX6_isPrime (va_wsS RX6 18 yX6_goesInto wsX6_goesInto) := goodIn_app (goodIn_of _ (by decide +kernel)) ggX6_isPrime_X6_goesInto
theorem dX6_isPrime_0 : decode cX6_isPrime 0 = .ok (.iload_n 0, 1) := by decide +kernel
theorem dX6_isPrime_1 : decode cX6_isPrime 1 = .ok (.iconst 2, 1) := by decide +kernel
theorem dX6_isPrime_2 : decode cX6_isPrime 2 = .ok (.if_icmp .lt 10, 3) := by decide +kernel
theorem dX6_isPrime_5 : decode cX6_isPrime 5 = .ok (.iload_n 0, 1) := by decide +kernel
theorem dX6_isPrime_6 : decode cX6_isPrime 6 = .ok (.sipush 997, 3) := by decide +kernel
theorem dX6_isPrime_9 : decode cX6_isPrime 9 = .ok (.if_icmp .le 5, 3) := by decide +kernel
theorem dX6_isPrime_12 : decode cX6_isPrime 12 = .ok (.iconst 0, 1) := by decide +kernel
theorem dX6_isPrime_13 : decode cX6_isPrime 13 = .ok (.ireturn, 1) := by decide +kernel
theorem dX6_isPrime_14 : decode cX6_isPrime 14 = .ok (.iconst 2, 1) := by decide +kernel
theorem dX6_isPrime_15 : decode cX6_isPrime 15 = .ok (.istore_n 1, 1) := by decide +kernel
theorem dX6_isPrime_16 : decode cX6_isPrime 16 = .ok (.iload_n 1, 1) := by decide +kernel
theorem dX6_isPrime_17 : decode cX6_isPrime 17 = .ok (.iload_n 1, 1) := by decide +kernel
theorem dX6_isPrime_18 : decode cX6_isPrime 18 = .ok (.imul, 1) := by decide +kernel
theorem dX6_isPrime_19 : decode cX6_isPrime 19 = .ok (.iload_n 0, 1) := by decide +kernel
theorem dX6_isPrime_20 : decode cX6_isPrime 20 = .ok (.if_icmp .gt 19, 3) := by decide +kernel
theorem dX6_isPrime_23 : decode cX6_isPrime 23 = .ok (.iload_n 1, 1) := by decide +kernel
theorem dX6_isPrime_24 : decode cX6_isPrime 24 = .ok (.iload_n 0, 1) := by decide +kernel
theorem dX6_isPrime_25 : decode cX6_isPrime 25 = .ok (.invokestatic 18, 3) := by decide +kernel
theorem dX6_isPrime_28 : decode cX6_isPrime 28 = .ok (.ifCond .eq 5, 3) := by decide +kernel
theorem dX6_isPrime_31 : decode cX6_isPrime 31 = .ok (.iconst 0, 1) := by decide +kernel
theorem dX6_isPrime_32 : decode cX6_isPrime 32 = .ok (.ireturn, 1) := by decide +kernel
theorem dX6_isPrime_33 : decode cX6_isPrime 33 = .ok (.iinc 1 1, 3) := by decide +kernel
theorem dX6_isPrime_36 : decode cX6_isPrime 36 = .ok (.goto (-20), 3) := by decide +kernel
theorem dX6_isPrime_39 : decode cX6_isPrime 39 = .ok (.iconst 1, 1) := by decide +kernel
theorem dX6_isPrime_40 : decode cX6_isPrime 40 = .ok (.ireturn, 1) := by decide +kernel
set_option maxRecDepth 20000 in
theorem ggX6_howOften_X6_goesInto : GoodIn wsX6_howOften wsX6_goesInto := goodIn_r _ [4] (by decide +kernel) (by decide +kernel)
set_option maxRecDepth 20000 in
theorem gX6_howOften_X6_goesInto : GoodIn wsX6_howOften (va_wsS RX6 18 yX6_goesInto wsX6_goesInto) := goodIn_app (goodIn_of _ (by decide +kernel)) ggX6_howOften_X6_goesInto
set_option maxRecDepth 20000 in
theorem ggX6_howOften_X6_quotient : GoodIn wsX6_howOften wsX6_quotient := goodIn_r _ [7] (by decide +kernel) (by decide +kernel)
set_option maxRecDepth 20000 in
theorem gX6_howOften_X6_quotient : GoodIn wsX6_howOften (va_wsS RX6 15 yX6_quotient wsX6_quotient) := goodIn_app (goodIn_of _ (by decide +kernel)) ggX6_howOften_X6_quotient
theorem dX6_howOften_0 : decode cX6_howOften 0 = .ok (.iload_n 1, 1) := by decide +kernel
theorem dX6_howOften_1 : decode cX6_howOften 1 = .ok (.istore_n 2, 1) := by decide +kernel
theorem dX6_howOften_2 : decode cX6_howOften 2 = .ok (.iconst 0, 1) := by decide +kernel
theorem dX6_howOften_3 : decode cX6_howOften 3 = .ok (.istore_n 3, 1) := by decide +kernel
theorem dX6_howOften_4 : decode cX6_howOften 4 = .ok (.iload_n 3, 1) := by decide +kernel
theorem dX6_howOften_5 : decode cX6_howOften 5 = .ok (.bipush 63, 2) := by decide +kernel
theorem dX6_howOften_7 : decode cX6_howOften 7 = .ok (.if_icmp .ge 30, 3) := by decide +kernel
theorem dX6_howOften_10 : decode cX6_howOften 10 = .ok (.iload_n 2, 1) := by decide +kernel
theorem dX6_howOften_11 : decode cX6_howOften 11 = .ok (.iconst 1, 1) := by decide +kernel
theorem dX6_howOften_12 : decode cX6_howOften 12 = .ok (.if_icmp .lt 11, 3) := by decide +kernel
theorem dX6_howOften_15 : decode cX6_howOften 15 = .ok (.iload_n 0, 1) := by decide +kernel
theorem dX6_howOften_16 : decode cX6_howOften 16 = .ok (.iload_n 2, 1) := by decide +kernel
theorem dX6_howOften_17 : decode cX6_howOften 17 = .ok (.invokestatic 18, 3) := by decide +kernel
theorem dX6_howOften_20 : decode cX6_howOften 20 = .ok (.ifCond .ne 5, 3) := by decide +kernel
theorem dX6_howOften_23 : decode cX6_howOften 23 = .ok (.iload_n 3, 1) := by decide +kernel
theorem dX6_howOften_24 : decode cX6_howOften 24 = .ok (.ireturn, 1) := by decide +kernel
theorem dX6_howOften_25 : decode cX6_howOften 25 = .ok (.iload_n 2, 1) := by decide +kernel
theorem dX6_howOften_26 : decode cX6_howOften 26 = .ok (.iload_n 0, 1) := by decide +kernel
theorem dX6_howOften_27 : decode cX6_howOften 27 = .ok (.invokestatic 15, 3) := by decide +kernel
theorem dX6_howOften_30 : decode cX6_howOften 30 = .ok (.istore_n 2, 1) := by decide +kernel
theorem dX6_howOften_31 : decode cX6_howOften 31 = .ok (.iinc 3 1, 3) := by decide +kernel
theorem dX6_howOften_34 : decode cX6_howOften 34 = .ok (.goto (-30), 3) := by decide +kernel
theorem dX6_howOften_37 : decode cX6_howOften 37 = .ok (.iconst 0, 1) := by decide +kernel
theorem dX6_howOften_38 : decode cX6_howOften 38 = .ok (.ireturn, 1) := by decide +kernel
set_option maxRecDepth 20000 in
theorem ggX6_without_X6_howOften : GoodIn wsX6_without wsX6_howOften := goodIn_r _ [4, 5, 6, 3, 7, 8, 9, 10] (by decide +kernel) (by decide +kernel)
set_option maxRecDepth 20000 in
theorem gX6_without_X6_howOften : GoodIn wsX6_without (va_wsS RX6 22 yX6_howOften wsX6_howOften) := goodIn_app (goodIn_of _ (by decide +kernel)) ggX6_without_X6_howOften
set_option maxRecDepth 20000 in
theorem ggX6_without_X6_quotient : GoodIn wsX6_without wsX6_quotient := goodIn_r _ [10] (by decide +kernel) (by decide +kernel)
set_option maxRecDepth 20000 in
theorem gX6_without_X6_quotient : GoodIn wsX6_without (va_wsS RX6 15 yX6_quotient wsX6_quotient) := goodIn_app (goodIn_of _ (by decide +kernel)) ggX6_without_X6_quotient
theorem dX6_without_0 : decode cX6_without 0 = .ok (.iload_n 0, 1) := by decide +kernel
theorem dX6_without_1 : decode cX6_without 1 = .ok (.istore_n 2, 1) := by decide +kernel
theorem dX6_without_2 : decode cX6_without 2 = .ok (.iload_n 1, 1) := by decide +kernel
theorem dX6_without_3 : decode cX6_without 3 = .ok (.iload_n 0, 1) := by decide +kernel
theorem dX6_without_4 : decode cX6_without 4 = .ok (.invokestatic 22, 3) := by decide +kernel
theorem dX6_without_7 : decode cX6_without 7 = .ok (.istore_n 3, 1) := by decide +kernel
theorem dX6_without_8 : decode cX6_without 8 = .ok (.iconst 0, 1) := by decide +kernel
theorem dX6_without_9 : decode cX6_without 9 = .ok (.istore 4, 2) := by decide +kernel
theorem dX6_without_11 : decode cX6_without 11 = .ok (.iload 4, 2) := by decide +kernel
theorem dX6_without_13 : decode cX6_without 13 = .ok (.iload_n 3, 1) := by decide +kernel
theorem dX6_without_14 : decode cX6_without 14 = .ok (.if_icmp .ge 15, 3) := by decide +kernel
theorem dX6_without_17 : decode cX6_without 17 = .ok (.iload_n 2, 1) := by decide +kernel
theorem dX6_without_18 : decode cX6_without 18 = .ok (.iload_n 1, 1) := by decide +kernel
theorem dX6_without_19 : decode cX6_without 19 = .ok (.invokestatic 15, 3) := by decide +kernel
theorem dX6_without_22 : decode cX6_without 22 = .ok (.istore_n 2, 1) := by decide +kernel
theorem dX6_without_23 : decode cX6_without 23 = .ok (.iinc 4 1, 3) := by decide +kernel
theorem dX6_without_26 : decode cX6_without 26 = .ok (.goto (-15), 3) := by decide +kernel
theorem dX6_without_29 : decode cX6_without 29 = .ok (.iload_n 2, 1) := by decide +kernel
theorem dX6_without_30 : decode cX6_without 30 = .ok (.ireturn, 1) := by decide +kernel
set_option maxRecDepth 20000 in
theorem ggX6_signOfPrimes_X6_goesInto : GoodIn wsX6_signOfPrimes wsX6_goesInto := goodIn_r _ [4] (by decide +kernel) (by decide +kernel)
set_option maxRecDepth 20000 in
theorem gX6_signOfPrimes_X6_goesInto : GoodIn wsX6_signOfPrimes (va_wsS RX6 18 yX6_goesInto wsX6_goesInto) := goodIn_app (goodIn_of _ (by decide +kernel)) ggX6_signOfPrimes_X6_goesInto
set_option maxRecDepth 20000 in
theorem ggX6_signOfPrimes_X6_isPrime : GoodIn wsX6_signOfPrimes wsX6_isPrime := goodIn_r _ [7, 1, 2, 3, 4] (by decide +kernel) (by decide +kernel)
set_option maxRecDepth 20000 in
theorem gX6_signOfPrimes_X6_isPrime : GoodIn wsX6_signOfPrimes (va_wsS RX6 25 yX6_isPrime wsX6_isPrime) := goodIn_app (goodIn_of _ (by decide +kernel)) ggX6_signOfPrimes_X6_isPrime
set_option maxRecDepth 20000 in
theorem ggX6_signOfPrimes_X6_howOften : GoodIn wsX6_signOfPrimes wsX6_howOften := goodIn_r _ [10, 1, 2, 3, 4, 11, 12, 13] (by decide +kernel) (by decide +kernel)
set_option maxRecDepth 20000 in
theorem gX6_signOfPrimes_X6_howOften : GoodIn wsX6_signOfPrimes (va_wsS RX6 22 yX6_howOften wsX6_howOften) := goodIn_app (goodIn_of _ (by decide +kernel)) ggX6_signOfPrimes_X6_howOften
theorem dX6_signOfPrimes_0 : decode cX6_signOfPrimes 0 = .ok (.iconst 1, 1) := by decide +kernel
theorem dX6_signOfPrimes_1 : decode cX6_signOfPrimes 1 = .ok (.istore_n 1, 1) := by decide +kernel
theorem dX6_signOfPrimes_2 : decode cX6_signOfPrimes 2 = .ok (.iconst 2, 1) := by decide +kernel
theorem dX6_signOfPrimes_3 : decode cX6_signOfPrimes 3 = .ok (.istore_n 2, 1) := by decide +kernel
theorem dX6_signOfPrimes_4 : decode cX6_signOfPrimes 4 = .ok (.iload_n 2, 1) := by decide +kernel
theorem dX6_signOfPrimes_5 : decode cX6_signOfPrimes 5 = .ok (.iload_n 0, 1) := by decide +kernel
theorem dX6_signOfPrimes_6 : decode cX6_signOfPrimes 6 = .ok (.if_icmp .gt 38, 3) := by decide +kernel
theorem dX6_signOfPrimes_9 : decode cX6_signOfPrimes 9 = .ok (.iload_n 2, 1) := by decide +kernel
theorem dX6_signOfPrimes_10 : decode cX6_signOfPrimes 10 = .ok (.iload_n 0, 1) := by decide +kernel
theorem dX6_signOfPrimes_11 : decode cX6_signOfPrimes 11 = .ok (.invokestatic 18, 3) := by decide +kernel
theorem dX6_signOfPrimes_14 : decode cX6_signOfPrimes 14 = .ok (.ifCond .eq 24, 3) := by decide +kernel
theorem dX6_signOfPrimes_17 : decode cX6_signOfPrimes 17 = .ok (.iload_n 2, 1) := by decide +kernel
theorem dX6_signOfPrimes_18 : decode cX6_signOfPrimes 18 = .ok (.invokestatic 25, 3) := by decide +kernel
theorem dX6_signOfPrimes_21 : decode cX6_signOfPrimes 21 = .ok (.ifCond .eq 17, 3) := by decide +kernel
theorem dX6_signOfPrimes_24 : decode cX6_signOfPrimes 24 = .ok (.iload_n 2, 1) := by decide +kernel
theorem dX6_signOfPrimes_25 : decode cX6_signOfPrimes 25 = .ok (.iload_n 0, 1) := by decide +kernel
theorem dX6_signOfPrimes_26 : decode cX6_signOfPrimes 26 = .ok (.invokestatic 22, 3) := by decide +kernel
theorem dX6_signOfPrimes_29 : decode cX6_signOfPrimes 29 = .ok (.iconst 1, 1) := by decide +kernel
theorem dX6_signOfPrimes_30 : decode cX6_signOfPrimes 30 = .ok (.if_icmp .le 5, 3) := by decide +kernel
theorem dX6_signOfPrimes_33 : decode cX6_signOfPrimes 33 = .ok (.iconst 0, 1) := by decide +kernel
theorem dX6_signOfPrimes_34 : decode cX6_signOfPrimes 34 = .ok (.ireturn, 1) := by decide +kernel
theorem dX6_signOfPrimes_35 : decode cX6_signOfPrimes 35 = .ok (.iload_n 1, 1) := by decide +kernel
theorem dX6_signOfPrimes_36 : decode cX6_signOfPrimes 36 = .ok (.ineg, 1) := by decide +kernel
theorem dX6_signOfPrimes_37 : decode cX6_signOfPrimes 37 = .ok (.istore_n 1, 1) := by decide +kernel
theorem dX6_signOfPrimes_38 : decode cX6_signOfPrimes 38 = .ok (.iinc 2 1, 3) := by decide +kernel
theorem dX6_signOfPrimes_41 : decode cX6_signOfPrimes 41 = .ok (.goto (-37), 3) := by decide +kernel
theorem dX6_signOfPrimes_44 : decode cX6_signOfPrimes 44 = .ok (.iload_n 1, 1) := by decide +kernel
theorem dX6_signOfPrimes_45 : decode cX6_signOfPrimes 45 = .ok (.ireturn, 1) := by decide +kernel
set_option maxRecDepth 20000 in
theorem ggX7_init_X4_init : GoodIn wsX7_init wsX4_init := goodIn_r _ [26, 27, 2, 3, 28, 29, 30, 31, 56, 57, 58] (by decide +kernel) (by decide +kernel)
set_option maxRecDepth 20000 in
theorem gX7_init_X4_init_n9 : GoodIn wsX7_init (wsX4_init) := ggX7_init_X4_init
set_option maxRecDepth 20000 in
theorem ggX7_init_X2_init : GoodIn wsX7_init wsX2_init := goodIn_r _ [33, 34, 2, 3, 28, 35, 65, 66] (by decide +kernel) (by decide +kernel)
set_option maxRecDepth 20000 in
theorem gX7_init_X2_init_n22 : GoodIn wsX7_init (wsX2_init) := ggX7_init_X2_init
set_option maxRecDepth 20000 in
theorem ggX7_init_X0_init : GoodIn wsX7_init wsX0_init := goodIn_r _ [37, 38, 2, 3, 30, 39, 67, 68] (by decide +kernel) (by decide +kernel)
set_option maxRecDepth 20000 in
theorem gX7_init_X0_init_n29 : GoodIn wsX7_init (wsX0_init) := ggX7_init_X0_init
set_option maxRecDepth 20000 in
theorem ggX7_init_X1_init : GoodIn wsX7_init wsX1_init := goodIn_r _ [41, 42, 2, 3, 43, 14, 15, 44, 28, 45, 30, 46, 47, 36, 37, 38, 39, 67, 68, 69, 70, 71, 72, 73, 74] (by decide +kernel) (by decide +kernel)
set_option maxRecDepth 20000 in
theorem gX7_init_X1_init_n36 : GoodIn wsX7_init (wsX1_init) := ggX7_init_X1_init
set_option maxRecDepth 20000 in
theorem ggX7_init_X5_init : GoodIn wsX7_init wsX5_init := goodIn_r _ [49, 50, 2, 3, 30, 51, 52, 53, 54, 55, 75, 76, 77, 78, 79, 80] (by decide +kernel) (by decide +kernel)
set_option maxRecDepth 20000 in
theorem gX7_init_X5_init_n43 : GoodIn wsX7_init (wsX5_init) := ggX7_init_X5_init
