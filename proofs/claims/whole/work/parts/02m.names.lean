theorem dX8_listed_55 : decode cX8_listed 55 = .ok (.iinc 4 1, 3) := by decide +kernel
theorem dX8_listed_58 : decode cX8_listed 58 = .ok (.goto (-36), 3) := by decide +kernel
theorem dX8_listed_61 : decode cX8_listed 61 = .ok (.iconst (-1), 1) := by decide +kernel
theorem dX8_listed_62 : decode cX8_listed 62 = .ok (.ireturn, 1) := by decide +kernel
theorem dX8_isGreatPrime_0 : decode cX8_isGreatPrime 0 = .ok (.iconst 1, 1) := by decide +kernel
theorem dX8_isGreatPrime_1 : decode cX8_isGreatPrime 1 = .ok (.istore_n 2, 1) := by decide +kernel
theorem dX8_isGreatPrime_2 : decode cX8_isGreatPrime 2 = .ok (.ldc2_w 156, 3) := by decide +kernel
theorem dX8_isGreatPrime_5 : decode cX8_isGreatPrime 5 = .ok (.lstore_n 3, 1) := by decide +kernel
theorem dX8_isGreatPrime_6 : decode cX8_isGreatPrime 6 = .ok (.lload_n 3, 1) := by decide +kernel
theorem dX8_isGreatPrime_7 : decode cX8_isGreatPrime 7 = .ok (.lload_n 3, 1) := by decide +kernel
theorem dX8_isGreatPrime_8 : decode cX8_isGreatPrime 8 = .ok (.lmul, 1) := by decide +kernel
theorem dX8_isGreatPrime_9 : decode cX8_isGreatPrime 9 = .ok (.lload_n 0, 1) := by decide +kernel
theorem dX8_isGreatPrime_10 : decode cX8_isGreatPrime 10 = .ok (.lcmp, 1) := by decide +kernel
theorem dX8_isGreatPrime_11 : decode cX8_isGreatPrime 11 = .ok (.ifCond .gt 28, 3) := by decide +kernel
theorem dX8_isGreatPrime_14 : decode cX8_isGreatPrime 14 = .ok (.iload_n 2, 1) := by decide +kernel
theorem dX8_isGreatPrime_15 : decode cX8_isGreatPrime 15 = .ok (.ifCond .eq 24, 3) := by decide +kernel
theorem dX8_isGreatPrime_18 : decode cX8_isGreatPrime 18 = .ok (.lload_n 0, 1) := by decide +kernel
theorem dX8_isGreatPrime_19 : decode cX8_isGreatPrime 19 = .ok (.lload_n 3, 1) := by decide +kernel
theorem dX8_isGreatPrime_20 : decode cX8_isGreatPrime 20 = .ok (.lrem, 1) := by decide +kernel
theorem dX8_isGreatPrime_21 : decode cX8_isGreatPrime 21 = .ok (.lconst 0, 1) := by decide +kernel
theorem dX8_isGreatPrime_22 : decode cX8_isGreatPrime 22 = .ok (.lcmp, 1) := by decide +kernel
theorem dX8_isGreatPrime_23 : decode cX8_isGreatPrime 23 = .ok (.ifCond .eq 7, 3) := by decide +kernel
theorem dX8_isGreatPrime_26 : decode cX8_isGreatPrime 26 = .ok (.iconst 1, 1) := by decide +kernel
theorem dX8_isGreatPrime_27 : decode cX8_isGreatPrime 27 = .ok (.goto 4, 3) := by decide +kernel
theorem dX8_isGreatPrime_30 : decode cX8_isGreatPrime 30 = .ok (.iconst 0, 1) := by decide +kernel
theorem dX8_isGreatPrime_31 : decode cX8_isGreatPrime 31 = .ok (.istore_n 2, 1) := by decide +kernel
theorem dX8_isGreatPrime_32 : decode cX8_isGreatPrime 32 = .ok (.lload_n 3, 1) := by decide +kernel
theorem dX8_isGreatPrime_33 : decode cX8_isGreatPrime 33 = .ok (.lconst 1, 1) := by decide +kernel
theorem dX8_isGreatPrime_34 : decode cX8_isGreatPrime 34 = .ok (.ladd, 1) := by decide +kernel
theorem dX8_isGreatPrime_35 : decode cX8_isGreatPrime 35 = .ok (.lstore_n 3, 1) := by decide +kernel
theorem dX8_isGreatPrime_36 : decode cX8_isGreatPrime 36 = .ok (.goto (-30), 3) := by decide +kernel
theorem dX8_isGreatPrime_39 : decode cX8_isGreatPrime 39 = .ok (.iload_n 2, 1) := by decide +kernel
theorem dX8_isGreatPrime_40 : decode cX8_isGreatPrime 40 = .ok (.ireturn, 1) := by decide +kernel
theorem dX8_powerBy_0 : decode cX8_powerBy 0 = .ok (.lconst 1, 1) := by decide +kernel
theorem dX8_powerBy_1 : decode cX8_powerBy 1 = .ok (.lstore 6, 2) := by decide +kernel
theorem dX8_powerBy_3 : decode cX8_powerBy 3 = .ok (.lload_n 0, 1) := by decide +kernel
theorem dX8_powerBy_4 : decode cX8_powerBy 4 = .ok (.lload 4, 2) := by decide +kernel
theorem dX8_powerBy_6 : decode cX8_powerBy 6 = .ok (.lrem, 1) := by decide +kernel
theorem dX8_powerBy_7 : decode cX8_powerBy 7 = .ok (.lstore 8, 2) := by decide +kernel
theorem dX8_powerBy_9 : decode cX8_powerBy 9 = .ok (.lload_n 2, 1) := by decide +kernel
theorem dX8_powerBy_10 : decode cX8_powerBy 10 = .ok (.lstore 10, 2) := by decide +kernel
theorem dX8_powerBy_12 : decode cX8_powerBy 12 = .ok (.lload 10, 2) := by decide +kernel
theorem dX8_powerBy_14 : decode cX8_powerBy 14 = .ok (.lconst 0, 1) := by decide +kernel
theorem dX8_powerBy_15 : decode cX8_powerBy 15 = .ok (.lcmp, 1) := by decide +kernel
theorem dX8_powerBy_16 : decode cX8_powerBy 16 = .ok (.ifCond .le 45, 3) := by decide +kernel
theorem dX8_powerBy_19 : decode cX8_powerBy 19 = .ok (.lload 10, 2) := by decide +kernel
theorem dX8_powerBy_21 : decode cX8_powerBy 21 = .ok (.ldc2_w 156, 3) := by decide +kernel
theorem dX8_powerBy_24 : decode cX8_powerBy 24 = .ok (.lrem, 1) := by decide +kernel
theorem dX8_powerBy_25 : decode cX8_powerBy 25 = .ok (.lconst 1, 1) := by decide +kernel
theorem dX8_powerBy_26 : decode cX8_powerBy 26 = .ok (.lcmp, 1) := by decide +kernel
theorem dX8_powerBy_27 : decode cX8_powerBy 27 = .ok (.ifCond .ne 13, 3) := by decide +kernel
theorem dX8_powerBy_30 : decode cX8_powerBy 30 = .ok (.lload 6, 2) := by decide +kernel
theorem dX8_powerBy_32 : decode cX8_powerBy 32 = .ok (.lload 8, 2) := by decide +kernel
theorem dX8_powerBy_34 : decode cX8_powerBy 34 = .ok (.lmul, 1) := by decide +kernel
theorem dX8_powerBy_35 : decode cX8_powerBy 35 = .ok (.lload 4, 2) := by decide +kernel
theorem dX8_powerBy_37 : decode cX8_powerBy 37 = .ok (.lrem, 1) := by decide +kernel
theorem dX8_powerBy_38 : decode cX8_powerBy 38 = .ok (.lstore 6, 2) := by decide +kernel
theorem dX8_powerBy_40 : decode cX8_powerBy 40 = .ok (.lload 8, 2) := by decide +kernel
theorem dX8_powerBy_42 : decode cX8_powerBy 42 = .ok (.lload 8, 2) := by decide +kernel
theorem dX8_powerBy_44 : decode cX8_powerBy 44 = .ok (.lmul, 1) := by decide +kernel
theorem dX8_powerBy_45 : decode cX8_powerBy 45 = .ok (.lload 4, 2) := by decide +kernel
theorem dX8_powerBy_47 : decode cX8_powerBy 47 = .ok (.lrem, 1) := by decide +kernel
theorem dX8_powerBy_48 : decode cX8_powerBy 48 = .ok (.lstore 8, 2) := by decide +kernel
theorem dX8_powerBy_50 : decode cX8_powerBy 50 = .ok (.lload 10, 2) := by decide +kernel
theorem dX8_powerBy_52 : decode cX8_powerBy 52 = .ok (.ldc2_w 156, 3) := by decide +kernel
theorem dX8_powerBy_55 : decode cX8_powerBy 55 = .ok (.ldiv, 1) := by decide +kernel
theorem dX8_powerBy_56 : decode cX8_powerBy 56 = .ok (.lstore 10, 2) := by decide +kernel
theorem dX8_powerBy_58 : decode cX8_powerBy 58 = .ok (.goto (-46), 3) := by decide +kernel
theorem dX8_powerBy_61 : decode cX8_powerBy 61 = .ok (.lload 6, 2) := by decide +kernel
theorem dX8_powerBy_63 : decode cX8_powerBy 63 = .ok (.lreturn, 1) := by decide +kernel
set_option maxRecDepth 20000 in
theorem ggX8_root_X8_powerBy : GoodIn wsX8_root wsX8_powerBy := goodIn_r _ [5, 1] (by decide +kernel) (by decide +kernel)
set_option maxRecDepth 20000 in
theorem gX8_root_X8_powerBy : GoodIn wsX8_root (va_wsS RX8 158 yX8_powerBy wsX8_powerBy) := goodIn_app (goodIn_of _ (by decide +kernel)) ggX8_root_X8_powerBy
theorem dX8_root_0 : decode cX8_root 0 = .ok (.ldc2_w 156, 3) := by decide +kernel
theorem dX8_root_3 : decode cX8_root 3 = .ok (.lstore_n 3, 1) := by decide +kernel
theorem dX8_root_4 : decode cX8_root 4 = .ok (.lload_n 3, 1) := by decide +kernel
theorem dX8_root_5 : decode cX8_root 5 = .ok (.lload_n 1, 1) := by decide +kernel
theorem dX8_root_6 : decode cX8_root 6 = .ok (.lconst 1, 1) := by decide +kernel
theorem dX8_root_7 : decode cX8_root 7 = .ok (.lsub, 1) := by decide +kernel
theorem dX8_root_8 : decode cX8_root 8 = .ok (.iload_n 0, 1) := by decide +kernel
theorem dX8_root_9 : decode cX8_root 9 = .ok (.i2l, 1) := by decide +kernel
theorem dX8_root_10 : decode cX8_root 10 = .ok (.ldiv, 1) := by decide +kernel
theorem dX8_root_11 : decode cX8_root 11 = .ok (.lload_n 1, 1) := by decide +kernel
theorem dX8_root_12 : decode cX8_root 12 = .ok (.invokestatic 158, 3) := by decide +kernel
theorem dX8_root_15 : decode cX8_root 15 = .ok (.lstore 5, 2) := by decide +kernel
theorem dX8_root_17 : decode cX8_root 17 = .ok (.iconst 1, 1) := by decide +kernel
theorem dX8_root_18 : decode cX8_root 18 = .ok (.istore 7, 2) := by decide +kernel
theorem dX8_root_20 : decode cX8_root 20 = .ok (.iconst 1, 1) := by decide +kernel
theorem dX8_root_21 : decode cX8_root 21 = .ok (.istore 8, 2) := by decide +kernel
theorem dX8_root_23 : decode cX8_root 23 = .ok (.iload 8, 2) := by decide +kernel
theorem dX8_root_25 : decode cX8_root 25 = .ok (.iload_n 0, 1) := by decide +kernel
theorem dX8_root_26 : decode cX8_root 26 = .ok (.if_icmp .ge 42, 3) := by decide +kernel
theorem dX8_root_29 : decode cX8_root 29 = .ok (.iload 7, 2) := by decide +kernel
theorem dX8_root_31 : decode cX8_root 31 = .ok (.ifCond .eq 37, 3) := by decide +kernel
theorem dX8_root_34 : decode cX8_root 34 = .ok (.iload_n 0, 1) := by decide +kernel
theorem dX8_root_35 : decode cX8_root 35 = .ok (.iload 8, 2) := by decide +kernel
theorem dX8_root_37 : decode cX8_root 37 = .ok (.irem, 1) := by decide +kernel
theorem dX8_root_38 : decode cX8_root 38 = .ok (.ifCond .ne 17, 3) := by decide +kernel
theorem dX8_root_41 : decode cX8_root 41 = .ok (.lload 5, 2) := by decide +kernel
theorem dX8_root_43 : decode cX8_root 43 = .ok (.iload 8, 2) := by decide +kernel
theorem dX8_root_45 : decode cX8_root 45 = .ok (.i2l, 1) := by decide +kernel
theorem dX8_root_46 : decode cX8_root 46 = .ok (.lload_n 1, 1) := by decide +kernel
theorem dX8_root_47 : decode cX8_root 47 = .ok (.invokestatic 158, 3) := by decide +kernel
theorem dX8_root_50 : decode cX8_root 50 = .ok (.lconst 1, 1) := by decide +kernel
theorem dX8_root_51 : decode cX8_root 51 = .ok (.lcmp, 1) := by decide +kernel
theorem dX8_root_52 : decode cX8_root 52 = .ok (.ifCond .eq 7, 3) := by decide +kernel
theorem dX8_root_55 : decode cX8_root 55 = .ok (.iconst 1, 1) := by decide +kernel
theorem dX8_root_56 : decode cX8_root 56 = .ok (.goto 4, 3) := by decide +kernel
theorem dX8_root_59 : decode cX8_root 59 = .ok (.iconst 0, 1) := by decide +kernel
theorem dX8_root_60 : decode cX8_root 60 = .ok (.istore 7, 2) := by decide +kernel
theorem dX8_root_62 : decode cX8_root 62 = .ok (.iinc 8 1, 3) := by decide +kernel
theorem dX8_root_65 : decode cX8_root 65 = .ok (.goto (-42), 3) := by decide +kernel
theorem dX8_root_68 : decode cX8_root 68 = .ok (.iload 7, 2) := by decide +kernel
theorem dX8_root_70 : decode cX8_root 70 = .ok (.ifCond .eq 6, 3) := by decide +kernel
theorem dX8_root_73 : decode cX8_root 73 = .ok (.lload 5, 2) := by decide +kernel
theorem dX8_root_75 : decode cX8_root 75 = .ok (.lreturn, 1) := by decide +kernel
theorem dX8_root_76 : decode cX8_root 76 = .ok (.lload_n 3, 1) := by decide +kernel
theorem dX8_root_77 : decode cX8_root 77 = .ok (.lconst 1, 1) := by decide +kernel
theorem dX8_root_78 : decode cX8_root 78 = .ok (.ladd, 1) := by decide +kernel
theorem dX8_root_79 : decode cX8_root 79 = .ok (.lstore_n 3, 1) := by decide +kernel
theorem dX8_root_80 : decode cX8_root 80 = .ok (.goto (-76), 3) := by decide +kernel
set_option maxRecDepth 20000 in
theorem ggX8_reckons_X8_isField : GoodIn wsX8_reckons wsX8_isField := goodIn_r _ [12, 13, 14, 15, 11, 16, 44, 45, 46, 47, 48, 49, 50, 51, 52, 53] (by decide +kernel) (by decide +kernel)
set_option maxRecDepth 20000 in
theorem gX8_reckons_X8_isField : GoodIn wsX8_reckons (wsV RX8 100 RX8 yX8_isField wsX8_isField) := goodIn_app (goodIn_of _ (by decide +kernel)) ggX8_reckons_X8_isField
set_option maxRecDepth 20000 in
theorem ggX8_reckons_X8_degree : GoodIn wsX8_reckons wsX8_degree := goodIn_r _ [19, 20, 21, 11, 22, 23, 24, 25, 14, 15, 16, 26, 27, 28, 29, 30, 31] (by decide +kernel) (by decide +kernel)
set_option maxRecDepth 20000 in
theorem gX8_reckons_X8_degree : GoodIn wsX8_reckons (va_wsS RX8 117 yX8_degree wsX8_degree) := goodIn_app (goodIn_of _ (by decide +kernel)) ggX8_reckons_X8_degree
set_option maxRecDepth 20000 in
theorem ggX8_reckons_X8_isGreatPrime : GoodIn wsX8_reckons wsX8_isGreatPrime := goodIn_r _ [34, 7] (by decide +kernel) (by decide +kernel)
set_option maxRecDepth 20000 in
theorem gX8_reckons_X8_isGreatPrime : GoodIn wsX8_reckons (va_wsS RX8 164 yX8_isGreatPrime wsX8_isGreatPrime) := goodIn_app (goodIn_of _ (by decide +kernel)) ggX8_reckons_X8_isGreatPrime
set_option maxRecDepth 20000 in
theorem ggX8_reckons_X8_root : GoodIn wsX8_reckons wsX8_root := goodIn_r _ [37, 7, 38, 39, 11, 40] (by decide +kernel) (by decide +kernel)
set_option maxRecDepth 20000 in
theorem gX8_reckons_X8_root : GoodIn wsX8_reckons (va_wsS RX8 167 yX8_root wsX8_root) := goodIn_app (goodIn_of _ (by decide +kernel)) ggX8_reckons_X8_root
set_option maxRecDepth 20000 in
theorem ggX8_reckons_X8_all : GoodIn wsX8_reckons wsX8_all := goodIn_r _ [22, 23, 24, 11, 25, 14, 15, 16, 26, 27, 28] (by decide +kernel) (by decide +kernel)
set_option maxRecDepth 20000 in
theorem gX8_reckons_X8_all : GoodIn wsX8_reckons (va_wsS RX8 49 yX8_all wsX8_all) := goodIn_app (goodIn_of _ (by decide +kernel)) ggX8_reckons_X8_all
set_option maxRecDepth 20000 in
theorem ggX8_reckons_X8_times : GoodIn wsX8_reckons wsX8_times := goodIn_r _ [43] (by decide +kernel) (by decide +kernel)
set_option maxRecDepth 20000 in
theorem gX8_reckons_X8_times : GoodIn wsX8_reckons (va_wsS RX8 70 yX8_times wsX8_times) := goodIn_app (goodIn_of _ (by decide +kernel)) ggX8_reckons_X8_times
set_option maxRecDepth 20000 in
theorem ggX8_reckons_X8_powerBy : GoodIn wsX8_reckons wsX8_powerBy := goodIn_r _ [40, 7] (by decide +kernel) (by decide +kernel)
set_option maxRecDepth 20000 in
theorem gX8_reckons_X8_powerBy : GoodIn wsX8_reckons (va_wsS RX8 158 yX8_powerBy wsX8_powerBy) := goodIn_app (goodIn_of _ (by decide +kernel)) ggX8_reckons_X8_powerBy
theorem dX8_reckons_0 : decode cX8_reckons 0 = .ok (.aload_n 0, 1) := by decide +kernel
theorem dX8_reckons_1 : decode cX8_reckons 1 = .ok (.iload_n 1, 1) := by decide +kernel
theorem dX8_reckons_2 : decode cX8_reckons 2 = .ok (.invokevirtual 100, 3) := by decide +kernel
theorem dX8_reckons_5 : decode cX8_reckons 5 = .ok (.ifCond .eq 23, 3) := by decide +kernel
theorem dX8_reckons_8 : decode cX8_reckons 8 = .ok (.aload_n 0, 1) := by decide +kernel
theorem dX8_reckons_9 : decode cX8_reckons 9 = .ok (.getfield 7, 3) := by decide +kernel
theorem dX8_reckons_12 : decode cX8_reckons 12 = .ok (.iload_n 1, 1) := by decide +kernel
theorem dX8_reckons_13 : decode cX8_reckons 13 = .ok (.iaload, 1) := by decide +kernel
theorem dX8_reckons_14 : decode cX8_reckons 14 = .ok (.aload_n 0, 1) := by decide +kernel
theorem dX8_reckons_15 : decode cX8_reckons 15 = .ok (.getfield 13, 3) := by decide +kernel
theorem dX8_reckons_18 : decode cX8_reckons 18 = .ok (.iload_n 1, 1) := by decide +kernel
theorem dX8_reckons_19 : decode cX8_reckons 19 = .ok (.laload, 1) := by decide +kernel
theorem dX8_reckons_20 : decode cX8_reckons 20 = .ok (.invokestatic 117, 3) := by decide +kernel
theorem dX8_reckons_23 : decode cX8_reckons 23 = .ok (.bipush 8, 2) := by decide +kernel
theorem dX8_reckons_25 : decode cX8_reckons 25 = .ok (.if_icmp .le 5, 3) := by decide +kernel
theorem dX8_reckons_28 : decode cX8_reckons 28 = .ok (.iconst 0, 1) := by decide +kernel
theorem dX8_reckons_29 : decode cX8_reckons 29 = .ok (.ireturn, 1) := by decide +kernel
theorem dX8_reckons_30 : decode cX8_reckons 30 = .ok (.aload_n 0, 1) := by decide +kernel
theorem dX8_reckons_31 : decode cX8_reckons 31 = .ok (.getfield 7, 3) := by decide +kernel
theorem dX8_reckons_34 : decode cX8_reckons 34 = .ok (.iload_n 1, 1) := by decide +kernel
theorem dX8_reckons_35 : decode cX8_reckons 35 = .ok (.iaload, 1) := by decide +kernel
theorem dX8_reckons_36 : decode cX8_reckons 36 = .ok (.istore_n 2, 1) := by decide +kernel
theorem dX8_reckons_37 : decode cX8_reckons 37 = .ok (.ldc2_w 162, 3) := by decide +kernel
theorem dX8_reckons_40 : decode cX8_reckons 40 = .ok (.iload_n 2, 1) := by decide +kernel
theorem dX8_reckons_41 : decode cX8_reckons 41 = .ok (.i2l, 1) := by decide +kernel
theorem dX8_reckons_42 : decode cX8_reckons 42 = .ok (.ldiv, 1) := by decide +kernel
theorem dX8_reckons_43 : decode cX8_reckons 43 = .ok (.iload_n 2, 1) := by decide +kernel
theorem dX8_reckons_44 : decode cX8_reckons 44 = .ok (.i2l, 1) := by decide +kernel
theorem dX8_reckons_45 : decode cX8_reckons 45 = .ok (.lmul, 1) := by decide +kernel
theorem dX8_reckons_46 : decode cX8_reckons 46 = .ok (.lconst 1, 1) := by decide +kernel
theorem dX8_reckons_47 : decode cX8_reckons 47 = .ok (.ladd, 1) := by decide +kernel
theorem dX8_reckons_48 : decode cX8_reckons 48 = .ok (.lstore_n 3, 1) := by decide +kernel
theorem dX8_reckons_49 : decode cX8_reckons 49 = .ok (.lload_n 3, 1) := by decide +kernel
theorem dX8_reckons_50 : decode cX8_reckons 50 = .ok (.ldc2_w 162, 3) := by decide +kernel
theorem dX8_reckons_53 : decode cX8_reckons 53 = .ok (.lcmp, 1) := by decide +kernel
theorem dX8_reckons_54 : decode cX8_reckons 54 = .ok (.ifCond .le 10, 3) := by decide +kernel
theorem dX8_reckons_57 : decode cX8_reckons 57 = .ok (.lload_n 3, 1) := by decide +kernel
theorem dX8_reckons_58 : decode cX8_reckons 58 = .ok (.invokestatic 164, 3) := by decide +kernel
theorem dX8_reckons_61 : decode cX8_reckons 61 = .ok (.ifCond .ne 11, 3) := by decide +kernel
theorem dX8_reckons_64 : decode cX8_reckons 64 = .ok (.lload_n 3, 1) := by decide +kernel
theorem dX8_reckons_65 : decode cX8_reckons 65 = .ok (.iload_n 2, 1) := by decide +kernel
theorem dX8_reckons_66 : decode cX8_reckons 66 = .ok (.i2l, 1) := by decide +kernel
theorem dX8_reckons_67 : decode cX8_reckons 67 = .ok (.ladd, 1) := by decide +kernel
theorem dX8_reckons_68 : decode cX8_reckons 68 = .ok (.lstore_n 3, 1) := by decide +kernel
theorem dX8_reckons_69 : decode cX8_reckons 69 = .ok (.goto (-20), 3) := by decide +kernel
theorem dX8_reckons_72 : decode cX8_reckons 72 = .ok (.iload_n 2, 1) := by decide +kernel
theorem dX8_reckons_73 : decode cX8_reckons 73 = .ok (.lload_n 3, 1) := by decide +kernel
theorem dX8_reckons_74 : decode cX8_reckons 74 = .ok (.invokestatic 167, 3) := by decide +kernel
theorem dX8_reckons_77 : decode cX8_reckons 77 = .ok (.lstore 5, 2) := by decide +kernel
theorem dX8_reckons_79 : decode cX8_reckons 79 = .ok (.iload_n 2, 1) := by decide +kernel
theorem dX8_reckons_80 : decode cX8_reckons 80 = .ok (.invokestatic 49, 3) := by decide +kernel
theorem dX8_reckons_83 : decode cX8_reckons 83 = .ok (.lstore 7, 2) := by decide +kernel
theorem dX8_reckons_85 : decode cX8_reckons 85 = .ok (.iconst 0, 1) := by decide +kernel
theorem dX8_reckons_86 : decode cX8_reckons 86 = .ok (.istore 9, 2) := by decide +kernel
theorem dX8_reckons_88 : decode cX8_reckons 88 = .ok (.lload 7, 2) := by decide +kernel
theorem dX8_reckons_90 : decode cX8_reckons 90 = .ok (.lconst 0, 1) := by decide +kernel
theorem dX8_reckons_91 : decode cX8_reckons 91 = .ok (.lcmp, 1) := by decide +kernel
theorem dX8_reckons_92 : decode cX8_reckons 92 = .ok (.ifCond .eq 116, 3) := by decide +kernel
theorem dX8_reckons_95 : decode cX8_reckons 95 = .ok (.iconst 0, 1) := by decide +kernel
theorem dX8_reckons_96 : decode cX8_reckons 96 = .ok (.istore 10, 2) := by decide +kernel
theorem dX8_reckons_98 : decode cX8_reckons 98 = .ok (.lload 7, 2) := by decide +kernel
theorem dX8_reckons_100 : decode cX8_reckons 100 = .ok (.iload 10, 2) := by decide +kernel
theorem dX8_reckons_102 : decode cX8_reckons 102 = .ok (.lshr, 1) := by decide +kernel
theorem dX8_reckons_103 : decode cX8_reckons 103 = .ok (.lconst 1, 1) := by decide +kernel
theorem dX8_reckons_104 : decode cX8_reckons 104 = .ok (.land, 1) := by decide +kernel
theorem dX8_reckons_105 : decode cX8_reckons 105 = .ok (.lconst 0, 1) := by decide +kernel
theorem dX8_reckons_106 : decode cX8_reckons 106 = .ok (.lcmp, 1) := by decide +kernel
theorem dX8_reckons_107 : decode cX8_reckons 107 = .ok (.ifCond .ne 9, 3) := by decide +kernel
theorem dX8_reckons_110 : decode cX8_reckons 110 = .ok (.iinc 10 1, 3) := by decide +kernel
theorem dX8_reckons_113 : decode cX8_reckons 113 = .ok (.goto (-15), 3) := by decide +kernel
theorem dX8_reckons_116 : decode cX8_reckons 116 = .ok (.iload_n 2, 1) := by decide +kernel
theorem dX8_reckons_117 : decode cX8_reckons 117 = .ok (.aload_n 0, 1) := by decide +kernel
theorem dX8_reckons_118 : decode cX8_reckons 118 = .ok (.getfield 13, 3) := by decide +kernel
theorem dX8_reckons_121 : decode cX8_reckons 121 = .ok (.iload_n 1, 1) := by decide +kernel
theorem dX8_reckons_122 : decode cX8_reckons 122 = .ok (.laload, 1) := by decide +kernel
theorem dX8_reckons_123 : decode cX8_reckons 123 = .ok (.iload 10, 2) := by decide +kernel
theorem dX8_reckons_125 : decode cX8_reckons 125 = .ok (.invokestatic 70, 3) := by decide +kernel
theorem dX8_reckons_128 : decode cX8_reckons 128 = .ok (.lstore 11, 2) := by decide +kernel
theorem dX8_reckons_130 : decode cX8_reckons 130 = .ok (.lload 7, 2) := by decide +kernel
theorem dX8_reckons_132 : decode cX8_reckons 132 = .ok (.lload 11, 2) := by decide +kernel
theorem dX8_reckons_134 : decode cX8_reckons 134 = .ok (.ldc2_w 88, 3) := by decide +kernel
theorem dX8_reckons_137 : decode cX8_reckons 137 = .ok (.lxor, 1) := by decide +kernel
theorem dX8_reckons_138 : decode cX8_reckons 138 = .ok (.land, 1) := by decide +kernel
theorem dX8_reckons_139 : decode cX8_reckons 139 = .ok (.lstore 7, 2) := by decide +kernel
theorem dX8_reckons_141 : decode cX8_reckons 141 = .ok (.aload_n 0, 1) := by decide +kernel
theorem dX8_reckons_142 : decode cX8_reckons 142 = .ok (.getfield 27, 3) := by decide +kernel
theorem dX8_reckons_145 : decode cX8_reckons 145 = .ok (.iload 9, 2) := by decide +kernel
theorem dX8_reckons_147 : decode cX8_reckons 147 = .ok (.lconst 0, 1) := by decide +kernel
theorem dX8_reckons_148 : decode cX8_reckons 148 = .ok (.lastore, 1) := by decide +kernel
theorem dX8_reckons_149 : decode cX8_reckons 149 = .ok (.iconst 0, 1) := by decide +kernel
theorem dX8_reckons_150 : decode cX8_reckons 150 = .ok (.istore 13, 2) := by decide +kernel
theorem dX8_reckons_152 : decode cX8_reckons 152 = .ok (.iload 13, 2) := by decide +kernel
theorem dX8_reckons_154 : decode cX8_reckons 154 = .ok (.iload_n 2, 1) := by decide +kernel
theorem dX8_reckons_155 : decode cX8_reckons 155 = .ok (.if_icmp .ge 47, 3) := by decide +kernel
theorem dX8_reckons_158 : decode cX8_reckons 158 = .ok (.lload 11, 2) := by decide +kernel
theorem dX8_reckons_160 : decode cX8_reckons 160 = .ok (.iload 13, 2) := by decide +kernel
theorem dX8_reckons_162 : decode cX8_reckons 162 = .ok (.lshr, 1) := by decide +kernel
theorem dX8_reckons_163 : decode cX8_reckons 163 = .ok (.lconst 1, 1) := by decide +kernel
theorem dX8_reckons_164 : decode cX8_reckons 164 = .ok (.land, 1) := by decide +kernel
theorem dX8_reckons_165 : decode cX8_reckons 165 = .ok (.lconst 1, 1) := by decide +kernel
theorem dX8_reckons_166 : decode cX8_reckons 166 = .ok (.lcmp, 1) := by decide +kernel
theorem dX8_reckons_167 : decode cX8_reckons 167 = .ok (.ifCond .ne 29, 3) := by decide +kernel
theorem dX8_reckons_170 : decode cX8_reckons 170 = .ok (.aload_n 0, 1) := by decide +kernel
theorem dX8_reckons_171 : decode cX8_reckons 171 = .ok (.getfield 27, 3) := by decide +kernel
theorem dX8_reckons_174 : decode cX8_reckons 174 = .ok (.iload 9, 2) := by decide +kernel
theorem dX8_reckons_176 : decode cX8_reckons 176 = .ok (.aload_n 0, 1) := by decide +kernel
theorem dX8_reckons_177 : decode cX8_reckons 177 = .ok (.getfield 27, 3) := by decide +kernel
theorem dX8_reckons_180 : decode cX8_reckons 180 = .ok (.iload 9, 2) := by decide +kernel
theorem dX8_reckons_182 : decode cX8_reckons 182 = .ok (.laload, 1) := by decide +kernel
theorem dX8_reckons_183 : decode cX8_reckons 183 = .ok (.lload 5, 2) := by decide +kernel
theorem dX8_reckons_185 : decode cX8_reckons 185 = .ok (.iload 13, 2) := by decide +kernel
theorem dX8_reckons_187 : decode cX8_reckons 187 = .ok (.i2l, 1) := by decide +kernel
theorem dX8_reckons_188 : decode cX8_reckons 188 = .ok (.lload_n 3, 1) := by decide +kernel
theorem dX8_reckons_189 : decode cX8_reckons 189 = .ok (.invokestatic 158, 3) := by decide +kernel
theorem dX8_reckons_192 : decode cX8_reckons 192 = .ok (.ladd, 1) := by decide +kernel
theorem dX8_reckons_193 : decode cX8_reckons 193 = .ok (.lload_n 3, 1) := by decide +kernel
theorem dX8_reckons_194 : decode cX8_reckons 194 = .ok (.lrem, 1) := by decide +kernel
theorem dX8_reckons_195 : decode cX8_reckons 195 = .ok (.lastore, 1) := by decide +kernel
theorem dX8_reckons_196 : decode cX8_reckons 196 = .ok (.iinc 13 1, 3) := by decide +kernel
theorem dX8_reckons_199 : decode cX8_reckons 199 = .ok (.goto (-47), 3) := by decide +kernel
theorem dX8_reckons_202 : decode cX8_reckons 202 = .ok (.iinc 9 1, 3) := by decide +kernel
theorem dX8_reckons_205 : decode cX8_reckons 205 = .ok (.goto (-117), 3) := by decide +kernel
theorem dX8_reckons_208 : decode cX8_reckons 208 = .ok (.iconst 0, 1) := by decide +kernel
theorem dX8_reckons_209 : decode cX8_reckons 209 = .ok (.istore 10, 2) := by decide +kernel
theorem dX8_reckons_211 : decode cX8_reckons 211 = .ok (.iload 10, 2) := by decide +kernel
theorem dX8_reckons_213 : decode cX8_reckons 213 = .ok (.iload 9, 2) := by decide +kernel
theorem dX8_reckons_215 : decode cX8_reckons 215 = .ok (.if_icmp .ge 45, 3) := by decide +kernel
theorem dX8_reckons_218 : decode cX8_reckons 218 = .ok (.iconst 0, 1) := by decide +kernel
theorem dX8_reckons_219 : decode cX8_reckons 219 = .ok (.istore 11, 2) := by decide +kernel
theorem dX8_reckons_221 : decode cX8_reckons 221 = .ok (.iload 11, 2) := by decide +kernel
theorem dX8_reckons_223 : decode cX8_reckons 223 = .ok (.iload 10, 2) := by decide +kernel
theorem dX8_reckons_225 : decode cX8_reckons 225 = .ok (.if_icmp .ge 29, 3) := by decide +kernel
theorem dX8_reckons_228 : decode cX8_reckons 228 = .ok (.aload_n 0, 1) := by decide +kernel
theorem dX8_reckons_229 : decode cX8_reckons 229 = .ok (.getfield 27, 3) := by decide +kernel
theorem dX8_reckons_232 : decode cX8_reckons 232 = .ok (.iload 10, 2) := by decide +kernel
theorem dX8_reckons_234 : decode cX8_reckons 234 = .ok (.laload, 1) := by decide +kernel
theorem dX8_reckons_235 : decode cX8_reckons 235 = .ok (.aload_n 0, 1) := by decide +kernel
theorem dX8_reckons_236 : decode cX8_reckons 236 = .ok (.getfield 27, 3) := by decide +kernel
theorem dX8_reckons_239 : decode cX8_reckons 239 = .ok (.iload 11, 2) := by decide +kernel
theorem dX8_reckons_241 : decode cX8_reckons 241 = .ok (.laload, 1) := by decide +kernel
theorem dX8_reckons_242 : decode cX8_reckons 242 = .ok (.lcmp, 1) := by decide +kernel
theorem dX8_reckons_243 : decode cX8_reckons 243 = .ok (.ifCond .ne 5, 3) := by decide +kernel
theorem dX8_reckons_246 : decode cX8_reckons 246 = .ok (.iconst 0, 1) := by decide +kernel
theorem dX8_reckons_247 : decode cX8_reckons 247 = .ok (.ireturn, 1) := by decide +kernel
theorem dX8_reckons_248 : decode cX8_reckons 248 = .ok (.iinc 11 1, 3) := by decide +kernel
theorem dX8_reckons_251 : decode cX8_reckons 251 = .ok (.goto (-30), 3) := by decide +kernel
theorem dX8_reckons_254 : decode cX8_reckons 254 = .ok (.iinc 10 1, 3) := by decide +kernel
theorem dX8_reckons_257 : decode cX8_reckons 257 = .ok (.goto (-46), 3) := by decide +kernel
theorem dX8_reckons_260 : decode cX8_reckons 260 = .ok (.iconst 0, 1) := by decide +kernel
theorem dX8_reckons_261 : decode cX8_reckons 261 = .ok (.istore 10, 2) := by decide +kernel
theorem dX8_reckons_263 : decode cX8_reckons 263 = .ok (.iload 10, 2) := by decide +kernel
theorem dX8_reckons_265 : decode cX8_reckons 265 = .ok (.bipush 9, 2) := by decide +kernel
theorem dX8_reckons_267 : decode cX8_reckons 267 = .ok (.if_icmp .ge 17, 3) := by decide +kernel
theorem dX8_reckons_270 : decode cX8_reckons 270 = .ok (.aload_n 0, 1) := by decide +kernel
theorem dX8_reckons_271 : decode cX8_reckons 271 = .ok (.getfield 30, 3) := by decide +kernel
theorem dX8_reckons_274 : decode cX8_reckons 274 = .ok (.iload 10, 2) := by decide +kernel
theorem dX8_reckons_276 : decode cX8_reckons 276 = .ok (.lconst 0, 1) := by decide +kernel
theorem dX8_reckons_277 : decode cX8_reckons 277 = .ok (.lastore, 1) := by decide +kernel
theorem dX8_reckons_278 : decode cX8_reckons 278 = .ok (.iinc 10 1, 3) := by decide +kernel
theorem dX8_reckons_281 : decode cX8_reckons 281 = .ok (.goto (-18), 3) := by decide +kernel
theorem dX8_reckons_284 : decode cX8_reckons 284 = .ok (.aload_n 0, 1) := by decide +kernel
theorem dX8_reckons_285 : decode cX8_reckons 285 = .ok (.getfield 30, 3) := by decide +kernel
theorem dX8_reckons_288 : decode cX8_reckons 288 = .ok (.iconst 0, 1) := by decide +kernel
theorem dX8_reckons_289 : decode cX8_reckons 289 = .ok (.lconst 1, 1) := by decide +kernel
theorem dX8_reckons_290 : decode cX8_reckons 290 = .ok (.lastore, 1) := by decide +kernel
theorem dX8_reckons_291 : decode cX8_reckons 291 = .ok (.iconst 0, 1) := by decide +kernel
theorem dX8_reckons_292 : decode cX8_reckons 292 = .ok (.istore 10, 2) := by decide +kernel
theorem dX8_reckons_294 : decode cX8_reckons 294 = .ok (.iload 10, 2) := by decide +kernel
theorem dX8_reckons_296 : decode cX8_reckons 296 = .ok (.iload 9, 2) := by decide +kernel
theorem dX8_reckons_298 : decode cX8_reckons 298 = .ok (.if_icmp .ge 77, 3) := by decide +kernel
theorem dX8_reckons_301 : decode cX8_reckons 301 = .ok (.iload 10, 2) := by decide +kernel
theorem dX8_reckons_303 : decode cX8_reckons 303 = .ok (.iconst 1, 1) := by decide +kernel
theorem dX8_reckons_304 : decode cX8_reckons 304 = .ok (.iadd, 1) := by decide +kernel
theorem dX8_reckons_305 : decode cX8_reckons 305 = .ok (.istore 11, 2) := by decide +kernel
theorem dX8_reckons_307 : decode cX8_reckons 307 = .ok (.iload 11, 2) := by decide +kernel
theorem dX8_reckons_309 : decode cX8_reckons 309 = .ok (.ifCond .lt 60, 3) := by decide +kernel
theorem dX8_reckons_312 : decode cX8_reckons 312 = .ok (.lload_n 3, 1) := by decide +kernel
theorem dX8_reckons_313 : decode cX8_reckons 313 = .ok (.aload_n 0, 1) := by decide +kernel
theorem dX8_reckons_314 : decode cX8_reckons 314 = .ok (.getfield 27, 3) := by decide +kernel
theorem dX8_reckons_317 : decode cX8_reckons 317 = .ok (.iload 10, 2) := by decide +kernel
theorem dX8_reckons_319 : decode cX8_reckons 319 = .ok (.laload, 1) := by decide +kernel
theorem dX8_reckons_320 : decode cX8_reckons 320 = .ok (.lsub, 1) := by decide +kernel
theorem dX8_reckons_321 : decode cX8_reckons 321 = .ok (.aload_n 0, 1) := by decide +kernel
theorem dX8_reckons_322 : decode cX8_reckons 322 = .ok (.getfield 30, 3) := by decide +kernel
theorem dX8_reckons_325 : decode cX8_reckons 325 = .ok (.iload 11, 2) := by decide +kernel
theorem dX8_reckons_327 : decode cX8_reckons 327 = .ok (.laload, 1) := by decide +kernel
theorem dX8_reckons_328 : decode cX8_reckons 328 = .ok (.lmul, 1) := by decide +kernel
theorem dX8_reckons_329 : decode cX8_reckons 329 = .ok (.lload_n 3, 1) := by decide +kernel
theorem dX8_reckons_330 : decode cX8_reckons 330 = .ok (.lrem, 1) := by decide +kernel
theorem dX8_reckons_331 : decode cX8_reckons 331 = .ok (.lstore 12, 2) := by decide +kernel
theorem dX8_reckons_333 : decode cX8_reckons 333 = .ok (.aload_n 0, 1) := by decide +kernel
theorem dX8_reckons_334 : decode cX8_reckons 334 = .ok (.getfield 30, 3) := by decide +kernel
theorem dX8_reckons_337 : decode cX8_reckons 337 = .ok (.iload 11, 2) := by decide +kernel
theorem dX8_reckons_339 : decode cX8_reckons 339 = .ok (.iload 11, 2) := by decide +kernel
theorem dX8_reckons_341 : decode cX8_reckons 341 = .ok (.ifCond .le 15, 3) := by decide +kernel
theorem dX8_reckons_344 : decode cX8_reckons 344 = .ok (.aload_n 0, 1) := by decide +kernel
theorem dX8_reckons_345 : decode cX8_reckons 345 = .ok (.getfield 30, 3) := by decide +kernel
theorem dX8_reckons_348 : decode cX8_reckons 348 = .ok (.iload 11, 2) := by decide +kernel
theorem dX8_reckons_350 : decode cX8_reckons 350 = .ok (.iconst 1, 1) := by decide +kernel
theorem dX8_reckons_351 : decode cX8_reckons 351 = .ok (.isub, 1) := by decide +kernel
theorem dX8_reckons_352 : decode cX8_reckons 352 = .ok (.laload, 1) := by decide +kernel
theorem dX8_reckons_353 : decode cX8_reckons 353 = .ok (.goto 4, 3) := by decide +kernel
theorem dX8_reckons_356 : decode cX8_reckons 356 = .ok (.lconst 0, 1) := by decide +kernel
theorem dX8_reckons_357 : decode cX8_reckons 357 = .ok (.lload 12, 2) := by decide +kernel
theorem dX8_reckons_359 : decode cX8_reckons 359 = .ok (.ladd, 1) := by decide +kernel
theorem dX8_reckons_360 : decode cX8_reckons 360 = .ok (.lload_n 3, 1) := by decide +kernel
theorem dX8_reckons_361 : decode cX8_reckons 361 = .ok (.lrem, 1) := by decide +kernel
theorem dX8_reckons_362 : decode cX8_reckons 362 = .ok (.lastore, 1) := by decide +kernel
theorem dX8_reckons_363 : decode cX8_reckons 363 = .ok (.iinc 11 (-1), 3) := by decide +kernel
theorem dX8_reckons_366 : decode cX8_reckons 366 = .ok (.goto (-59), 3) := by decide +kernel
theorem dX8_reckons_369 : decode cX8_reckons 369 = .ok (.iinc 10 1, 3) := by decide +kernel
theorem dX8_reckons_372 : decode cX8_reckons 372 = .ok (.goto (-78), 3) := by decide +kernel
theorem dX8_reckons_375 : decode cX8_reckons 375 = .ok (.iconst 0, 1) := by decide +kernel
theorem dX8_reckons_376 : decode cX8_reckons 376 = .ok (.istore 10, 2) := by decide +kernel
theorem dX8_reckons_378 : decode cX8_reckons 378 = .ok (.iload 10, 2) := by decide +kernel
theorem dX8_reckons_380 : decode cX8_reckons 380 = .ok (.iload 9, 2) := by decide +kernel
theorem dX8_reckons_382 : decode cX8_reckons 382 = .ok (.if_icmp .gt 36, 3) := by decide +kernel
theorem dX8_reckons_385 : decode cX8_reckons 385 = .ok (.aload_n 0, 1) := by decide +kernel
theorem dX8_reckons_386 : decode cX8_reckons 386 = .ok (.getfield 30, 3) := by decide +kernel
theorem dX8_reckons_389 : decode cX8_reckons 389 = .ok (.iload 10, 2) := by decide +kernel
theorem dX8_reckons_391 : decode cX8_reckons 391 = .ok (.laload, 1) := by decide +kernel
theorem dX8_reckons_392 : decode cX8_reckons 392 = .ok (.lload_n 3, 1) := by decide +kernel
theorem dX8_reckons_393 : decode cX8_reckons 393 = .ok (.ldc2_w 156, 3) := by decide +kernel
theorem dX8_reckons_396 : decode cX8_reckons 396 = .ok (.ldiv, 1) := by decide +kernel
theorem dX8_reckons_397 : decode cX8_reckons 397 = .ok (.lcmp, 1) := by decide +kernel
theorem dX8_reckons_398 : decode cX8_reckons 398 = .ok (.ifCond .le 14, 3) := by decide +kernel
theorem dX8_reckons_401 : decode cX8_reckons 401 = .ok (.aload_n 0, 1) := by decide +kernel
theorem dX8_reckons_402 : decode cX8_reckons 402 = .ok (.getfield 30, 3) := by decide +kernel
theorem dX8_reckons_405 : decode cX8_reckons 405 = .ok (.iload 10, 2) := by decide +kernel
theorem dX8_reckons_407 : decode cX8_reckons 407 = .ok (.dup2, 1) := by decide +kernel
theorem dX8_reckons_408 : decode cX8_reckons 408 = .ok (.laload, 1) := by decide +kernel
theorem dX8_reckons_409 : decode cX8_reckons 409 = .ok (.lload_n 3, 1) := by decide +kernel
theorem dX8_reckons_410 : decode cX8_reckons 410 = .ok (.lsub, 1) := by decide +kernel
theorem dX8_reckons_411 : decode cX8_reckons 411 = .ok (.lastore, 1) := by decide +kernel
theorem dX8_reckons_412 : decode cX8_reckons 412 = .ok (.iinc 10 1, 3) := by decide +kernel
theorem dX8_reckons_415 : decode cX8_reckons 415 = .ok (.goto (-37), 3) := by decide +kernel
theorem dX8_reckons_418 : decode cX8_reckons 418 = .ok (.iconst 1, 1) := by decide +kernel
theorem dX8_reckons_419 : decode cX8_reckons 419 = .ok (.ireturn, 1) := by decide +kernel
set_option maxRecDepth 20000 in
theorem ggX8_polynomial_X8_isField : GoodIn wsX8_polynomial wsX8_isField := goodIn_r _ [9, 10, 11, 12, 8, 13, 49, 50, 51, 52, 53, 54, 55, 56, 57, 58] (by decide +kernel) (by decide +kernel)
set_option maxRecDepth 20000 in
theorem gX8_polynomial_X8_isField : GoodIn wsX8_polynomial (wsV RX8 100 RX8 yX8_isField wsX8_isField) := goodIn_app (goodIn_of _ (by decide +kernel)) ggX8_polynomial_X8_isField
set_option maxRecDepth 20000 in
theorem ggX8_polynomial_X8_degree : GoodIn wsX8_polynomial wsX8_degree := goodIn_r _ [16, 17, 18, 8, 19, 20, 21, 22, 11, 12, 13, 23, 24, 25, 26, 27, 28] (by decide +kernel) (by decide +kernel)
set_option maxRecDepth 20000 in
theorem gX8_polynomial_X8_degree : GoodIn wsX8_polynomial (va_wsS RX8 117 yX8_degree wsX8_degree) := goodIn_app (goodIn_of _ (by decide +kernel)) ggX8_polynomial_X8_degree
set_option maxRecDepth 20000 in
theorem ggX8_polynomial_X8_isIn : GoodIn wsX8_polynomial wsX8_isIn := goodIn_r _ [13] (by decide +kernel) (by decide +kernel)
set_option maxRecDepth 20000 in
theorem gX8_polynomial_X8_isIn : GoodIn wsX8_polynomial (va_wsS RX8 37 yX8_isIn wsX8_isIn) := goodIn_app (goodIn_of _ (by decide +kernel)) ggX8_polynomial_X8_isIn
set_option maxRecDepth 20000 in
theorem ggX8_polynomial_X8_reckons : GoodIn wsX8_polynomial wsX8_reckons := goodIn_r _ [32, 1, 2, 33, 34, 35, 3, 36, 5, 6, 7, 8, 9, 10, 11, 12, 13, 14, 15, 16, 17, 18, 19, 20, 21, 22, 23, 24, 25, 26, 27, 28, 37, 38, 39, 40, 41, 42, 43, 44, 45, 46, 47, 48, 49, 50, 51, 52, 53, 54, 55, 56, 57, 58] (by decide +kernel) (by decide +kernel)
set_option maxRecDepth 20000 in
theorem gX8_polynomial_X8_reckons : GoodIn wsX8_polynomial (wsV RX8 171 RX8 yX8_reckons wsX8_reckons) := goodIn_app (goodIn_of _ (by decide +kernel)) ggX8_polynomial_X8_reckons
theorem dX8_polynomial_0 : decode cX8_polynomial 0 = .ok (.aload_n 0, 1) := by decide +kernel
theorem dX8_polynomial_1 : decode cX8_polynomial 1 = .ok (.iload_n 1, 1) := by decide +kernel
theorem dX8_polynomial_2 : decode cX8_polynomial 2 = .ok (.invokevirtual 100, 3) := by decide +kernel
theorem dX8_polynomial_5 : decode cX8_polynomial 5 = .ok (.ifCond .eq 43, 3) := by decide +kernel
theorem dX8_polynomial_8 : decode cX8_polynomial 8 = .ok (.iload_n 2, 1) := by decide +kernel
theorem dX8_polynomial_9 : decode cX8_polynomial 9 = .ok (.iconst 0, 1) := by decide +kernel
theorem dX8_polynomial_10 : decode cX8_polynomial 10 = .ok (.aload_n 0, 1) := by decide +kernel
theorem dX8_polynomial_11 : decode cX8_polynomial 11 = .ok (.getfield 7, 3) := by decide +kernel
theorem dX8_polynomial_14 : decode cX8_polynomial 14 = .ok (.iload_n 1, 1) := by decide +kernel
theorem dX8_polynomial_15 : decode cX8_polynomial 15 = .ok (.iaload, 1) := by decide +kernel
theorem dX8_polynomial_16 : decode cX8_polynomial 16 = .ok (.aload_n 0, 1) := by decide +kernel
theorem dX8_polynomial_17 : decode cX8_polynomial 17 = .ok (.getfield 13, 3) := by decide +kernel
theorem dX8_polynomial_20 : decode cX8_polynomial 20 = .ok (.iload_n 1, 1) := by decide +kernel
theorem dX8_polynomial_21 : decode cX8_polynomial 21 = .ok (.laload, 1) := by decide +kernel
theorem dX8_polynomial_22 : decode cX8_polynomial 22 = .ok (.invokestatic 117, 3) := by decide +kernel
theorem dX8_polynomial_25 : decode cX8_polynomial 25 = .ok (.invokestatic 37, 3) := by decide +kernel
theorem dX8_polynomial_28 : decode cX8_polynomial 28 = .ok (.ifCond .eq 20, 3) := by decide +kernel
theorem dX8_polynomial_31 : decode cX8_polynomial 31 = .ok (.aload_n 0, 1) := by decide +kernel
theorem dX8_polynomial_32 : decode cX8_polynomial 32 = .ok (.iload_n 1, 1) := by decide +kernel
theorem dX8_polynomial_33 : decode cX8_polynomial 33 = .ok (.invokevirtual 171, 3) := by decide +kernel
theorem dX8_polynomial_36 : decode cX8_polynomial 36 = .ok (.ifCond .eq 12, 3) := by decide +kernel
theorem dX8_polynomial_39 : decode cX8_polynomial 39 = .ok (.aload_n 0, 1) := by decide +kernel
theorem dX8_polynomial_40 : decode cX8_polynomial 40 = .ok (.getfield 30, 3) := by decide +kernel
theorem dX8_polynomial_43 : decode cX8_polynomial 43 = .ok (.iload_n 2, 1) := by decide +kernel
theorem dX8_polynomial_44 : decode cX8_polynomial 44 = .ok (.laload, 1) := by decide +kernel
theorem dX8_polynomial_45 : decode cX8_polynomial 45 = .ok (.goto 6, 3) := by decide +kernel
theorem dX8_polynomial_48 : decode cX8_polynomial 48 = .ok (.ldc2_w 174, 3) := by decide +kernel
theorem dX8_polynomial_51 : decode cX8_polynomial 51 = .ok (.lreturn, 1) := by decide +kernel
set_option maxRecDepth 20000 in
theorem ggX8_roots_X8_isAsked : GoodIn wsX8_roots wsX8_isAsked := goodIn_r _ [7, 8, 9, 6, 10, 11, 12, 13] (by decide +kernel) (by decide +kernel)
set_option maxRecDepth 20000 in
theorem gX8_roots_X8_isAsked : GoodIn wsX8_roots (va_wsS RX8 131 yX8_isAsked wsX8_isAsked) := goodIn_app (goodIn_of _ (by decide +kernel)) ggX8_roots_X8_isAsked
set_option maxRecDepth 20000 in
theorem ggX8_roots_X8_reckons : GoodIn wsX8_roots wsX8_reckons := goodIn_r _ [17, 1, 2, 18, 19, 20, 3, 21, 22, 23, 24, 6, 25, 26, 8, 9, 10, 27, 28, 29, 30, 31, 32, 33, 34, 35, 36, 37, 38, 39, 40, 41, 42, 43, 44, 45, 46, 47, 48, 49, 50, 51, 52, 53, 54, 55, 56, 57, 58, 59, 60, 61, 62, 63] (by decide +kernel) (by decide +kernel)
set_option maxRecDepth 20000 in
theorem gX8_roots_X8_reckons : GoodIn wsX8_roots (wsV RX8 171 RX8 yX8_reckons wsX8_reckons) := goodIn_app (goodIn_of _ (by decide +kernel)) ggX8_roots_X8_reckons
set_option maxRecDepth 20000 in
theorem ggX8_roots_X8_degree : GoodIn wsX8_roots wsX8_degree := goodIn_r _ [29, 30, 31, 6, 32, 33, 34, 35, 8, 9, 10, 36, 37, 38, 39, 40, 41] (by decide +kernel) (by decide +kernel)
set_option maxRecDepth 20000 in
theorem gX8_roots_X8_degree : GoodIn wsX8_roots (va_wsS RX8 117 yX8_degree wsX8_degree) := goodIn_app (goodIn_of _ (by decide +kernel)) ggX8_roots_X8_degree
theorem dX8_roots_0 : decode cX8_roots 0 = .ok (.iload_n 2, 1) := by decide +kernel
theorem dX8_roots_1 : decode cX8_roots 1 = .ok (.invokestatic 131, 3) := by decide +kernel
theorem dX8_roots_4 : decode cX8_roots 4 = .ok (.ifCond .eq 11, 3) := by decide +kernel
theorem dX8_roots_7 : decode cX8_roots 7 = .ok (.aload_n 0, 1) := by decide +kernel
theorem dX8_roots_8 : decode cX8_roots 8 = .ok (.iload_n 1, 1) := by decide +kernel
theorem dX8_roots_9 : decode cX8_roots 9 = .ok (.invokevirtual 171, 3) := by decide +kernel
theorem dX8_roots_12 : decode cX8_roots 12 = .ok (.ifCond .ne 5, 3) := by decide +kernel
theorem dX8_roots_15 : decode cX8_roots 15 = .ok (.iconst (-1), 1) := by decide +kernel
theorem dX8_roots_16 : decode cX8_roots 16 = .ok (.ireturn, 1) := by decide +kernel
theorem dX8_roots_17 : decode cX8_roots 17 = .ok (.aload_n 0, 1) := by decide +kernel
theorem dX8_roots_18 : decode cX8_roots 18 = .ok (.getfield 7, 3) := by decide +kernel
theorem dX8_roots_21 : decode cX8_roots 21 = .ok (.iload_n 1, 1) := by decide +kernel
theorem dX8_roots_22 : decode cX8_roots 22 = .ok (.iaload, 1) := by decide +kernel
theorem dX8_roots_23 : decode cX8_roots 23 = .ok (.aload_n 0, 1) := by decide +kernel
theorem dX8_roots_24 : decode cX8_roots 24 = .ok (.getfield 13, 3) := by decide +kernel
theorem dX8_roots_27 : decode cX8_roots 27 = .ok (.iload_n 1, 1) := by decide +kernel
theorem dX8_roots_28 : decode cX8_roots 28 = .ok (.laload, 1) := by decide +kernel
theorem dX8_roots_29 : decode cX8_roots 29 = .ok (.invokestatic 117, 3) := by decide +kernel
theorem dX8_roots_32 : decode cX8_roots 32 = .ok (.istore_n 3, 1) := by decide +kernel
theorem dX8_roots_33 : decode cX8_roots 33 = .ok (.iconst 0, 1) := by decide +kernel
theorem dX8_roots_34 : decode cX8_roots 34 = .ok (.istore 4, 2) := by decide +kernel
theorem dX8_roots_36 : decode cX8_roots 36 = .ok (.iconst 0, 1) := by decide +kernel
theorem dX8_roots_37 : decode cX8_roots 37 = .ok (.istore 5, 2) := by decide +kernel
theorem dX8_roots_39 : decode cX8_roots 39 = .ok (.iload 5, 2) := by decide +kernel
theorem dX8_roots_41 : decode cX8_roots 41 = .ok (.iload_n 2, 1) := by decide +kernel
theorem dX8_roots_42 : decode cX8_roots 42 = .ok (.if_icmp .ge 65, 3) := by decide +kernel
theorem dX8_roots_45 : decode cX8_roots 45 = .ok (.lconst 0, 1) := by decide +kernel
theorem dX8_roots_46 : decode cX8_roots 46 = .ok (.lstore 6, 2) := by decide +kernel
theorem dX8_roots_48 : decode cX8_roots 48 = .ok (.iload_n 3, 1) := by decide +kernel
theorem dX8_roots_49 : decode cX8_roots 49 = .ok (.istore 8, 2) := by decide +kernel
theorem dX8_roots_51 : decode cX8_roots 51 = .ok (.iload 8, 2) := by decide +kernel
theorem dX8_roots_53 : decode cX8_roots 53 = .ok (.ifCond .lt 28, 3) := by decide +kernel
theorem dX8_roots_56 : decode cX8_roots 56 = .ok (.lload 6, 2) := by decide +kernel
theorem dX8_roots_58 : decode cX8_roots 58 = .ok (.iload 5, 2) := by decide +kernel
theorem dX8_roots_60 : decode cX8_roots 60 = .ok (.i2l, 1) := by decide +kernel
theorem dX8_roots_61 : decode cX8_roots 61 = .ok (.lmul, 1) := by decide +kernel
theorem dX8_roots_62 : decode cX8_roots 62 = .ok (.aload_n 0, 1) := by decide +kernel
theorem dX8_roots_63 : decode cX8_roots 63 = .ok (.getfield 30, 3) := by decide +kernel
theorem dX8_roots_66 : decode cX8_roots 66 = .ok (.iload 8, 2) := by decide +kernel
theorem dX8_roots_68 : decode cX8_roots 68 = .ok (.laload, 1) := by decide +kernel
theorem dX8_roots_69 : decode cX8_roots 69 = .ok (.ladd, 1) := by decide +kernel
theorem dX8_roots_70 : decode cX8_roots 70 = .ok (.iload_n 2, 1) := by decide +kernel
theorem dX8_roots_71 : decode cX8_roots 71 = .ok (.i2l, 1) := by decide +kernel
theorem dX8_roots_72 : decode cX8_roots 72 = .ok (.lrem, 1) := by decide +kernel
theorem dX8_roots_73 : decode cX8_roots 73 = .ok (.lstore 6, 2) := by decide +kernel
theorem dX8_roots_75 : decode cX8_roots 75 = .ok (.iinc 8 (-1), 3) := by decide +kernel
theorem dX8_roots_78 : decode cX8_roots 78 = .ok (.goto (-27), 3) := by decide +kernel
theorem dX8_roots_81 : decode cX8_roots 81 = .ok (.iload 4, 2) := by decide +kernel
theorem dX8_roots_83 : decode cX8_roots 83 = .ok (.lload 6, 2) := by decide +kernel
theorem dX8_roots_85 : decode cX8_roots 85 = .ok (.iload_n 2, 1) := by decide +kernel
theorem dX8_roots_86 : decode cX8_roots 86 = .ok (.i2l, 1) := by decide +kernel
theorem dX8_roots_87 : decode cX8_roots 87 = .ok (.lrem, 1) := by decide +kernel
theorem dX8_roots_88 : decode cX8_roots 88 = .ok (.lconst 0, 1) := by decide +kernel
theorem dX8_roots_89 : decode cX8_roots 89 = .ok (.lcmp, 1) := by decide +kernel
theorem dX8_roots_90 : decode cX8_roots 90 = .ok (.ifCond .ne 7, 3) := by decide +kernel
theorem dX8_roots_93 : decode cX8_roots 93 = .ok (.iconst 1, 1) := by decide +kernel
theorem dX8_roots_94 : decode cX8_roots 94 = .ok (.goto 4, 3) := by decide +kernel
theorem dX8_roots_97 : decode cX8_roots 97 = .ok (.iconst 0, 1) := by decide +kernel
theorem dX8_roots_98 : decode cX8_roots 98 = .ok (.iadd, 1) := by decide +kernel
theorem dX8_roots_99 : decode cX8_roots 99 = .ok (.istore 4, 2) := by decide +kernel
theorem dX8_roots_101 : decode cX8_roots 101 = .ok (.iinc 5 1, 3) := by decide +kernel
theorem dX8_roots_104 : decode cX8_roots 104 = .ok (.goto (-65), 3) := by decide +kernel
theorem dX8_roots_107 : decode cX8_roots 107 = .ok (.iload 4, 2) := by decide +kernel
theorem dX8_roots_109 : decode cX8_roots 109 = .ok (.ireturn, 1) := by decide +kernel
theorem dX8_count_0 : decode cX8_count 0 = .ok (.iconst 0, 1) := by decide +kernel
theorem dX8_count_1 : decode cX8_count 1 = .ok (.istore_n 2, 1) := by decide +kernel
theorem dX8_count_2 : decode cX8_count 2 = .ok (.iconst 0, 1) := by decide +kernel
theorem dX8_count_3 : decode cX8_count 3 = .ok (.istore_n 3, 1) := by decide +kernel
theorem dX8_count_4 : decode cX8_count 4 = .ok (.iload_n 3, 1) := by decide +kernel
theorem dX8_count_5 : decode cX8_count 5 = .ok (.aload_n 0, 1) := by decide +kernel
theorem dX8_count_6 : decode cX8_count 6 = .ok (.getfield 17, 3) := by decide +kernel
theorem dX8_count_9 : decode cX8_count 9 = .ok (.iconst 0, 1) := by decide +kernel
theorem dX8_count_10 : decode cX8_count 10 = .ok (.iaload, 1) := by decide +kernel
theorem dX8_count_11 : decode cX8_count 11 = .ok (.if_icmp .ge 30, 3) := by decide +kernel
theorem dX8_count_14 : decode cX8_count 14 = .ok (.aload_n 0, 1) := by decide +kernel
theorem dX8_count_15 : decode cX8_count 15 = .ok (.getfield 7, 3) := by decide +kernel
theorem dX8_count_18 : decode cX8_count 18 = .ok (.iload_n 3, 1) := by decide +kernel
theorem dX8_count_19 : decode cX8_count 19 = .ok (.iaload, 1) := by decide +kernel
theorem dX8_count_20 : decode cX8_count 20 = .ok (.iload_n 2, 1) := by decide +kernel
theorem dX8_count_21 : decode cX8_count 21 = .ok (.if_icmp .le 12, 3) := by decide +kernel
theorem dX8_count_24 : decode cX8_count 24 = .ok (.aload_n 0, 1) := by decide +kernel
theorem dX8_count_25 : decode cX8_count 25 = .ok (.getfield 7, 3) := by decide +kernel
theorem dX8_count_28 : decode cX8_count 28 = .ok (.iload_n 3, 1) := by decide +kernel
theorem dX8_count_29 : decode cX8_count 29 = .ok (.iaload, 1) := by decide +kernel
theorem dX8_count_30 : decode cX8_count 30 = .ok (.goto 4, 3) := by decide +kernel
theorem dX8_count_33 : decode cX8_count 33 = .ok (.iload_n 2, 1) := by decide +kernel
theorem dX8_count_34 : decode cX8_count 34 = .ok (.istore_n 2, 1) := by decide +kernel
theorem dX8_count_35 : decode cX8_count 35 = .ok (.iinc 3 1, 3) := by decide +kernel
theorem dX8_count_38 : decode cX8_count 38 = .ok (.goto (-34), 3) := by decide +kernel
theorem dX8_count_41 : decode cX8_count 41 = .ok (.iload_n 1, 1) := by decide +kernel
theorem dX8_count_42 : decode cX8_count 42 = .ok (.ifCond .ne 12, 3) := by decide +kernel
theorem dX8_count_45 : decode cX8_count 45 = .ok (.aload_n 0, 1) := by decide +kernel
theorem dX8_count_46 : decode cX8_count 46 = .ok (.getfield 17, 3) := by decide +kernel
theorem dX8_count_49 : decode cX8_count 49 = .ok (.iconst 0, 1) := by decide +kernel
theorem dX8_count_50 : decode cX8_count 50 = .ok (.iaload, 1) := by decide +kernel
theorem dX8_count_51 : decode cX8_count 51 = .ok (.goto 13, 3) := by decide +kernel
theorem dX8_count_54 : decode cX8_count 54 = .ok (.iload_n 1, 1) := by decide +kernel
theorem dX8_count_55 : decode cX8_count 55 = .ok (.iconst 1, 1) := by decide +kernel
theorem dX8_count_56 : decode cX8_count 56 = .ok (.if_icmp .ne 7, 3) := by decide +kernel
theorem dX8_count_59 : decode cX8_count 59 = .ok (.iload_n 2, 1) := by decide +kernel
theorem dX8_count_60 : decode cX8_count 60 = .ok (.goto 4, 3) := by decide +kernel
theorem dX8_count_63 : decode cX8_count 63 = .ok (.iconst (-1), 1) := by decide +kernel
theorem dX8_count_64 : decode cX8_count 64 = .ok (.ireturn, 1) := by decide +kernel
theorem dX8_clear_0 : decode cX8_clear 0 = .ok (.aload_n 0, 1) := by decide +kernel
theorem dX8_clear_1 : decode cX8_clear 1 = .ok (.getfield 17, 3) := by decide +kernel
theorem dX8_clear_4 : decode cX8_clear 4 = .ok (.iconst 0, 1) := by decide +kernel
theorem dX8_clear_5 : decode cX8_clear 5 = .ok (.iconst 0, 1) := by decide +kernel
theorem dX8_clear_6 : decode cX8_clear 6 = .ok (.iastore, 1) := by decide +kernel
theorem dX8_clear_7 : decode cX8_clear 7 = .ok (.return_, 1) := by decide +kernel
set_option maxRecDepth 20000 in
theorem ggX8_image_X8_isIn : GoodIn wsX8_image wsX8_isIn := goodIn_r _ [8] (by decide +kernel) (by decide +kernel)
set_option maxRecDepth 20000 in
theorem gX8_image_X8_isIn : GoodIn wsX8_image (va_wsS RX8 37 yX8_isIn wsX8_isIn) := goodIn_app (goodIn_of _ (by decide +kernel)) ggX8_image_X8_isIn
theorem dX8_image_0 : decode cX8_image 0 = .ok (.iload_n 1, 1) := by decide +kernel
theorem dX8_image_1 : decode cX8_image 1 = .ok (.iconst 0, 1) := by decide +kernel
theorem dX8_image_2 : decode cX8_image 2 = .ok (.iconst 2, 1) := by decide +kernel
theorem dX8_image_3 : decode cX8_image 3 = .ok (.invokestatic 37, 3) := by decide +kernel
theorem dX8_image_6 : decode cX8_image 6 = .ok (.ifCond .ne 5, 3) := by decide +kernel
theorem dX8_image_9 : decode cX8_image 9 = .ok (.iconst 0, 1) := by decide +kernel
theorem dX8_image_10 : decode cX8_image 10 = .ok (.ireturn, 1) := by decide +kernel
theorem dX8_image_11 : decode cX8_image 11 = .ok (.aload_n 0, 1) := by decide +kernel
theorem dX8_image_12 : decode cX8_image 12 = .ok (.getfield 20, 3) := by decide +kernel
theorem dX8_image_15 : decode cX8_image 15 = .ok (.iload_n 1, 1) := by decide +kernel
theorem dX8_image_16 : decode cX8_image 16 = .ok (.iconst 1, 1) := by decide +kernel
theorem dX8_image_17 : decode cX8_image 17 = .ok (.bastore, 1) := by decide +kernel
theorem dX8_image_18 : decode cX8_image 18 = .ok (.aload_n 0, 1) := by decide +kernel
theorem dX8_image_19 : decode cX8_image 19 = .ok (.getfield 17, 3) := by decide +kernel
theorem dX8_image_22 : decode cX8_image 22 = .ok (.iload_n 1, 1) := by decide +kernel
theorem dX8_image_23 : decode cX8_image 23 = .ok (.iconst 1, 1) := by decide +kernel
theorem dX8_image_24 : decode cX8_image 24 = .ok (.iadd, 1) := by decide +kernel
theorem dX8_image_25 : decode cX8_image 25 = .ok (.aload_n 0, 1) := by decide +kernel
theorem dX8_image_26 : decode cX8_image 26 = .ok (.getfield 17, 3) := by decide +kernel
theorem dX8_image_29 : decode cX8_image 29 = .ok (.iconst 0, 1) := by decide +kernel
theorem dX8_image_30 : decode cX8_image 30 = .ok (.iaload, 1) := by decide +kernel
theorem dX8_image_31 : decode cX8_image 31 = .ok (.iastore, 1) := by decide +kernel
theorem dX8_image_32 : decode cX8_image 32 = .ok (.iconst 0, 1) := by decide +kernel
theorem dX8_image_33 : decode cX8_image 33 = .ok (.istore_n 2, 1) := by decide +kernel
theorem dX8_image_34 : decode cX8_image 34 = .ok (.iload_n 2, 1) := by decide +kernel
theorem dX8_image_35 : decode cX8_image 35 = .ok (.bipush 40, 2) := by decide +kernel
theorem dX8_image_37 : decode cX8_image 37 = .ok (.if_icmp .ge 47, 3) := by decide +kernel
theorem dX8_image_40 : decode cX8_image 40 = .ok (.aload_n 0, 1) := by decide +kernel
theorem dX8_image_41 : decode cX8_image 41 = .ok (.getfield 7, 3) := by decide +kernel
theorem dX8_image_44 : decode cX8_image 44 = .ok (.bipush 40, 2) := by decide +kernel
theorem dX8_image_46 : decode cX8_image 46 = .ok (.iload_n 1, 1) := by decide +kernel
theorem dX8_image_47 : decode cX8_image 47 = .ok (.iconst 1, 1) := by decide +kernel
theorem dX8_image_48 : decode cX8_image 48 = .ok (.iadd, 1) := by decide +kernel
theorem dX8_image_49 : decode cX8_image 49 = .ok (.imul, 1) := by decide +kernel
theorem dX8_image_50 : decode cX8_image 50 = .ok (.iload_n 2, 1) := by decide +kernel
theorem dX8_image_51 : decode cX8_image 51 = .ok (.iadd, 1) := by decide +kernel
theorem dX8_image_52 : decode cX8_image 52 = .ok (.aload_n 0, 1) := by decide +kernel
theorem dX8_image_53 : decode cX8_image 53 = .ok (.getfield 7, 3) := by decide +kernel
theorem dX8_image_56 : decode cX8_image 56 = .ok (.iload_n 2, 1) := by decide +kernel
theorem dX8_image_57 : decode cX8_image 57 = .ok (.iaload, 1) := by decide +kernel
theorem dX8_image_58 : decode cX8_image 58 = .ok (.iastore, 1) := by decide +kernel
theorem dX8_image_59 : decode cX8_image 59 = .ok (.aload_n 0, 1) := by decide +kernel
theorem dX8_image_60 : decode cX8_image 60 = .ok (.getfield 13, 3) := by decide +kernel
