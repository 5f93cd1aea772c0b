theorem dX0_init_0 : decode cX0_init 0 = .ok (.aload_n 0, 1) := by decide +kernel
theorem dX0_init_1 : decode cX0_init 1 = .ok (.invokespecial 1, 3) := by decide +kernel
theorem dX0_init_4 : decode cX0_init 4 = .ok (.aload_n 0, 1) := by decide +kernel
theorem dX0_init_5 : decode cX0_init 5 = .ok (.bipush 64, 2) := by decide +kernel
theorem dX0_init_7 : decode cX0_init 7 = .ok (.newarray .long, 2) := by decide +kernel
theorem dX0_init_9 : decode cX0_init 9 = .ok (.putfield 9, 3) := by decide +kernel
theorem dX0_init_12 : decode cX0_init 12 = .ok (.return_, 1) := by decide +kernel
theorem dX0_size_0 : decode cX0_size 0 = .ok (.aload_n 0, 1) := by decide +kernel
theorem dX0_size_1 : decode cX0_size 1 = .ok (.getfield 13, 3) := by decide +kernel
theorem dX0_size_4 : decode cX0_size 4 = .ok (.ireturn, 1) := by decide +kernel
theorem dX0_at_0 : decode cX0_at 0 = .ok (.iload_n 1, 1) := by decide +kernel
theorem dX0_at_1 : decode cX0_at 1 = .ok (.ifCond .lt 26, 3) := by decide +kernel
theorem dX0_at_4 : decode cX0_at 4 = .ok (.iload_n 1, 1) := by decide +kernel
theorem dX0_at_5 : decode cX0_at 5 = .ok (.aload_n 0, 1) := by decide +kernel
theorem dX0_at_6 : decode cX0_at 6 = .ok (.getfield 13, 3) := by decide +kernel
theorem dX0_at_9 : decode cX0_at 9 = .ok (.if_icmp .ge 18, 3) := by decide +kernel
theorem dX0_at_12 : decode cX0_at 12 = .ok (.iload_n 1, 1) := by decide +kernel
theorem dX0_at_13 : decode cX0_at 13 = .ok (.bipush 64, 2) := by decide +kernel
theorem dX0_at_15 : decode cX0_at 15 = .ok (.if_icmp .ge 12, 3) := by decide +kernel
theorem dX0_at_18 : decode cX0_at 18 = .ok (.aload_n 0, 1) := by decide +kernel
theorem dX0_at_19 : decode cX0_at 19 = .ok (.getfield 9, 3) := by decide +kernel
theorem dX0_at_22 : decode cX0_at 22 = .ok (.iload_n 1, 1) := by decide +kernel
theorem dX0_at_23 : decode cX0_at 23 = .ok (.laload, 1) := by decide +kernel
theorem dX0_at_24 : decode cX0_at 24 = .ok (.goto 4, 3) := by decide +kernel
theorem dX0_at_27 : decode cX0_at 27 = .ok (.lconst 0, 1) := by decide +kernel
theorem dX0_at_28 : decode cX0_at 28 = .ok (.lreturn, 1) := by decide +kernel
set_option maxRecDepth 20000 in
theorem ggX0_find_X0_add : GoodIn wsX0_find wsX0_add := goodIn_r _ [7, 1, 2, 38, 39] (by decide +kernel) (by decide +kernel)
set_option maxRecDepth 20000 in
theorem gX0_find_X0_add : GoodIn wsX0_find (wsV RX0 17 RX0 yX0_add wsX0_add) := goodIn_app (goodIn_of _ (by decide +kernel)) ggX0_find_X0_add
set_option maxRecDepth 20000 in
theorem ggX0_find_X0_addNextTo : GoodIn wsX0_find wsX0_addNextTo := goodIn_r _ [11, 12, 13, 14, 15, 16, 17, 18, 19, 20, 21, 22, 23, 24, 25, 26, 27, 28, 29, 30, 31, 32, 33, 34, 35, 36, 3, 4, 5, 6, 7, 1, 2, 37, 38, 39] (by decide +kernel) (by decide +kernel)
set_option maxRecDepth 20000 in
theorem gX0_find_X0_addNextTo : GoodIn wsX0_find (wsV RX0 21 RX0 yX0_addNextTo wsX0_addNextTo) := goodIn_app (goodIn_of _ (by decide +kernel)) ggX0_find_X0_addNextTo
theorem dX0_find_0 : decode cX0_find 0 = .ok (.aload_n 0, 1) := by decide +kernel
theorem dX0_find_1 : decode cX0_find 1 = .ok (.iconst 0, 1) := by decide +kernel
theorem dX0_find_2 : decode cX0_find 2 = .ok (.putfield 13, 3) := by decide +kernel
theorem dX0_find_5 : decode cX0_find 5 = .ok (.aload_n 0, 1) := by decide +kernel
theorem dX0_find_6 : decode cX0_find 6 = .ok (.lload_n 1, 1) := by decide +kernel
theorem dX0_find_7 : decode cX0_find 7 = .ok (.invokevirtual 17, 3) := by decide +kernel
theorem dX0_find_10 : decode cX0_find 10 = .ok (.iconst 0, 1) := by decide +kernel
theorem dX0_find_11 : decode cX0_find 11 = .ok (.istore 4, 2) := by decide +kernel
theorem dX0_find_13 : decode cX0_find 13 = .ok (.iload 4, 2) := by decide +kernel
theorem dX0_find_15 : decode cX0_find 15 = .ok (.aload_n 0, 1) := by decide +kernel
theorem dX0_find_16 : decode cX0_find 16 = .ok (.getfield 13, 3) := by decide +kernel
theorem dX0_find_19 : decode cX0_find 19 = .ok (.if_icmp .ge 28, 3) := by decide +kernel
theorem dX0_find_22 : decode cX0_find 22 = .ok (.iload 4, 2) := by decide +kernel
theorem dX0_find_24 : decode cX0_find 24 = .ok (.bipush 64, 2) := by decide +kernel
theorem dX0_find_26 : decode cX0_find 26 = .ok (.if_icmp .ge 21, 3) := by decide +kernel
theorem dX0_find_29 : decode cX0_find 29 = .ok (.aload_n 0, 1) := by decide +kernel
theorem dX0_find_30 : decode cX0_find 30 = .ok (.aload_n 0, 1) := by decide +kernel
theorem dX0_find_31 : decode cX0_find 31 = .ok (.getfield 9, 3) := by decide +kernel
theorem dX0_find_34 : decode cX0_find 34 = .ok (.iload 4, 2) := by decide +kernel
theorem dX0_find_36 : decode cX0_find 36 = .ok (.laload, 1) := by decide +kernel
theorem dX0_find_37 : decode cX0_find 37 = .ok (.iload_n 3, 1) := by decide +kernel
theorem dX0_find_38 : decode cX0_find 38 = .ok (.invokevirtual 21, 3) := by decide +kernel
theorem dX0_find_41 : decode cX0_find 41 = .ok (.iinc 4 1, 3) := by decide +kernel
theorem dX0_find_44 : decode cX0_find 44 = .ok (.goto (-31), 3) := by decide +kernel
theorem dX0_find_47 : decode cX0_find 47 = .ok (.return_, 1) := by decide +kernel
set_option maxRecDepth 20000 in
theorem ggX0_addNextTo_X3_all : GoodIn wsX0_addNextTo wsX3_all := goodIn_r _ [5, 6, 7, 8, 9, 10, 11, 4, 12] (by decide +kernel) (by decide +kernel)
set_option maxRecDepth 20000 in
theorem gX0_addNextTo_X3_all : GoodIn wsX0_addNextTo (va_wsS RX0 25 yX3_all wsX3_all) := goodIn_app (goodIn_of _ (by decide +kernel)) ggX0_addNextTo_X3_all
set_option maxRecDepth 20000 in
theorem ggX0_addNextTo_X3_has : GoodIn wsX0_addNextTo wsX3_has := goodIn_r _ [15] (by decide +kernel) (by decide +kernel)
set_option maxRecDepth 20000 in
theorem gX0_addNextTo_X3_has : GoodIn wsX0_addNextTo (va_wsS RX0 33 yX3_has wsX3_has) := goodIn_app (goodIn_of _ (by decide +kernel)) ggX0_addNextTo_X3_has
set_option maxRecDepth 20000 in
theorem ggX0_addNextTo_X3_with : GoodIn wsX0_addNextTo wsX3_with := goodIn_r _ [18, 19, 14, 4, 15, 20, 21, 22, 23, 24, 8, 25, 10, 11, 12] (by decide +kernel) (by decide +kernel)
set_option maxRecDepth 20000 in
theorem gX0_addNextTo_X3_with : GoodIn wsX0_addNextTo (va_wsS RX0 37 yX3_with wsX3_with) := goodIn_app (goodIn_of _ (by decide +kernel)) ggX0_addNextTo_X3_with
set_option maxRecDepth 20000 in
theorem ggX0_addNextTo_X0_add : GoodIn wsX0_addNextTo wsX0_add := goodIn_r _ [30, 31, 32, 34, 35] (by decide +kernel) (by decide +kernel)
set_option maxRecDepth 20000 in
theorem gX0_addNextTo_X0_add : GoodIn wsX0_addNextTo (wsV RX0 17 RX0 yX0_add wsX0_add) := goodIn_app (goodIn_of _ (by decide +kernel)) ggX0_addNextTo_X0_add
set_option maxRecDepth 20000 in
theorem ggX0_addNextTo_X3_times : GoodIn wsX0_addNextTo wsX3_times := goodIn_r _ [22, 19, 14, 4, 15, 23, 24, 8, 25, 10, 11, 12] (by decide +kernel) (by decide +kernel)
set_option maxRecDepth 20000 in
theorem gX0_addNextTo_X3_times : GoodIn wsX0_addNextTo (va_wsS RX0 41 yX3_times wsX3_times) := goodIn_app (goodIn_of _ (by decide +kernel)) ggX0_addNextTo_X3_times
theorem dX0_addNextTo_0 : decode cX0_addNextTo 0 = .ok (.iload_n 3, 1) := by decide +kernel
theorem dX0_addNextTo_1 : decode cX0_addNextTo 1 = .ok (.invokestatic 25, 3) := by decide +kernel
theorem dX0_addNextTo_4 : decode cX0_addNextTo 4 = .ok (.lload_n 1, 1) := by decide +kernel
theorem dX0_addNextTo_5 : decode cX0_addNextTo 5 = .ok (.ldc2_w 31, 3) := by decide +kernel
theorem dX0_addNextTo_8 : decode cX0_addNextTo 8 = .ok (.lxor, 1) := by decide +kernel
theorem dX0_addNextTo_9 : decode cX0_addNextTo 9 = .ok (.land, 1) := by decide +kernel
theorem dX0_addNextTo_10 : decode cX0_addNextTo 10 = .ok (.lstore 4, 2) := by decide +kernel
theorem dX0_addNextTo_12 : decode cX0_addNextTo 12 = .ok (.iconst 0, 1) := by decide +kernel
theorem dX0_addNextTo_13 : decode cX0_addNextTo 13 = .ok (.istore 6, 2) := by decide +kernel
theorem dX0_addNextTo_15 : decode cX0_addNextTo 15 = .ok (.iload 6, 2) := by decide +kernel
theorem dX0_addNextTo_17 : decode cX0_addNextTo 17 = .ok (.iload_n 3, 1) := by decide +kernel
theorem dX0_addNextTo_18 : decode cX0_addNextTo 18 = .ok (.if_icmp .ge 46, 3) := by decide +kernel
theorem dX0_addNextTo_21 : decode cX0_addNextTo 21 = .ok (.lload 4, 2) := by decide +kernel
theorem dX0_addNextTo_23 : decode cX0_addNextTo 23 = .ok (.iload 6, 2) := by decide +kernel
theorem dX0_addNextTo_25 : decode cX0_addNextTo 25 = .ok (.invokestatic 33, 3) := by decide +kernel
theorem dX0_addNextTo_28 : decode cX0_addNextTo 28 = .ok (.ifCond .eq 30, 3) := by decide +kernel
theorem dX0_addNextTo_31 : decode cX0_addNextTo 31 = .ok (.aload_n 0, 1) := by decide +kernel
theorem dX0_addNextTo_32 : decode cX0_addNextTo 32 = .ok (.lload_n 1, 1) := by decide +kernel
theorem dX0_addNextTo_33 : decode cX0_addNextTo 33 = .ok (.iload 6, 2) := by decide +kernel
theorem dX0_addNextTo_35 : decode cX0_addNextTo 35 = .ok (.iload_n 3, 1) := by decide +kernel
theorem dX0_addNextTo_36 : decode cX0_addNextTo 36 = .ok (.invokestatic 37, 3) := by decide +kernel
theorem dX0_addNextTo_39 : decode cX0_addNextTo 39 = .ok (.invokevirtual 17, 3) := by decide +kernel
theorem dX0_addNextTo_42 : decode cX0_addNextTo 42 = .ok (.lload 4, 2) := by decide +kernel
theorem dX0_addNextTo_44 : decode cX0_addNextTo 44 = .ok (.lload_n 1, 1) := by decide +kernel
theorem dX0_addNextTo_45 : decode cX0_addNextTo 45 = .ok (.iload 6, 2) := by decide +kernel
theorem dX0_addNextTo_47 : decode cX0_addNextTo 47 = .ok (.iload_n 3, 1) := by decide +kernel
theorem dX0_addNextTo_48 : decode cX0_addNextTo 48 = .ok (.invokestatic 41, 3) := by decide +kernel
theorem dX0_addNextTo_51 : decode cX0_addNextTo 51 = .ok (.ldc2_w 31, 3) := by decide +kernel
theorem dX0_addNextTo_54 : decode cX0_addNextTo 54 = .ok (.lxor, 1) := by decide +kernel
theorem dX0_addNextTo_55 : decode cX0_addNextTo 55 = .ok (.land, 1) := by decide +kernel
theorem dX0_addNextTo_56 : decode cX0_addNextTo 56 = .ok (.lstore 4, 2) := by decide +kernel
theorem dX0_addNextTo_58 : decode cX0_addNextTo 58 = .ok (.iinc 6 1, 3) := by decide +kernel
theorem dX0_addNextTo_61 : decode cX0_addNextTo 61 = .ok (.goto (-46), 3) := by decide +kernel
theorem dX0_addNextTo_64 : decode cX0_addNextTo 64 = .ok (.return_, 1) := by decide +kernel
theorem dX0_add_0 : decode cX0_add 0 = .ok (.iconst 0, 1) := by decide +kernel
theorem dX0_add_1 : decode cX0_add 1 = .ok (.istore_n 3, 1) := by decide +kernel
theorem dX0_add_2 : decode cX0_add 2 = .ok (.iload_n 3, 1) := by decide +kernel
theorem dX0_add_3 : decode cX0_add 3 = .ok (.aload_n 0, 1) := by decide +kernel
theorem dX0_add_4 : decode cX0_add 4 = .ok (.getfield 13, 3) := by decide +kernel
theorem dX0_add_7 : decode cX0_add 7 = .ok (.if_icmp .ge 27, 3) := by decide +kernel
theorem dX0_add_10 : decode cX0_add 10 = .ok (.iload_n 3, 1) := by decide +kernel
theorem dX0_add_11 : decode cX0_add 11 = .ok (.bipush 64, 2) := by decide +kernel
theorem dX0_add_13 : decode cX0_add 13 = .ok (.if_icmp .ge 21, 3) := by decide +kernel
theorem dX0_add_16 : decode cX0_add 16 = .ok (.aload_n 0, 1) := by decide +kernel
theorem dX0_add_17 : decode cX0_add 17 = .ok (.getfield 9, 3) := by decide +kernel
theorem dX0_add_20 : decode cX0_add 20 = .ok (.iload_n 3, 1) := by decide +kernel
theorem dX0_add_21 : decode cX0_add 21 = .ok (.laload, 1) := by decide +kernel
theorem dX0_add_22 : decode cX0_add 22 = .ok (.lload_n 1, 1) := by decide +kernel
theorem dX0_add_23 : decode cX0_add 23 = .ok (.lcmp, 1) := by decide +kernel
theorem dX0_add_24 : decode cX0_add 24 = .ok (.ifCond .ne 4, 3) := by decide +kernel
theorem dX0_add_27 : decode cX0_add 27 = .ok (.return_, 1) := by decide +kernel
theorem dX0_add_28 : decode cX0_add 28 = .ok (.iinc 3 1, 3) := by decide +kernel
theorem dX0_add_31 : decode cX0_add 31 = .ok (.goto (-29), 3) := by decide +kernel
theorem dX0_add_34 : decode cX0_add 34 = .ok (.aload_n 0, 1) := by decide +kernel
theorem dX0_add_35 : decode cX0_add 35 = .ok (.getfield 13, 3) := by decide +kernel
theorem dX0_add_38 : decode cX0_add 38 = .ok (.ifCond .lt 32, 3) := by decide +kernel
theorem dX0_add_41 : decode cX0_add 41 = .ok (.aload_n 0, 1) := by decide +kernel
theorem dX0_add_42 : decode cX0_add 42 = .ok (.getfield 13, 3) := by decide +kernel
theorem dX0_add_45 : decode cX0_add 45 = .ok (.bipush 64, 2) := by decide +kernel
theorem dX0_add_47 : decode cX0_add 47 = .ok (.if_icmp .ge 23, 3) := by decide +kernel
theorem dX0_add_50 : decode cX0_add 50 = .ok (.aload_n 0, 1) := by decide +kernel
theorem dX0_add_51 : decode cX0_add 51 = .ok (.getfield 9, 3) := by decide +kernel
theorem dX0_add_54 : decode cX0_add 54 = .ok (.aload_n 0, 1) := by decide +kernel
theorem dX0_add_55 : decode cX0_add 55 = .ok (.getfield 13, 3) := by decide +kernel
theorem dX0_add_58 : decode cX0_add 58 = .ok (.lload_n 1, 1) := by decide +kernel
theorem dX0_add_59 : decode cX0_add 59 = .ok (.lastore, 1) := by decide +kernel
theorem dX0_add_60 : decode cX0_add 60 = .ok (.aload_n 0, 1) := by decide +kernel
theorem dX0_add_61 : decode cX0_add 61 = .ok (.dup, 1) := by decide +kernel
theorem dX0_add_62 : decode cX0_add 62 = .ok (.getfield 13, 3) := by decide +kernel
theorem dX0_add_65 : decode cX0_add 65 = .ok (.iconst 1, 1) := by decide +kernel
theorem dX0_add_66 : decode cX0_add 66 = .ok (.iadd, 1) := by decide +kernel
theorem dX0_add_67 : decode cX0_add 67 = .ok (.putfield 13, 3) := by decide +kernel
theorem dX0_add_70 : decode cX0_add 70 = .ok (.return_, 1) := by decide +kernel
set_option maxRecDepth 20000 in
theorem ggX1_init_X0_init : GoodIn wsX1_init wsX0_init := goodIn_r _ [14, 15, 2, 3, 10, 16, 17, 18] (by decide +kernel) (by decide +kernel)
set_option maxRecDepth 20000 in
theorem gX1_init_X0_init_n11 : GoodIn wsX1_init (wsX0_init) := ggX1_init_X0_init
theorem dX1_init_0 : decode cX1_init 0 = .ok (.aload_n 0, 1) := by decide +kernel
theorem dX1_init_1 : decode cX1_init 1 = .ok (.invokespecial 3, 3) := by decide +kernel
theorem dX1_init_4 : decode cX1_init 4 = .ok (.aload_n 0, 1) := by decide +kernel
theorem dX1_init_5 : decode cX1_init 5 = .ok (.new 9, 3) := by decide +kernel
theorem dX1_init_8 : decode cX1_init 8 = .ok (.dup, 1) := by decide +kernel
theorem dX1_init_9 : decode cX1_init 9 = .ok (.invokespecial 11, 3) := by decide +kernel
theorem dX1_init_12 : decode cX1_init 12 = .ok (.putfield 12, 3) := by decide +kernel
theorem dX1_init_15 : decode cX1_init 15 = .ok (.aload_n 0, 1) := by decide +kernel
theorem dX1_init_16 : decode cX1_init 16 = .ok (.sipush 256, 3) := by decide +kernel
theorem dX1_init_19 : decode cX1_init 19 = .ok (.newarray .int, 2) := by decide +kernel
theorem dX1_init_21 : decode cX1_init 21 = .ok (.putfield 18, 3) := by decide +kernel
theorem dX1_init_24 : decode cX1_init 24 = .ok (.aload_n 0, 1) := by decide +kernel
theorem dX1_init_25 : decode cX1_init 25 = .ok (.sipush 256, 3) := by decide +kernel
theorem dX1_init_28 : decode cX1_init 28 = .ok (.newarray .long, 2) := by decide +kernel
theorem dX1_init_30 : decode cX1_init 30 = .ok (.putfield 22, 3) := by decide +kernel
theorem dX1_init_33 : decode cX1_init 33 = .ok (.aload_n 0, 1) := by decide +kernel
theorem dX1_init_34 : decode cX1_init 34 = .ok (.sipush 256, 3) := by decide +kernel
theorem dX1_init_37 : decode cX1_init 37 = .ok (.newarray .int, 2) := by decide +kernel
theorem dX1_init_39 : decode cX1_init 39 = .ok (.putfield 26, 3) := by decide +kernel
theorem dX1_init_42 : decode cX1_init 42 = .ok (.return_, 1) := by decide +kernel
set_option maxRecDepth 20000 in
theorem ggX1_barAt_X1_holds : GoodIn wsX1_barAt wsX1_holds := goodIn_r _ [6, 7, 8, 9, 10, 11, 12, 13] (by decide +kernel) (by decide +kernel)
set_option maxRecDepth 20000 in
theorem gX1_barAt_X1_holds : GoodIn wsX1_barAt (wsV RX1 29 RX1 yX1_holds wsX1_holds) := goodIn_app (goodIn_of _ (by decide +kernel)) ggX1_barAt_X1_holds
theorem dX1_barAt_0 : decode cX1_barAt 0 = .ok (.aload_n 0, 1) := by decide +kernel
theorem dX1_barAt_1 : decode cX1_barAt 1 = .ok (.iload_n 1, 1) := by decide +kernel
theorem dX1_barAt_2 : decode cX1_barAt 2 = .ok (.invokevirtual 29, 3) := by decide +kernel
theorem dX1_barAt_5 : decode cX1_barAt 5 = .ok (.ifCond .eq 12, 3) := by decide +kernel
theorem dX1_barAt_8 : decode cX1_barAt 8 = .ok (.aload_n 0, 1) := by decide +kernel
theorem dX1_barAt_9 : decode cX1_barAt 9 = .ok (.getfield 18, 3) := by decide +kernel
theorem dX1_barAt_12 : decode cX1_barAt 12 = .ok (.iload_n 1, 1) := by decide +kernel
theorem dX1_barAt_13 : decode cX1_barAt 13 = .ok (.iaload, 1) := by decide +kernel
theorem dX1_barAt_14 : decode cX1_barAt 14 = .ok (.goto 4, 3) := by decide +kernel
theorem dX1_barAt_17 : decode cX1_barAt 17 = .ok (.iconst (-1), 1) := by decide +kernel
theorem dX1_barAt_18 : decode cX1_barAt 18 = .ok (.ireturn, 1) := by decide +kernel
set_option maxRecDepth 20000 in
theorem ggX1_bitsAt_X1_holds : GoodIn wsX1_bitsAt wsX1_holds := goodIn_r _ [6, 7, 8, 9, 10, 11, 12, 13] (by decide +kernel) (by decide +kernel)
set_option maxRecDepth 20000 in
theorem gX1_bitsAt_X1_holds : GoodIn wsX1_bitsAt (wsV RX1 29 RX1 yX1_holds wsX1_holds) := goodIn_app (goodIn_of _ (by decide +kernel)) ggX1_bitsAt_X1_holds
theorem dX1_bitsAt_0 : decode cX1_bitsAt 0 = .ok (.aload_n 0, 1) := by decide +kernel
theorem dX1_bitsAt_1 : decode cX1_bitsAt 1 = .ok (.iload_n 1, 1) := by decide +kernel
theorem dX1_bitsAt_2 : decode cX1_bitsAt 2 = .ok (.invokevirtual 29, 3) := by decide +kernel
theorem dX1_bitsAt_5 : decode cX1_bitsAt 5 = .ok (.ifCond .eq 12, 3) := by decide +kernel
theorem dX1_bitsAt_8 : decode cX1_bitsAt 8 = .ok (.aload_n 0, 1) := by decide +kernel
theorem dX1_bitsAt_9 : decode cX1_bitsAt 9 = .ok (.getfield 22, 3) := by decide +kernel
theorem dX1_bitsAt_12 : decode cX1_bitsAt 12 = .ok (.iload_n 1, 1) := by decide +kernel
theorem dX1_bitsAt_13 : decode cX1_bitsAt 13 = .ok (.laload, 1) := by decide +kernel
theorem dX1_bitsAt_14 : decode cX1_bitsAt 14 = .ok (.goto 4, 3) := by decide +kernel
theorem dX1_bitsAt_17 : decode cX1_bitsAt 17 = .ok (.lconst 0, 1) := by decide +kernel
theorem dX1_bitsAt_18 : decode cX1_bitsAt 18 = .ok (.lreturn, 1) := by decide +kernel
set_option maxRecDepth 20000 in
theorem ggX1_fillTo_X3_one : GoodIn wsX1_fillTo wsX3_one := goodIn_r _ [6, 7, 8, 9, 10, 11, 12, 5, 13] (by decide +kernel) (by decide +kernel)
set_option maxRecDepth 20000 in
theorem gX1_fillTo_X3_one : GoodIn wsX1_fillTo (va_wsS RX1 37 yX3_one wsX3_one) := goodIn_app (goodIn_of _ (by decide +kernel)) ggX1_fillTo_X3_one
set_option maxRecDepth 20000 in
theorem ggX1_fillTo_X0_find : GoodIn wsX1_fillTo wsX0_find := goodIn_r _ [18, 19, 20, 21, 22, 23, 17, 24, 25, 26, 27, 28, 29, 30, 31, 5, 32, 33, 34, 9, 35, 11, 12, 13, 36, 37, 38, 39, 40, 41, 42, 43, 44, 45, 7, 8, 10, 46, 104, 105] (by decide +kernel) (by decide +kernel)
set_option maxRecDepth 20000 in
theorem gX1_fillTo_X0_find : GoodIn wsX1_fillTo (wsV RX1 43 RX0 yX0_find wsX0_find) := goodIn_app (goodIn_of _ (by decide +kernel)) ggX1_fillTo_X0_find
set_option maxRecDepth 20000 in
theorem ggX1_fillTo_X0_size : GoodIn wsX1_fillTo wsX0_size := goodIn_r _ [50, 19, 104, 105] (by decide +kernel) (by decide +kernel)
set_option maxRecDepth 20000 in
theorem gX1_fillTo_X0_size : GoodIn wsX1_fillTo (wsV RX1 47 RX0 yX0_size wsX0_size) := goodIn_app (goodIn_of _ (by decide +kernel)) ggX1_fillTo_X0_size
set_option maxRecDepth 20000 in
theorem ggX1_fillTo_X0_at : GoodIn wsX1_fillTo wsX0_at := goodIn_r _ [54, 19, 20, 104, 105] (by decide +kernel) (by decide +kernel)
set_option maxRecDepth 20000 in
theorem gX1_fillTo_X0_at : GoodIn wsX1_fillTo (wsV RX1 51 RX0 yX0_at wsX0_at) := goodIn_app (goodIn_of _ (by decide +kernel)) ggX1_fillTo_X0_at
set_option maxRecDepth 20000 in
theorem ggX1_fillTo_X1_addIfBarredBy : GoodIn wsX1_fillTo wsX1_addIfBarredBy := goodIn_r _ [59, 60, 61, 62, 63, 64, 65, 5, 66, 67, 31, 32, 33, 34, 9, 35, 11, 12, 13, 68, 69, 70, 71, 72, 73, 74, 75, 76, 77, 78, 79, 80, 81, 82, 83, 84, 85, 86, 87, 88, 89, 90, 91, 92, 93, 42, 37, 38, 7, 8, 10, 94, 95, 96, 58, 97, 98, 99, 100, 101, 102, 103] (by decide +kernel) (by decide +kernel)
set_option maxRecDepth 20000 in
theorem gX1_fillTo_X1_addIfBarredBy : GoodIn wsX1_fillTo (wsV RX1 54 RX1 yX1_addIfBarredBy wsX1_addIfBarredBy) := goodIn_app (goodIn_of _ (by decide +kernel)) ggX1_fillTo_X1_addIfBarredBy
theorem dX1_fillTo_0 : decode cX1_fillTo 0 = .ok (.aload_n 0, 1) := by decide +kernel
theorem dX1_fillTo_1 : decode cX1_fillTo 1 = .ok (.getfield 33, 3) := by decide +kernel
theorem dX1_fillTo_4 : decode cX1_fillTo 4 = .ok (.iconst 1, 1) := by decide +kernel
theorem dX1_fillTo_5 : decode cX1_fillTo 5 = .ok (.iadd, 1) := by decide +kernel
theorem dX1_fillTo_6 : decode cX1_fillTo 6 = .ok (.istore_n 2, 1) := by decide +kernel
theorem dX1_fillTo_7 : decode cX1_fillTo 7 = .ok (.iload_n 2, 1) := by decide +kernel
theorem dX1_fillTo_8 : decode cX1_fillTo 8 = .ok (.iload_n 1, 1) := by decide +kernel
theorem dX1_fillTo_9 : decode cX1_fillTo 9 = .ok (.if_icmp .gt 64, 3) := by decide +kernel
theorem dX1_fillTo_12 : decode cX1_fillTo 12 = .ok (.iload_n 2, 1) := by decide +kernel
theorem dX1_fillTo_13 : decode cX1_fillTo 13 = .ok (.bipush 63, 2) := by decide +kernel
theorem dX1_fillTo_15 : decode cX1_fillTo 15 = .ok (.if_icmp .gt 58, 3) := by decide +kernel
theorem dX1_fillTo_18 : decode cX1_fillTo 18 = .ok (.aload_n 0, 1) := by decide +kernel
theorem dX1_fillTo_19 : decode cX1_fillTo 19 = .ok (.getfield 12, 3) := by decide +kernel
theorem dX1_fillTo_22 : decode cX1_fillTo 22 = .ok (.iload_n 2, 1) := by decide +kernel
theorem dX1_fillTo_23 : decode cX1_fillTo 23 = .ok (.invokestatic 37, 3) := by decide +kernel
theorem dX1_fillTo_26 : decode cX1_fillTo 26 = .ok (.iload_n 2, 1) := by decide +kernel
theorem dX1_fillTo_27 : decode cX1_fillTo 27 = .ok (.invokevirtual 43, 3) := by decide +kernel
theorem dX1_fillTo_30 : decode cX1_fillTo 30 = .ok (.iconst 0, 1) := by decide +kernel
theorem dX1_fillTo_31 : decode cX1_fillTo 31 = .ok (.istore_n 3, 1) := by decide +kernel
theorem dX1_fillTo_32 : decode cX1_fillTo 32 = .ok (.iload_n 3, 1) := by decide +kernel
theorem dX1_fillTo_33 : decode cX1_fillTo 33 = .ok (.aload_n 0, 1) := by decide +kernel
theorem dX1_fillTo_34 : decode cX1_fillTo 34 = .ok (.getfield 12, 3) := by decide +kernel
theorem dX1_fillTo_37 : decode cX1_fillTo 37 = .ok (.invokevirtual 47, 3) := by decide +kernel
theorem dX1_fillTo_40 : decode cX1_fillTo 40 = .ok (.if_icmp .ge 22, 3) := by decide +kernel
theorem dX1_fillTo_43 : decode cX1_fillTo 43 = .ok (.aload_n 0, 1) := by decide +kernel
theorem dX1_fillTo_44 : decode cX1_fillTo 44 = .ok (.iload_n 2, 1) := by decide +kernel
theorem dX1_fillTo_45 : decode cX1_fillTo 45 = .ok (.aload_n 0, 1) := by decide +kernel
theorem dX1_fillTo_46 : decode cX1_fillTo 46 = .ok (.getfield 12, 3) := by decide +kernel
theorem dX1_fillTo_49 : decode cX1_fillTo 49 = .ok (.iload_n 3, 1) := by decide +kernel
theorem dX1_fillTo_50 : decode cX1_fillTo 50 = .ok (.invokevirtual 51, 3) := by decide +kernel
theorem dX1_fillTo_53 : decode cX1_fillTo 53 = .ok (.invokevirtual 54, 3) := by decide +kernel
theorem dX1_fillTo_56 : decode cX1_fillTo 56 = .ok (.iinc 3 1, 3) := by decide +kernel
theorem dX1_fillTo_59 : decode cX1_fillTo 59 = .ok (.goto (-27), 3) := by decide +kernel
theorem dX1_fillTo_62 : decode cX1_fillTo 62 = .ok (.aload_n 0, 1) := by decide +kernel
theorem dX1_fillTo_63 : decode cX1_fillTo 63 = .ok (.iload_n 2, 1) := by decide +kernel
theorem dX1_fillTo_64 : decode cX1_fillTo 64 = .ok (.putfield 33, 3) := by decide +kernel
theorem dX1_fillTo_67 : decode cX1_fillTo 67 = .ok (.iinc 2 1, 3) := by decide +kernel
theorem dX1_fillTo_70 : decode cX1_fillTo 70 = .ok (.goto (-63), 3) := by decide +kernel
theorem dX1_fillTo_73 : decode cX1_fillTo 73 = .ok (.return_, 1) := by decide +kernel
theorem dX1_howMany_0 : decode cX1_howMany 0 = .ok (.iconst 0, 1) := by decide +kernel
theorem dX1_howMany_1 : decode cX1_howMany 1 = .ok (.istore_n 3, 1) := by decide +kernel
theorem dX1_howMany_2 : decode cX1_howMany 2 = .ok (.iconst 0, 1) := by decide +kernel
theorem dX1_howMany_3 : decode cX1_howMany 3 = .ok (.istore 4, 2) := by decide +kernel
theorem dX1_howMany_5 : decode cX1_howMany 5 = .ok (.iload 4, 2) := by decide +kernel
theorem dX1_howMany_7 : decode cX1_howMany 7 = .ok (.aload_n 0, 1) := by decide +kernel
theorem dX1_howMany_8 : decode cX1_howMany 8 = .ok (.getfield 58, 3) := by decide +kernel
theorem dX1_howMany_11 : decode cX1_howMany 11 = .ok (.if_icmp .ge 42, 3) := by decide +kernel
theorem dX1_howMany_14 : decode cX1_howMany 14 = .ok (.iload 4, 2) := by decide +kernel
theorem dX1_howMany_16 : decode cX1_howMany 16 = .ok (.sipush 256, 3) := by decide +kernel
theorem dX1_howMany_19 : decode cX1_howMany 19 = .ok (.if_icmp .ge 34, 3) := by decide +kernel
theorem dX1_howMany_22 : decode cX1_howMany 22 = .ok (.aload_n 0, 1) := by decide +kernel
theorem dX1_howMany_23 : decode cX1_howMany 23 = .ok (.getfield 18, 3) := by decide +kernel
theorem dX1_howMany_26 : decode cX1_howMany 26 = .ok (.iload 4, 2) := by decide +kernel
theorem dX1_howMany_28 : decode cX1_howMany 28 = .ok (.iaload, 1) := by decide +kernel
theorem dX1_howMany_29 : decode cX1_howMany 29 = .ok (.iload_n 2, 1) := by decide +kernel
theorem dX1_howMany_30 : decode cX1_howMany 30 = .ok (.if_icmp .gt 23, 3) := by decide +kernel
theorem dX1_howMany_33 : decode cX1_howMany 33 = .ok (.aload_n 0, 1) := by decide +kernel
theorem dX1_howMany_34 : decode cX1_howMany 34 = .ok (.getfield 26, 3) := by decide +kernel
theorem dX1_howMany_37 : decode cX1_howMany 37 = .ok (.iload 4, 2) := by decide +kernel
theorem dX1_howMany_39 : decode cX1_howMany 39 = .ok (.iaload, 1) := by decide +kernel
theorem dX1_howMany_40 : decode cX1_howMany 40 = .ok (.iload_n 1, 1) := by decide +kernel
theorem dX1_howMany_41 : decode cX1_howMany 41 = .ok (.if_icmp .ne 6, 3) := by decide +kernel
theorem dX1_howMany_44 : decode cX1_howMany 44 = .ok (.iinc 3 1, 3) := by decide +kernel
theorem dX1_howMany_47 : decode cX1_howMany 47 = .ok (.iinc 4 1, 3) := by decide +kernel
theorem dX1_howMany_50 : decode cX1_howMany 50 = .ok (.goto (-45), 3) := by decide +kernel
theorem dX1_howMany_53 : decode cX1_howMany 53 = .ok (.iload_n 3, 1) := by decide +kernel
theorem dX1_howMany_54 : decode cX1_howMany 54 = .ok (.ireturn, 1) := by decide +kernel
theorem dX1_placeOf_0 : decode cX1_placeOf 0 = .ok (.iconst 0, 1) := by decide +kernel
theorem dX1_placeOf_1 : decode cX1_placeOf 1 = .ok (.istore 4, 2) := by decide +kernel
theorem dX1_placeOf_3 : decode cX1_placeOf 3 = .ok (.iconst 0, 1) := by decide +kernel
theorem dX1_placeOf_4 : decode cX1_placeOf 4 = .ok (.istore 5, 2) := by decide +kernel
theorem dX1_placeOf_6 : decode cX1_placeOf 6 = .ok (.iload 5, 2) := by decide +kernel
theorem dX1_placeOf_8 : decode cX1_placeOf 8 = .ok (.aload_n 0, 1) := by decide +kernel
theorem dX1_placeOf_9 : decode cX1_placeOf 9 = .ok (.getfield 58, 3) := by decide +kernel
theorem dX1_placeOf_12 : decode cX1_placeOf 12 = .ok (.if_icmp .ge 51, 3) := by decide +kernel
theorem dX1_placeOf_15 : decode cX1_placeOf 15 = .ok (.iload 5, 2) := by decide +kernel
theorem dX1_placeOf_17 : decode cX1_placeOf 17 = .ok (.sipush 256, 3) := by decide +kernel
theorem dX1_placeOf_20 : decode cX1_placeOf 20 = .ok (.if_icmp .ge 43, 3) := by decide +kernel
theorem dX1_placeOf_23 : decode cX1_placeOf 23 = .ok (.aload_n 0, 1) := by decide +kernel
theorem dX1_placeOf_24 : decode cX1_placeOf 24 = .ok (.getfield 18, 3) := by decide +kernel
theorem dX1_placeOf_27 : decode cX1_placeOf 27 = .ok (.iload 5, 2) := by decide +kernel
theorem dX1_placeOf_29 : decode cX1_placeOf 29 = .ok (.iaload, 1) := by decide +kernel
theorem dX1_placeOf_30 : decode cX1_placeOf 30 = .ok (.iload_n 2, 1) := by decide +kernel
theorem dX1_placeOf_31 : decode cX1_placeOf 31 = .ok (.if_icmp .gt 32, 3) := by decide +kernel
theorem dX1_placeOf_34 : decode cX1_placeOf 34 = .ok (.aload_n 0, 1) := by decide +kernel
theorem dX1_placeOf_35 : decode cX1_placeOf 35 = .ok (.getfield 26, 3) := by decide +kernel
theorem dX1_placeOf_38 : decode cX1_placeOf 38 = .ok (.iload 5, 2) := by decide +kernel
theorem dX1_placeOf_40 : decode cX1_placeOf 40 = .ok (.iaload, 1) := by decide +kernel
theorem dX1_placeOf_41 : decode cX1_placeOf 41 = .ok (.iload_n 1, 1) := by decide +kernel
theorem dX1_placeOf_42 : decode cX1_placeOf 42 = .ok (.if_icmp .ne 15, 3) := by decide +kernel
theorem dX1_placeOf_45 : decode cX1_placeOf 45 = .ok (.iload 4, 2) := by decide +kernel
theorem dX1_placeOf_47 : decode cX1_placeOf 47 = .ok (.iload_n 3, 1) := by decide +kernel
theorem dX1_placeOf_48 : decode cX1_placeOf 48 = .ok (.if_icmp .ne 6, 3) := by decide +kernel
theorem dX1_placeOf_51 : decode cX1_placeOf 51 = .ok (.iload 5, 2) := by decide +kernel
theorem dX1_placeOf_53 : decode cX1_placeOf 53 = .ok (.ireturn, 1) := by decide +kernel
theorem dX1_placeOf_54 : decode cX1_placeOf 54 = .ok (.iinc 4 1, 3) := by decide +kernel
theorem dX1_placeOf_57 : decode cX1_placeOf 57 = .ok (.iinc 5 1, 3) := by decide +kernel
theorem dX1_placeOf_60 : decode cX1_placeOf 60 = .ok (.goto (-54), 3) := by decide +kernel
theorem dX1_placeOf_63 : decode cX1_placeOf 63 = .ok (.iconst (-1), 1) := by decide +kernel
theorem dX1_placeOf_64 : decode cX1_placeOf 64 = .ok (.ireturn, 1) := by decide +kernel
theorem dX1_holds_0 : decode cX1_holds 0 = .ok (.iload_n 1, 1) := by decide +kernel
theorem dX1_holds_1 : decode cX1_holds 1 = .ok (.ifCond .lt 22, 3) := by decide +kernel
theorem dX1_holds_4 : decode cX1_holds 4 = .ok (.iload_n 1, 1) := by decide +kernel
theorem dX1_holds_5 : decode cX1_holds 5 = .ok (.aload_n 0, 1) := by decide +kernel
theorem dX1_holds_6 : decode cX1_holds 6 = .ok (.getfield 58, 3) := by decide +kernel
theorem dX1_holds_9 : decode cX1_holds 9 = .ok (.if_icmp .ge 14, 3) := by decide +kernel
theorem dX1_holds_12 : decode cX1_holds 12 = .ok (.iload_n 1, 1) := by decide +kernel
theorem dX1_holds_13 : decode cX1_holds 13 = .ok (.sipush 256, 3) := by decide +kernel
theorem dX1_holds_16 : decode cX1_holds 16 = .ok (.if_icmp .ge 7, 3) := by decide +kernel
theorem dX1_holds_19 : decode cX1_holds 19 = .ok (.iconst 1, 1) := by decide +kernel
theorem dX1_holds_20 : decode cX1_holds 20 = .ok (.goto 4, 3) := by decide +kernel
theorem dX1_holds_23 : decode cX1_holds 23 = .ok (.iconst 0, 1) := by decide +kernel
theorem dX1_holds_24 : decode cX1_holds 24 = .ok (.ireturn, 1) := by decide +kernel
set_option maxRecDepth 20000 in
theorem ggX1_addIfBarredBy_X3_degree : GoodIn wsX1_addIfBarredBy wsX3_degree := goodIn_r _ [8, 9, 10, 7, 11, 12, 13, 14, 15, 16, 17, 18, 19, 20, 21, 22, 23, 24, 25, 26, 27, 28, 29, 30, 31] (by decide +kernel) (by decide +kernel)
set_option maxRecDepth 20000 in
theorem gX1_addIfBarredBy_X3_degree : GoodIn wsX1_addIfBarredBy (va_wsS RX1 60 yX3_degree wsX3_degree) := goodIn_app (goodIn_of _ (by decide +kernel)) ggX1_addIfBarredBy_X3_degree
set_option maxRecDepth 20000 in
theorem ggX1_addIfBarredBy_X7_isDegree : GoodIn wsX1_addIfBarredBy wsX7_isDegree := goodIn_r _ [34] (by decide +kernel) (by decide +kernel)
set_option maxRecDepth 20000 in
theorem gX1_addIfBarredBy_X7_isDegree_n64 : GoodIn wsX1_addIfBarredBy (wsX7_isDegree) := ggX1_addIfBarredBy_X7_isDegree
set_option maxRecDepth 20000 in
theorem ggX1_addIfBarredBy_X3_bar : GoodIn wsX1_addIfBarredBy wsX3_bar := goodIn_r _ [37, 38, 9, 10, 7, 11, 12, 13, 14, 15, 16, 17, 18, 39, 40, 41, 42, 43, 44, 45, 46, 47, 48, 49, 50] (by decide +kernel) (by decide +kernel)
set_option maxRecDepth 20000 in
theorem gX1_addIfBarredBy_X3_bar : GoodIn wsX1_addIfBarredBy (va_wsS RX1 67 yX3_bar wsX3_bar) := goodIn_app (goodIn_of _ (by decide +kernel)) ggX1_addIfBarredBy_X3_bar
set_option maxRecDepth 20000 in
theorem ggX1_addIfBarredBy_X1_copy : GoodIn wsX1_addIfBarredBy wsX1_copy := goodIn_r _ [55, 2, 3, 4, 56, 57, 58, 59, 60, 61] (by decide +kernel) (by decide +kernel)
set_option maxRecDepth 20000 in
theorem gX1_addIfBarredBy_X1_copy : GoodIn wsX1_addIfBarredBy (wsV RX1 70 RX1 yX1_copy wsX1_copy) := goodIn_app (goodIn_of _ (by decide +kernel)) ggX1_addIfBarredBy_X1_copy
theorem dX1_addIfBarredBy_0 : decode cX1_addIfBarredBy 0 = .ok (.lload_n 2, 1) := by decide +kernel
theorem dX1_addIfBarredBy_1 : decode cX1_addIfBarredBy 1 = .ok (.iload_n 1, 1) := by decide +kernel
theorem dX1_addIfBarredBy_2 : decode cX1_addIfBarredBy 2 = .ok (.invokestatic 60, 3) := by decide +kernel
theorem dX1_addIfBarredBy_5 : decode cX1_addIfBarredBy 5 = .ok (.istore 4, 2) := by decide +kernel
theorem dX1_addIfBarredBy_7 : decode cX1_addIfBarredBy 7 = .ok (.iload 4, 2) := by decide +kernel
theorem dX1_addIfBarredBy_9 : decode cX1_addIfBarredBy 9 = .ok (.invokestatic 64, 3) := by decide +kernel
theorem dX1_addIfBarredBy_12 : decode cX1_addIfBarredBy 12 = .ok (.ifCond .eq 29, 3) := by decide +kernel
theorem dX1_addIfBarredBy_15 : decode cX1_addIfBarredBy 15 = .ok (.lload_n 2, 1) := by decide +kernel
theorem dX1_addIfBarredBy_16 : decode cX1_addIfBarredBy 16 = .ok (.iload_n 1, 1) := by decide +kernel
theorem dX1_addIfBarredBy_17 : decode cX1_addIfBarredBy 17 = .ok (.invokestatic 67, 3) := by decide +kernel
theorem dX1_addIfBarredBy_20 : decode cX1_addIfBarredBy 20 = .ok (.iload_n 1, 1) := by decide +kernel
theorem dX1_addIfBarredBy_21 : decode cX1_addIfBarredBy 21 = .ok (.if_icmp .ne 20, 3) := by decide +kernel
theorem dX1_addIfBarredBy_24 : decode cX1_addIfBarredBy 24 = .ok (.aload_n 0, 1) := by decide +kernel
theorem dX1_addIfBarredBy_25 : decode cX1_addIfBarredBy 25 = .ok (.getfield 58, 3) := by decide +kernel
theorem dX1_addIfBarredBy_28 : decode cX1_addIfBarredBy 28 = .ok (.ifCond .lt 13, 3) := by decide +kernel
theorem dX1_addIfBarredBy_31 : decode cX1_addIfBarredBy 31 = .ok (.aload_n 0, 1) := by decide +kernel
theorem dX1_addIfBarredBy_32 : decode cX1_addIfBarredBy 32 = .ok (.getfield 58, 3) := by decide +kernel
theorem dX1_addIfBarredBy_35 : decode cX1_addIfBarredBy 35 = .ok (.sipush 256, 3) := by decide +kernel
theorem dX1_addIfBarredBy_38 : decode cX1_addIfBarredBy 38 = .ok (.if_icmp .lt 4, 3) := by decide +kernel
theorem dX1_addIfBarredBy_41 : decode cX1_addIfBarredBy 41 = .ok (.return_, 1) := by decide +kernel
theorem dX1_addIfBarredBy_42 : decode cX1_addIfBarredBy 42 = .ok (.aload_n 0, 1) := by decide +kernel
theorem dX1_addIfBarredBy_43 : decode cX1_addIfBarredBy 43 = .ok (.getfield 58, 3) := by decide +kernel
theorem dX1_addIfBarredBy_46 : decode cX1_addIfBarredBy 46 = .ok (.istore 5, 2) := by decide +kernel
theorem dX1_addIfBarredBy_48 : decode cX1_addIfBarredBy 48 = .ok (.iload 5, 2) := by decide +kernel
theorem dX1_addIfBarredBy_50 : decode cX1_addIfBarredBy 50 = .ok (.ifCond .le 46, 3) := by decide +kernel
theorem dX1_addIfBarredBy_53 : decode cX1_addIfBarredBy 53 = .ok (.aload_n 0, 1) := by decide +kernel
theorem dX1_addIfBarredBy_54 : decode cX1_addIfBarredBy 54 = .ok (.getfield 18, 3) := by decide +kernel
theorem dX1_addIfBarredBy_57 : decode cX1_addIfBarredBy 57 = .ok (.iload 5, 2) := by decide +kernel
theorem dX1_addIfBarredBy_59 : decode cX1_addIfBarredBy 59 = .ok (.iconst 1, 1) := by decide +kernel
theorem dX1_addIfBarredBy_60 : decode cX1_addIfBarredBy 60 = .ok (.isub, 1) := by decide +kernel
theorem dX1_addIfBarredBy_61 : decode cX1_addIfBarredBy 61 = .ok (.iaload, 1) := by decide +kernel
theorem dX1_addIfBarredBy_62 : decode cX1_addIfBarredBy 62 = .ok (.iload_n 1, 1) := by decide +kernel
theorem dX1_addIfBarredBy_63 : decode cX1_addIfBarredBy 63 = .ok (.if_icmp .ne 33, 3) := by decide +kernel
theorem dX1_addIfBarredBy_66 : decode cX1_addIfBarredBy 66 = .ok (.aload_n 0, 1) := by decide +kernel
theorem dX1_addIfBarredBy_67 : decode cX1_addIfBarredBy 67 = .ok (.getfield 22, 3) := by decide +kernel
theorem dX1_addIfBarredBy_70 : decode cX1_addIfBarredBy 70 = .ok (.iload 5, 2) := by decide +kernel
theorem dX1_addIfBarredBy_72 : decode cX1_addIfBarredBy 72 = .ok (.iconst 1, 1) := by decide +kernel
theorem dX1_addIfBarredBy_73 : decode cX1_addIfBarredBy 73 = .ok (.isub, 1) := by decide +kernel
theorem dX1_addIfBarredBy_74 : decode cX1_addIfBarredBy 74 = .ok (.laload, 1) := by decide +kernel
theorem dX1_addIfBarredBy_75 : decode cX1_addIfBarredBy 75 = .ok (.lload_n 2, 1) := by decide +kernel
theorem dX1_addIfBarredBy_76 : decode cX1_addIfBarredBy 76 = .ok (.lcmp, 1) := by decide +kernel
theorem dX1_addIfBarredBy_77 : decode cX1_addIfBarredBy 77 = .ok (.ifCond .le 19, 3) := by decide +kernel
theorem dX1_addIfBarredBy_80 : decode cX1_addIfBarredBy 80 = .ok (.aload_n 0, 1) := by decide +kernel
theorem dX1_addIfBarredBy_81 : decode cX1_addIfBarredBy 81 = .ok (.iload 5, 2) := by decide +kernel
theorem dX1_addIfBarredBy_83 : decode cX1_addIfBarredBy 83 = .ok (.iconst 1, 1) := by decide +kernel
theorem dX1_addIfBarredBy_84 : decode cX1_addIfBarredBy 84 = .ok (.isub, 1) := by decide +kernel
theorem dX1_addIfBarredBy_85 : decode cX1_addIfBarredBy 85 = .ok (.iload 5, 2) := by decide +kernel
theorem dX1_addIfBarredBy_87 : decode cX1_addIfBarredBy 87 = .ok (.invokevirtual 70, 3) := by decide +kernel
theorem dX1_addIfBarredBy_90 : decode cX1_addIfBarredBy 90 = .ok (.iinc 5 (-1), 3) := by decide +kernel
theorem dX1_addIfBarredBy_93 : decode cX1_addIfBarredBy 93 = .ok (.goto (-45), 3) := by decide +kernel
theorem dX1_addIfBarredBy_96 : decode cX1_addIfBarredBy 96 = .ok (.aload_n 0, 1) := by decide +kernel
theorem dX1_addIfBarredBy_97 : decode cX1_addIfBarredBy 97 = .ok (.getfield 18, 3) := by decide +kernel
theorem dX1_addIfBarredBy_100 : decode cX1_addIfBarredBy 100 = .ok (.iload 5, 2) := by decide +kernel
theorem dX1_addIfBarredBy_102 : decode cX1_addIfBarredBy 102 = .ok (.iload_n 1, 1) := by decide +kernel
theorem dX1_addIfBarredBy_103 : decode cX1_addIfBarredBy 103 = .ok (.iastore, 1) := by decide +kernel
theorem dX1_addIfBarredBy_104 : decode cX1_addIfBarredBy 104 = .ok (.aload_n 0, 1) := by decide +kernel
theorem dX1_addIfBarredBy_105 : decode cX1_addIfBarredBy 105 = .ok (.getfield 22, 3) := by decide +kernel
theorem dX1_addIfBarredBy_108 : decode cX1_addIfBarredBy 108 = .ok (.iload 5, 2) := by decide +kernel
theorem dX1_addIfBarredBy_110 : decode cX1_addIfBarredBy 110 = .ok (.lload_n 2, 1) := by decide +kernel
theorem dX1_addIfBarredBy_111 : decode cX1_addIfBarredBy 111 = .ok (.lastore, 1) := by decide +kernel
theorem dX1_addIfBarredBy_112 : decode cX1_addIfBarredBy 112 = .ok (.aload_n 0, 1) := by decide +kernel
theorem dX1_addIfBarredBy_113 : decode cX1_addIfBarredBy 113 = .ok (.getfield 26, 3) := by decide +kernel
theorem dX1_addIfBarredBy_116 : decode cX1_addIfBarredBy 116 = .ok (.iload 5, 2) := by decide +kernel
theorem dX1_addIfBarredBy_118 : decode cX1_addIfBarredBy 118 = .ok (.iload 4, 2) := by decide +kernel
theorem dX1_addIfBarredBy_120 : decode cX1_addIfBarredBy 120 = .ok (.iastore, 1) := by decide +kernel
theorem dX1_addIfBarredBy_121 : decode cX1_addIfBarredBy 121 = .ok (.aload_n 0, 1) := by decide +kernel
theorem dX1_addIfBarredBy_122 : decode cX1_addIfBarredBy 122 = .ok (.dup, 1) := by decide +kernel
theorem dX1_addIfBarredBy_123 : decode cX1_addIfBarredBy 123 = .ok (.getfield 58, 3) := by decide +kernel
theorem dX1_addIfBarredBy_126 : decode cX1_addIfBarredBy 126 = .ok (.iconst 1, 1) := by decide +kernel
theorem dX1_addIfBarredBy_127 : decode cX1_addIfBarredBy 127 = .ok (.iadd, 1) := by decide +kernel
theorem dX1_addIfBarredBy_128 : decode cX1_addIfBarredBy 128 = .ok (.putfield 58, 3) := by decide +kernel
theorem dX1_addIfBarredBy_131 : decode cX1_addIfBarredBy 131 = .ok (.return_, 1) := by decide +kernel
theorem dX1_copy_0 : decode cX1_copy 0 = .ok (.iload_n 1, 1) := by decide +kernel
theorem dX1_copy_1 : decode cX1_copy 1 = .ok (.ifCond .lt 21, 3) := by decide +kernel
theorem dX1_copy_4 : decode cX1_copy 4 = .ok (.iload_n 2, 1) := by decide +kernel
theorem dX1_copy_5 : decode cX1_copy 5 = .ok (.ifCond .lt 17, 3) := by decide +kernel
theorem dX1_copy_8 : decode cX1_copy 8 = .ok (.iload_n 1, 1) := by decide +kernel
theorem dX1_copy_9 : decode cX1_copy 9 = .ok (.sipush 256, 3) := by decide +kernel
theorem dX1_copy_12 : decode cX1_copy 12 = .ok (.if_icmp .ge 10, 3) := by decide +kernel
theorem dX1_copy_15 : decode cX1_copy 15 = .ok (.iload_n 2, 1) := by decide +kernel
theorem dX1_copy_16 : decode cX1_copy 16 = .ok (.sipush 256, 3) := by decide +kernel
theorem dX1_copy_19 : decode cX1_copy 19 = .ok (.if_icmp .lt 4, 3) := by decide +kernel
theorem dX1_copy_22 : decode cX1_copy 22 = .ok (.return_, 1) := by decide +kernel
theorem dX1_copy_23 : decode cX1_copy 23 = .ok (.aload_n 0, 1) := by decide +kernel
theorem dX1_copy_24 : decode cX1_copy 24 = .ok (.getfield 18, 3) := by decide +kernel
theorem dX1_copy_27 : decode cX1_copy 27 = .ok (.iload_n 2, 1) := by decide +kernel
theorem dX1_copy_28 : decode cX1_copy 28 = .ok (.aload_n 0, 1) := by decide +kernel
theorem dX1_copy_29 : decode cX1_copy 29 = .ok (.getfield 18, 3) := by decide +kernel
theorem dX1_copy_32 : decode cX1_copy 32 = .ok (.iload_n 1, 1) := by decide +kernel
theorem dX1_copy_33 : decode cX1_copy 33 = .ok (.iaload, 1) := by decide +kernel
theorem dX1_copy_34 : decode cX1_copy 34 = .ok (.iastore, 1) := by decide +kernel
theorem dX1_copy_35 : decode cX1_copy 35 = .ok (.aload_n 0, 1) := by decide +kernel
theorem dX1_copy_36 : decode cX1_copy 36 = .ok (.getfield 22, 3) := by decide +kernel
theorem dX1_copy_39 : decode cX1_copy 39 = .ok (.iload_n 2, 1) := by decide +kernel
theorem dX1_copy_40 : decode cX1_copy 40 = .ok (.aload_n 0, 1) := by decide +kernel
theorem dX1_copy_41 : decode cX1_copy 41 = .ok (.getfield 22, 3) := by decide +kernel
theorem dX1_copy_44 : decode cX1_copy 44 = .ok (.iload_n 1, 1) := by decide +kernel
theorem dX1_copy_45 : decode cX1_copy 45 = .ok (.laload, 1) := by decide +kernel
theorem dX1_copy_46 : decode cX1_copy 46 = .ok (.lastore, 1) := by decide +kernel
theorem dX1_copy_47 : decode cX1_copy 47 = .ok (.aload_n 0, 1) := by decide +kernel
theorem dX1_copy_48 : decode cX1_copy 48 = .ok (.getfield 26, 3) := by decide +kernel
theorem dX1_copy_51 : decode cX1_copy 51 = .ok (.iload_n 2, 1) := by decide +kernel
theorem dX1_copy_52 : decode cX1_copy 52 = .ok (.aload_n 0, 1) := by decide +kernel
theorem dX1_copy_53 : decode cX1_copy 53 = .ok (.getfield 26, 3) := by decide +kernel
theorem dX1_copy_56 : decode cX1_copy 56 = .ok (.iload_n 1, 1) := by decide +kernel
theorem dX1_copy_57 : decode cX1_copy 57 = .ok (.iaload, 1) := by decide +kernel
theorem dX1_copy_58 : decode cX1_copy 58 = .ok (.iastore, 1) := by decide +kernel
theorem dX1_copy_59 : decode cX1_copy 59 = .ok (.return_, 1) := by decide +kernel
theorem dX2_init_0 : decode cX2_init 0 = .ok (.aload_n 0, 1) := by decide +kernel
theorem dX2_init_1 : decode cX2_init 1 = .ok (.invokespecial 3, 3) := by decide +kernel
theorem dX2_init_4 : decode cX2_init 4 = .ok (.aload_n 0, 1) := by decide +kernel
theorem dX2_init_5 : decode cX2_init 5 = .ok (.iconst 4, 1) := by decide +kernel
theorem dX2_init_6 : decode cX2_init 6 = .ok (.newarray .int, 2) := by decide +kernel
theorem dX2_init_8 : decode cX2_init 8 = .ok (.putfield 11, 3) := by decide +kernel
theorem dX2_init_11 : decode cX2_init 11 = .ok (.return_, 1) := by decide +kernel
set_option maxRecDepth 20000 in
theorem ggX2_find_X6_goesInto : GoodIn wsX2_find wsX6_goesInto := goodIn_r _ [5] (by decide +kernel) (by decide +kernel)
set_option maxRecDepth 20000 in
theorem gX2_find_X6_goesInto : GoodIn wsX2_find (va_wsS RX2 19 yX6_goesInto wsX6_goesInto) := goodIn_app (goodIn_of _ (by decide +kernel)) ggX2_find_X6_goesInto
set_option maxRecDepth 20000 in
theorem ggX2_find_X6_isPrime : GoodIn wsX2_find wsX6_isPrime := goodIn_r _ [8, 9, 3, 4, 5] (by decide +kernel) (by decide +kernel)
set_option maxRecDepth 20000 in
theorem gX2_find_X6_isPrime : GoodIn wsX2_find (va_wsS RX2 25 yX6_isPrime wsX6_isPrime) := goodIn_app (goodIn_of _ (by decide +kernel)) ggX2_find_X6_isPrime
set_option maxRecDepth 20000 in
theorem ggX2_find_X6_without : GoodIn wsX2_find wsX6_without := goodIn_r _ [12, 13, 14, 4, 15, 9, 3, 5, 16, 17, 18] (by decide +kernel) (by decide +kernel)
set_option maxRecDepth 20000 in
theorem gX2_find_X6_without : GoodIn wsX2_find (va_wsS RX2 29 yX6_without wsX6_without) := goodIn_app (goodIn_of _ (by decide +kernel)) ggX2_find_X6_without
set_option maxRecDepth 20000 in
theorem ggX2_find_X6_quotient : GoodIn wsX2_find wsX6_quotient := goodIn_r _ [18] (by decide +kernel) (by decide +kernel)
set_option maxRecDepth 20000 in
theorem gX2_find_X6_quotient : GoodIn wsX2_find (va_wsS RX2 33 yX6_quotient wsX6_quotient) := goodIn_app (goodIn_of _ (by decide +kernel)) ggX2_find_X6_quotient
set_option maxRecDepth 20000 in
theorem ggX2_find_X2_addThoseBy : GoodIn wsX2_find wsX2_addThoseBy := goodIn_r _ [24, 25, 26, 27, 28, 29, 30, 4, 31, 32, 33, 34, 35, 36, 37, 38, 39, 40, 41, 42, 43, 44, 45, 46, 47, 23, 48, 1, 49, 19, 17, 18, 59, 60] (by decide +kernel) (by decide +kernel)
set_option maxRecDepth 20000 in
theorem gX2_find_X2_addThoseBy : GoodIn wsX2_find (wsV RX2 36 RX2 yX2_addThoseBy wsX2_addThoseBy) := goodIn_app (goodIn_of _ (by decide +kernel)) ggX2_find_X2_addThoseBy
set_option maxRecDepth 20000 in
theorem ggX2_find_X2_split : GoodIn wsX2_find wsX2_split := goodIn_r _ [53, 49, 54, 30, 4, 31, 55, 56, 57, 58, 16, 17, 18, 59, 60] (by decide +kernel) (by decide +kernel)
set_option maxRecDepth 20000 in
theorem gX2_find_X2_split : GoodIn wsX2_find (wsV RX2 40 RX2 yX2_split wsX2_split) := goodIn_app (goodIn_of _ (by decide +kernel)) ggX2_find_X2_split
theorem dX2_find_0 : decode cX2_find 0 = .ok (.aload_n 0, 1) := by decide +kernel
theorem dX2_find_1 : decode cX2_find 1 = .ok (.iconst 0, 1) := by decide +kernel
theorem dX2_find_2 : decode cX2_find 2 = .ok (.putfield 15, 3) := by decide +kernel
theorem dX2_find_5 : decode cX2_find 5 = .ok (.iconst 2, 1) := by decide +kernel
theorem dX2_find_6 : decode cX2_find 6 = .ok (.istore_n 2, 1) := by decide +kernel
theorem dX2_find_7 : decode cX2_find 7 = .ok (.iload_n 2, 1) := by decide +kernel
theorem dX2_find_8 : decode cX2_find 8 = .ok (.iload_n 1, 1) := by decide +kernel
theorem dX2_find_9 : decode cX2_find 9 = .ok (.if_icmp .gt 38, 3) := by decide +kernel
theorem dX2_find_12 : decode cX2_find 12 = .ok (.iload_n 2, 1) := by decide +kernel
theorem dX2_find_13 : decode cX2_find 13 = .ok (.iload_n 1, 1) := by decide +kernel
theorem dX2_find_14 : decode cX2_find 14 = .ok (.invokestatic 19, 3) := by decide +kernel
theorem dX2_find_17 : decode cX2_find 17 = .ok (.ifCond .eq 24, 3) := by decide +kernel
theorem dX2_find_20 : decode cX2_find 20 = .ok (.iload_n 2, 1) := by decide +kernel
theorem dX2_find_21 : decode cX2_find 21 = .ok (.invokestatic 25, 3) := by decide +kernel
theorem dX2_find_24 : decode cX2_find 24 = .ok (.ifCond .eq 17, 3) := by decide +kernel
theorem dX2_find_27 : decode cX2_find 27 = .ok (.aload_n 0, 1) := by decide +kernel
theorem dX2_find_28 : decode cX2_find 28 = .ok (.iload_n 2, 1) := by decide +kernel
theorem dX2_find_29 : decode cX2_find 29 = .ok (.iload_n 1, 1) := by decide +kernel
theorem dX2_find_30 : decode cX2_find 30 = .ok (.iload_n 1, 1) := by decide +kernel
theorem dX2_find_31 : decode cX2_find 31 = .ok (.iload_n 2, 1) := by decide +kernel
theorem dX2_find_32 : decode cX2_find 32 = .ok (.invokestatic 29, 3) := by decide +kernel
theorem dX2_find_35 : decode cX2_find 35 = .ok (.invokestatic 33, 3) := by decide +kernel
theorem dX2_find_38 : decode cX2_find 38 = .ok (.invokevirtual 36, 3) := by decide +kernel
theorem dX2_find_41 : decode cX2_find 41 = .ok (.iinc 2 1, 3) := by decide +kernel
theorem dX2_find_44 : decode cX2_find 44 = .ok (.goto (-37), 3) := by decide +kernel
theorem dX2_find_47 : decode cX2_find 47 = .ok (.iconst 0, 1) := by decide +kernel
theorem dX2_find_48 : decode cX2_find 48 = .ok (.istore_n 2, 1) := by decide +kernel
theorem dX2_find_49 : decode cX2_find 49 = .ok (.iload_n 2, 1) := by decide +kernel
theorem dX2_find_50 : decode cX2_find 50 = .ok (.aload_n 0, 1) := by decide +kernel
theorem dX2_find_51 : decode cX2_find 51 = .ok (.getfield 15, 3) := by decide +kernel
theorem dX2_find_54 : decode cX2_find 54 = .ok (.if_icmp .ge 33, 3) := by decide +kernel
theorem dX2_find_57 : decode cX2_find 57 = .ok (.iload_n 2, 1) := by decide +kernel
theorem dX2_find_58 : decode cX2_find 58 = .ok (.iconst 1, 1) := by decide +kernel
theorem dX2_find_59 : decode cX2_find 59 = .ok (.iadd, 1) := by decide +kernel
theorem dX2_find_60 : decode cX2_find 60 = .ok (.istore_n 3, 1) := by decide +kernel
theorem dX2_find_61 : decode cX2_find 61 = .ok (.iload_n 3, 1) := by decide +kernel
theorem dX2_find_62 : decode cX2_find 62 = .ok (.aload_n 0, 1) := by decide +kernel
theorem dX2_find_63 : decode cX2_find 63 = .ok (.getfield 15, 3) := by decide +kernel
theorem dX2_find_66 : decode cX2_find 66 = .ok (.if_icmp .ge 15, 3) := by decide +kernel
theorem dX2_find_69 : decode cX2_find 69 = .ok (.aload_n 0, 1) := by decide +kernel
theorem dX2_find_70 : decode cX2_find 70 = .ok (.iload_n 2, 1) := by decide +kernel
theorem dX2_find_71 : decode cX2_find 71 = .ok (.iload_n 3, 1) := by decide +kernel
theorem dX2_find_72 : decode cX2_find 72 = .ok (.invokevirtual 40, 3) := by decide +kernel
theorem dX2_find_75 : decode cX2_find 75 = .ok (.iinc 3 1, 3) := by decide +kernel
theorem dX2_find_78 : decode cX2_find 78 = .ok (.goto (-17), 3) := by decide +kernel
theorem dX2_find_81 : decode cX2_find 81 = .ok (.iinc 2 1, 3) := by decide +kernel
theorem dX2_find_84 : decode cX2_find 84 = .ok (.goto (-35), 3) := by decide +kernel
theorem dX2_find_87 : decode cX2_find 87 = .ok (.return_, 1) := by decide +kernel
theorem dX2_above1_0 : decode cX2_above1 0 = .ok (.iconst 0, 1) := by decide +kernel
theorem dX2_above1_1 : decode cX2_above1 1 = .ok (.istore_n 2, 1) := by decide +kernel
theorem dX2_above1_2 : decode cX2_above1 2 = .ok (.iconst 0, 1) := by decide +kernel
theorem dX2_above1_3 : decode cX2_above1 3 = .ok (.istore_n 3, 1) := by decide +kernel
theorem dX2_above1_4 : decode cX2_above1 4 = .ok (.iload_n 3, 1) := by decide +kernel
theorem dX2_above1_5 : decode cX2_above1 5 = .ok (.aload_n 0, 1) := by decide +kernel
theorem dX2_above1_6 : decode cX2_above1 6 = .ok (.getfield 15, 3) := by decide +kernel
theorem dX2_above1_9 : decode cX2_above1 9 = .ok (.if_icmp .ge 39, 3) := by decide +kernel
theorem dX2_above1_12 : decode cX2_above1 12 = .ok (.iload_n 3, 1) := by decide +kernel
theorem dX2_above1_13 : decode cX2_above1 13 = .ok (.iconst 4, 1) := by decide +kernel
theorem dX2_above1_14 : decode cX2_above1 14 = .ok (.if_icmp .ge 34, 3) := by decide +kernel
theorem dX2_above1_17 : decode cX2_above1 17 = .ok (.aload_n 0, 1) := by decide +kernel
theorem dX2_above1_18 : decode cX2_above1 18 = .ok (.getfield 11, 3) := by decide +kernel
theorem dX2_above1_21 : decode cX2_above1 21 = .ok (.iload_n 3, 1) := by decide +kernel
theorem dX2_above1_22 : decode cX2_above1 22 = .ok (.iaload, 1) := by decide +kernel
theorem dX2_above1_23 : decode cX2_above1 23 = .ok (.iconst 1, 1) := by decide +kernel
theorem dX2_above1_24 : decode cX2_above1 24 = .ok (.if_icmp .le 18, 3) := by decide +kernel
theorem dX2_above1_27 : decode cX2_above1 27 = .ok (.iload_n 2, 1) := by decide +kernel
theorem dX2_above1_28 : decode cX2_above1 28 = .ok (.iload_n 1, 1) := by decide +kernel
theorem dX2_above1_29 : decode cX2_above1 29 = .ok (.if_icmp .ne 10, 3) := by decide +kernel
theorem dX2_above1_32 : decode cX2_above1 32 = .ok (.aload_n 0, 1) := by decide +kernel
theorem dX2_above1_33 : decode cX2_above1 33 = .ok (.getfield 11, 3) := by decide +kernel
theorem dX2_above1_36 : decode cX2_above1 36 = .ok (.iload_n 3, 1) := by decide +kernel
theorem dX2_above1_37 : decode cX2_above1 37 = .ok (.iaload, 1) := by decide +kernel
theorem dX2_above1_38 : decode cX2_above1 38 = .ok (.ireturn, 1) := by decide +kernel
theorem dX2_above1_39 : decode cX2_above1 39 = .ok (.iinc 2 1, 3) := by decide +kernel
theorem dX2_above1_42 : decode cX2_above1 42 = .ok (.iinc 3 1, 3) := by decide +kernel
theorem dX2_above1_45 : decode cX2_above1 45 = .ok (.goto (-41), 3) := by decide +kernel
theorem dX2_above1_48 : decode cX2_above1 48 = .ok (.iconst (-1), 1) := by decide +kernel
theorem dX2_above1_49 : decode cX2_above1 49 = .ok (.ireturn, 1) := by decide +kernel
set_option maxRecDepth 20000 in
theorem ggX2_addThoseBy_X3_all : GoodIn wsX2_addThoseBy wsX3_all := goodIn_r _ [4, 5, 6, 7, 8, 9, 10, 3, 11] (by decide +kernel) (by decide +kernel)
set_option maxRecDepth 20000 in
theorem gX2_addThoseBy_X3_all : GoodIn wsX2_addThoseBy (va_wsS RX2 43 yX3_all wsX3_all) := goodIn_app (goodIn_of _ (by decide +kernel)) ggX2_addThoseBy_X3_all
set_option maxRecDepth 20000 in
theorem ggX2_addThoseBy_X3_size : GoodIn wsX2_addThoseBy wsX3_size := goodIn_r _ [14, 15, 16, 17, 18, 19, 20, 21] (by decide +kernel) (by decide +kernel)
set_option maxRecDepth 20000 in
theorem gX2_addThoseBy_X3_size : GoodIn wsX2_addThoseBy (va_wsS RX2 49 yX3_size wsX3_size) := goodIn_app (goodIn_of _ (by decide +kernel)) ggX2_addThoseBy_X3_size
set_option maxRecDepth 20000 in
theorem ggX2_addThoseBy_X2_add : GoodIn wsX2_addThoseBy wsX2_add := goodIn_r _ [26, 27, 28, 32, 33] (by decide +kernel) (by decide +kernel)
set_option maxRecDepth 20000 in
theorem gX2_addThoseBy_X2_add : GoodIn wsX2_addThoseBy (wsV RX2 52 RX2 yX2_add wsX2_add) := goodIn_app (goodIn_of _ (by decide +kernel)) ggX2_addThoseBy_X2_add
set_option maxRecDepth 20000 in
theorem ggX2_addThoseBy_X6_quotient : GoodIn wsX2_addThoseBy wsX6_quotient := goodIn_r _ [31] (by decide +kernel) (by decide +kernel)
set_option maxRecDepth 20000 in
theorem gX2_addThoseBy_X6_quotient : GoodIn wsX2_addThoseBy (va_wsS RX2 33 yX6_quotient wsX6_quotient) := goodIn_app (goodIn_of _ (by decide +kernel)) ggX2_addThoseBy_X6_quotient
theorem dX2_addThoseBy_0 : decode cX2_addThoseBy 0 = .ok (.iload_n 2, 1) := by decide +kernel
theorem dX2_addThoseBy_1 : decode cX2_addThoseBy 1 = .ok (.invokestatic 43, 3) := by decide +kernel
theorem dX2_addThoseBy_4 : decode cX2_addThoseBy 4 = .ok (.invokestatic 49, 3) := by decide +kernel
theorem dX2_addThoseBy_7 : decode cX2_addThoseBy 7 = .ok (.istore_n 3, 1) := by decide +kernel
theorem dX2_addThoseBy_8 : decode cX2_addThoseBy 8 = .ok (.iload_n 1, 1) := by decide +kernel
theorem dX2_addThoseBy_9 : decode cX2_addThoseBy 9 = .ok (.iconst 2, 1) := by decide +kernel
theorem dX2_addThoseBy_10 : decode cX2_addThoseBy 10 = .ok (.if_icmp .ne 25, 3) := by decide +kernel
theorem dX2_addThoseBy_13 : decode cX2_addThoseBy 13 = .ok (.iload_n 2, 1) := by decide +kernel
theorem dX2_addThoseBy_14 : decode cX2_addThoseBy 14 = .ok (.iconst 4, 1) := by decide +kernel
theorem dX2_addThoseBy_15 : decode cX2_addThoseBy 15 = .ok (.if_icmp .le 20, 3) := by decide +kernel
theorem dX2_addThoseBy_18 : decode cX2_addThoseBy 18 = .ok (.aload_n 0, 1) := by decide +kernel
theorem dX2_addThoseBy_19 : decode cX2_addThoseBy 19 = .ok (.iconst 2, 1) := by decide +kernel
