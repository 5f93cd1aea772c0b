theorem dX7_discriminant_24 : decode cX7_discriminant 24 = .ok (.iload_n 1, 1) := by decide +kernel
theorem dX7_discriminant_25 : decode cX7_discriminant 25 = .ok (.invokevirtual 109, 3) := by decide +kernel
theorem dX7_discriminant_28 : decode cX7_discriminant 28 = .ok (.istore_n 3, 1) := by decide +kernel
theorem dX7_discriminant_29 : decode cX7_discriminant 29 = .ok (.aload_n 0, 1) := by decide +kernel
theorem dX7_discriminant_30 : decode cX7_discriminant 30 = .ok (.getfield 30, 3) := by decide +kernel
theorem dX7_discriminant_33 : decode cX7_discriminant 33 = .ok (.aload_n 0, 1) := by decide +kernel
theorem dX7_discriminant_34 : decode cX7_discriminant 34 = .ok (.getfield 10, 3) := by decide +kernel
theorem dX7_discriminant_37 : decode cX7_discriminant 37 = .ok (.iload_n 1, 1) := by decide +kernel
theorem dX7_discriminant_38 : decode cX7_discriminant 38 = .ok (.invokevirtual 118, 3) := by decide +kernel
theorem dX7_discriminant_41 : decode cX7_discriminant 41 = .ok (.iload_n 3, 1) := by decide +kernel
theorem dX7_discriminant_42 : decode cX7_discriminant 42 = .ok (.invokevirtual 133, 3) := by decide +kernel
theorem dX7_discriminant_45 : decode cX7_discriminant 45 = .ok (.iconst 0, 1) := by decide +kernel
theorem dX7_discriminant_46 : decode cX7_discriminant 46 = .ok (.istore 4, 2) := by decide +kernel
theorem dX7_discriminant_48 : decode cX7_discriminant 48 = .ok (.iconst 0, 1) := by decide +kernel
theorem dX7_discriminant_49 : decode cX7_discriminant 49 = .ok (.istore 5, 2) := by decide +kernel
theorem dX7_discriminant_51 : decode cX7_discriminant 51 = .ok (.iload 5, 2) := by decide +kernel
theorem dX7_discriminant_53 : decode cX7_discriminant 53 = .ok (.aload_n 0, 1) := by decide +kernel
theorem dX7_discriminant_54 : decode cX7_discriminant 54 = .ok (.getfield 30, 3) := by decide +kernel
theorem dX7_discriminant_57 : decode cX7_discriminant 57 = .ok (.invokevirtual 136, 3) := by decide +kernel
theorem dX7_discriminant_60 : decode cX7_discriminant 60 = .ok (.if_icmp .ge 45, 3) := by decide +kernel
theorem dX7_discriminant_63 : decode cX7_discriminant 63 = .ok (.iload 4, 2) := by decide +kernel
theorem dX7_discriminant_65 : decode cX7_discriminant 65 = .ok (.aload_n 0, 1) := by decide +kernel
theorem dX7_discriminant_66 : decode cX7_discriminant 66 = .ok (.getfield 30, 3) := by decide +kernel
theorem dX7_discriminant_69 : decode cX7_discriminant 69 = .ok (.iload 5, 2) := by decide +kernel
theorem dX7_discriminant_71 : decode cX7_discriminant 71 = .ok (.invokevirtual 157, 3) := by decide +kernel
theorem dX7_discriminant_74 : decode cX7_discriminant 74 = .ok (.iload_n 3, 1) := by decide +kernel
theorem dX7_discriminant_75 : decode cX7_discriminant 75 = .ok (.invokestatic 160, 3) := by decide +kernel
theorem dX7_discriminant_78 : decode cX7_discriminant 78 = .ok (.iload_n 2, 1) := by decide +kernel
theorem dX7_discriminant_79 : decode cX7_discriminant 79 = .ok (.aload_n 0, 1) := by decide +kernel
theorem dX7_discriminant_80 : decode cX7_discriminant 80 = .ok (.getfield 30, 3) := by decide +kernel
theorem dX7_discriminant_83 : decode cX7_discriminant 83 = .ok (.iload 5, 2) := by decide +kernel
theorem dX7_discriminant_85 : decode cX7_discriminant 85 = .ok (.invokevirtual 157, 3) := by decide +kernel
theorem dX7_discriminant_88 : decode cX7_discriminant 88 = .ok (.iload_n 3, 1) := by decide +kernel
theorem dX7_discriminant_89 : decode cX7_discriminant 89 = .ok (.invokestatic 163, 3) := by decide +kernel
theorem dX7_discriminant_92 : decode cX7_discriminant 92 = .ok (.invokestatic 166, 3) := by decide +kernel
theorem dX7_discriminant_95 : decode cX7_discriminant 95 = .ok (.imul, 1) := by decide +kernel
theorem dX7_discriminant_96 : decode cX7_discriminant 96 = .ok (.iadd, 1) := by decide +kernel
theorem dX7_discriminant_97 : decode cX7_discriminant 97 = .ok (.istore 4, 2) := by decide +kernel
theorem dX7_discriminant_99 : decode cX7_discriminant 99 = .ok (.iinc 5 1, 3) := by decide +kernel
theorem dX7_discriminant_102 : decode cX7_discriminant 102 = .ok (.goto (-51), 3) := by decide +kernel
theorem dX7_discriminant_105 : decode cX7_discriminant 105 = .ok (.iload 4, 2) := by decide +kernel
theorem dX7_discriminant_107 : decode cX7_discriminant 107 = .ok (.ireturn, 1) := by decide +kernel
set_option maxRecDepth 20000 in
theorem ggX7_list_X7_isDegree : GoodIn wsX7_list wsX7_isDegree := goodIn_r _ [5] (by decide +kernel) (by decide +kernel)
set_option maxRecDepth 20000 in
theorem gX7_list_X7_isDegree : GoodIn wsX7_list (va_wsS RX7 169 yX7_isDegree wsX7_isDegree) := goodIn_app (goodIn_of _ (by decide +kernel)) ggX7_list_X7_isDegree
set_option maxRecDepth 20000 in
theorem ggX7_list_X7_isM : GoodIn wsX7_list wsX7_isM := goodIn_r _ [8] (by decide +kernel) (by decide +kernel)
set_option maxRecDepth 20000 in
theorem gX7_list_X7_isM : GoodIn wsX7_list (va_wsS RX7 48 yX7_isM wsX7_isM) := goodIn_app (goodIn_of _ (by decide +kernel)) ggX7_list_X7_isM
set_option maxRecDepth 20000 in
theorem ggX7_list_X1_fillTo : GoodIn wsX7_list wsX1_fillTo := goodIn_r _ [13, 14, 15, 16, 17, 18, 19, 20, 21, 22, 23, 24, 25, 26, 27, 28, 29, 30, 31, 32, 33, 34, 35, 36, 37, 38, 39, 40, 41, 42, 43, 44, 45, 46, 47, 48, 49, 50, 51, 52, 53, 54, 55, 56, 57, 58, 59, 60, 61, 62, 63, 64, 65, 66, 67, 68, 69, 70, 12, 71, 72, 73, 74, 75, 76, 77, 78, 79, 80, 81, 82, 83, 84, 85, 86, 87, 88, 89, 90, 91, 92, 3, 4, 5, 93, 94, 95, 96, 97, 98, 99, 100, 101, 102, 103, 104, 105, 106, 117, 118, 119, 120, 121, 122, 123, 124] (by decide +kernel) (by decide +kernel)
set_option maxRecDepth 20000 in
theorem gX7_list_X1_fillTo : GoodIn wsX7_list (wsV RX7 172 RX1 yX1_fillTo wsX1_fillTo) := goodIn_app (goodIn_of _ (by decide +kernel)) ggX7_list_X1_fillTo
set_option maxRecDepth 20000 in
theorem ggX7_list_X1_howMany : GoodIn wsX7_list wsX1_howMany := goodIn_r _ [110, 72, 73, 75, 117, 118, 119, 120, 121, 122] (by decide +kernel) (by decide +kernel)
set_option maxRecDepth 20000 in
theorem gX7_list_X1_howMany : GoodIn wsX7_list (wsV RX7 175 RX1 yX1_howMany wsX1_howMany) := goodIn_app (goodIn_of _ (by decide +kernel)) ggX7_list_X1_howMany
theorem dX7_list_0 : decode cX7_list 0 = .ok (.iload_n 1, 1) := by decide +kernel
theorem dX7_list_1 : decode cX7_list 1 = .ok (.invokestatic 169, 3) := by decide +kernel
theorem dX7_list_4 : decode cX7_list 4 = .ok (.ifCond .eq 10, 3) := by decide +kernel
theorem dX7_list_7 : decode cX7_list 7 = .ok (.iload_n 2, 1) := by decide +kernel
theorem dX7_list_8 : decode cX7_list 8 = .ok (.invokestatic 48, 3) := by decide +kernel
theorem dX7_list_11 : decode cX7_list 11 = .ok (.ifCond .ne 5, 3) := by decide +kernel
theorem dX7_list_14 : decode cX7_list 14 = .ok (.iconst (-1), 1) := by decide +kernel
theorem dX7_list_15 : decode cX7_list 15 = .ok (.ireturn, 1) := by decide +kernel
theorem dX7_list_16 : decode cX7_list 16 = .ok (.aload_n 0, 1) := by decide +kernel
theorem dX7_list_17 : decode cX7_list 17 = .ok (.getfield 37, 3) := by decide +kernel
theorem dX7_list_20 : decode cX7_list 20 = .ok (.iload_n 2, 1) := by decide +kernel
theorem dX7_list_21 : decode cX7_list 21 = .ok (.invokevirtual 172, 3) := by decide +kernel
theorem dX7_list_24 : decode cX7_list 24 = .ok (.aload_n 0, 1) := by decide +kernel
theorem dX7_list_25 : decode cX7_list 25 = .ok (.getfield 37, 3) := by decide +kernel
theorem dX7_list_28 : decode cX7_list 28 = .ok (.iload_n 1, 1) := by decide +kernel
theorem dX7_list_29 : decode cX7_list 29 = .ok (.iload_n 2, 1) := by decide +kernel
theorem dX7_list_30 : decode cX7_list 30 = .ok (.invokevirtual 175, 3) := by decide +kernel
theorem dX7_list_33 : decode cX7_list 33 = .ok (.ireturn, 1) := by decide +kernel
set_option maxRecDepth 20000 in
theorem ggX7_listed_X7_isDegree : GoodIn wsX7_listed wsX7_isDegree := goodIn_r _ [6] (by decide +kernel) (by decide +kernel)
set_option maxRecDepth 20000 in
theorem gX7_listed_X7_isDegree : GoodIn wsX7_listed (va_wsS RX7 169 yX7_isDegree wsX7_isDegree) := goodIn_app (goodIn_of _ (by decide +kernel)) ggX7_listed_X7_isDegree
set_option maxRecDepth 20000 in
theorem ggX7_listed_X7_isM : GoodIn wsX7_listed wsX7_isM := goodIn_r _ [9] (by decide +kernel) (by decide +kernel)
set_option maxRecDepth 20000 in
theorem gX7_listed_X7_isM : GoodIn wsX7_listed (va_wsS RX7 48 yX7_isM wsX7_isM) := goodIn_app (goodIn_of _ (by decide +kernel)) ggX7_listed_X7_isM
set_option maxRecDepth 20000 in
theorem ggX7_listed_X1_fillTo : GoodIn wsX7_listed wsX1_fillTo := goodIn_r _ [14, 15, 16, 17, 18, 19, 20, 21, 22, 23, 24, 25, 26, 27, 28, 29, 30, 31, 32, 33, 34, 35, 36, 37, 38, 39, 40, 41, 42, 43, 44, 45, 46, 47, 48, 49, 50, 51, 52, 53, 54, 55, 56, 57, 58, 59, 60, 61, 62, 63, 64, 65, 66, 67, 68, 69, 70, 71, 13, 72, 73, 74, 75, 76, 77, 78, 79, 80, 81, 82, 83, 84, 85, 86, 87, 88, 89, 90, 91, 92, 93, 4, 5, 6, 94, 95, 96, 97, 98, 99, 100, 101, 102, 103, 104, 105, 106, 107, 138, 139, 140, 141, 142, 143, 144, 145] (by decide +kernel) (by decide +kernel)
set_option maxRecDepth 20000 in
theorem gX7_listed_X1_fillTo : GoodIn wsX7_listed (wsV RX7 172 RX1 yX1_fillTo wsX1_fillTo) := goodIn_app (goodIn_of _ (by decide +kernel)) ggX7_listed_X1_fillTo
set_option maxRecDepth 20000 in
theorem ggX7_listed_X1_placeOf : GoodIn wsX7_listed wsX1_placeOf := goodIn_r _ [111, 73, 74, 76, 138, 139, 140, 141, 142, 143] (by decide +kernel) (by decide +kernel)
set_option maxRecDepth 20000 in
theorem gX7_listed_X1_placeOf : GoodIn wsX7_listed (wsV RX7 178 RX1 yX1_placeOf wsX1_placeOf) := goodIn_app (goodIn_of _ (by decide +kernel)) ggX7_listed_X1_placeOf
set_option maxRecDepth 20000 in
theorem ggX7_listed_X1_barAt : GoodIn wsX7_listed wsX1_barAt := goodIn_r _ [115, 74, 116, 117, 118, 13, 119, 73, 138, 139, 140, 141, 142, 143] (by decide +kernel) (by decide +kernel)
set_option maxRecDepth 20000 in
theorem gX7_listed_X1_barAt : GoodIn wsX7_listed (wsV RX7 182 RX1 yX1_barAt wsX1_barAt) := goodIn_app (goodIn_of _ (by decide +kernel)) ggX7_listed_X1_barAt
set_option maxRecDepth 20000 in
theorem ggX7_listed_X1_bitsAt : GoodIn wsX7_listed wsX1_bitsAt := goodIn_r _ [123, 75, 116, 117, 118, 13, 119, 73, 138, 139, 140, 141, 142, 143] (by decide +kernel) (by decide +kernel)
set_option maxRecDepth 20000 in
theorem gX7_listed_X1_bitsAt : GoodIn wsX7_listed (wsV RX7 185 RX1 yX1_bitsAt wsX1_bitsAt) := goodIn_app (goodIn_of _ (by decide +kernel)) ggX7_listed_X1_bitsAt
set_option maxRecDepth 20000 in
theorem ggX7_listed_X4_put : GoodIn wsX7_listed wsX4_put := goodIn_r _ [128, 129, 130, 131, 146, 147, 148] (by decide +kernel) (by decide +kernel)
set_option maxRecDepth 20000 in
theorem gX7_listed_X4_put : GoodIn wsX7_listed (wsV RX7 188 RX4 yX4_put wsX4_put) := goodIn_app (goodIn_of _ (by decide +kernel)) ggX7_listed_X4_put
theorem dX7_listed_0 : decode cX7_listed 0 = .ok (.iload_n 1, 1) := by decide +kernel
theorem dX7_listed_1 : decode cX7_listed 1 = .ok (.invokestatic 169, 3) := by decide +kernel
theorem dX7_listed_4 : decode cX7_listed 4 = .ok (.ifCond .eq 14, 3) := by decide +kernel
theorem dX7_listed_7 : decode cX7_listed 7 = .ok (.iload_n 2, 1) := by decide +kernel
theorem dX7_listed_8 : decode cX7_listed 8 = .ok (.invokestatic 48, 3) := by decide +kernel
theorem dX7_listed_11 : decode cX7_listed 11 = .ok (.ifCond .eq 7, 3) := by decide +kernel
theorem dX7_listed_14 : decode cX7_listed 14 = .ok (.iload_n 3, 1) := by decide +kernel
theorem dX7_listed_15 : decode cX7_listed 15 = .ok (.ifCond .ge 5, 3) := by decide +kernel
theorem dX7_listed_18 : decode cX7_listed 18 = .ok (.iconst (-1), 1) := by decide +kernel
theorem dX7_listed_19 : decode cX7_listed 19 = .ok (.ireturn, 1) := by decide +kernel
theorem dX7_listed_20 : decode cX7_listed 20 = .ok (.aload_n 0, 1) := by decide +kernel
theorem dX7_listed_21 : decode cX7_listed 21 = .ok (.getfield 37, 3) := by decide +kernel
theorem dX7_listed_24 : decode cX7_listed 24 = .ok (.iload_n 2, 1) := by decide +kernel
theorem dX7_listed_25 : decode cX7_listed 25 = .ok (.invokevirtual 172, 3) := by decide +kernel
theorem dX7_listed_28 : decode cX7_listed 28 = .ok (.aload_n 0, 1) := by decide +kernel
theorem dX7_listed_29 : decode cX7_listed 29 = .ok (.getfield 37, 3) := by decide +kernel
theorem dX7_listed_32 : decode cX7_listed 32 = .ok (.iload_n 1, 1) := by decide +kernel
theorem dX7_listed_33 : decode cX7_listed 33 = .ok (.iload_n 2, 1) := by decide +kernel
theorem dX7_listed_34 : decode cX7_listed 34 = .ok (.iload_n 3, 1) := by decide +kernel
theorem dX7_listed_35 : decode cX7_listed 35 = .ok (.invokevirtual 178, 3) := by decide +kernel
theorem dX7_listed_38 : decode cX7_listed 38 = .ok (.istore 4, 2) := by decide +kernel
theorem dX7_listed_40 : decode cX7_listed 40 = .ok (.iload 4, 2) := by decide +kernel
theorem dX7_listed_42 : decode cX7_listed 42 = .ok (.iconst (-1), 1) := by decide +kernel
theorem dX7_listed_43 : decode cX7_listed 43 = .ok (.if_icmp .ne 7, 3) := by decide +kernel
theorem dX7_listed_46 : decode cX7_listed 46 = .ok (.iconst (-1), 1) := by decide +kernel
theorem dX7_listed_47 : decode cX7_listed 47 = .ok (.goto 28, 3) := by decide +kernel
theorem dX7_listed_50 : decode cX7_listed 50 = .ok (.aload_n 0, 1) := by decide +kernel
theorem dX7_listed_51 : decode cX7_listed 51 = .ok (.getfield 10, 3) := by decide +kernel
theorem dX7_listed_54 : decode cX7_listed 54 = .ok (.aload_n 0, 1) := by decide +kernel
theorem dX7_listed_55 : decode cX7_listed 55 = .ok (.getfield 37, 3) := by decide +kernel
theorem dX7_listed_58 : decode cX7_listed 58 = .ok (.iload 4, 2) := by decide +kernel
theorem dX7_listed_60 : decode cX7_listed 60 = .ok (.invokevirtual 182, 3) := by decide +kernel
theorem dX7_listed_63 : decode cX7_listed 63 = .ok (.aload_n 0, 1) := by decide +kernel
theorem dX7_listed_64 : decode cX7_listed 64 = .ok (.getfield 37, 3) := by decide +kernel
theorem dX7_listed_67 : decode cX7_listed 67 = .ok (.iload 4, 2) := by decide +kernel
theorem dX7_listed_69 : decode cX7_listed 69 = .ok (.invokevirtual 185, 3) := by decide +kernel
theorem dX7_listed_72 : decode cX7_listed 72 = .ok (.invokevirtual 188, 3) := by decide +kernel
theorem dX7_listed_75 : decode cX7_listed 75 = .ok (.ireturn, 1) := by decide +kernel
set_option maxRecDepth 20000 in
theorem ggX7_polynomial_X4_holds : GoodIn wsX7_polynomial wsX4_holds := goodIn_r _ [8, 9, 139, 140, 141] (by decide +kernel) (by decide +kernel)
set_option maxRecDepth 20000 in
theorem gX7_polynomial_X4_holds : GoodIn wsX7_polynomial (wsV RX7 106 RX4 yX4_holds wsX4_holds) := goodIn_app (goodIn_of _ (by decide +kernel)) ggX7_polynomial_X4_holds
set_option maxRecDepth 20000 in
theorem ggX7_polynomial_X4_bitsOf : GoodIn wsX7_polynomial wsX4_bitsOf := goodIn_r _ [13, 14, 15, 5, 6, 7, 8, 9, 139, 140, 141] (by decide +kernel) (by decide +kernel)
set_option maxRecDepth 20000 in
theorem gX7_polynomial_X4_bitsOf : GoodIn wsX7_polynomial (wsV RX7 118 RX4 yX4_bitsOf wsX4_bitsOf) := goodIn_app (goodIn_of _ (by decide +kernel)) ggX7_polynomial_X4_bitsOf
set_option maxRecDepth 20000 in
theorem ggX7_polynomial_X4_barOf : GoodIn wsX7_polynomial wsX4_barOf := goodIn_r _ [19, 20, 15, 5, 6, 7, 8, 9, 139, 140, 141] (by decide +kernel) (by decide +kernel)
set_option maxRecDepth 20000 in
theorem gX7_polynomial_X4_barOf : GoodIn wsX7_polynomial (wsV RX7 109 RX4 yX4_barOf wsX4_barOf) := goodIn_app (goodIn_of _ (by decide +kernel)) ggX7_polynomial_X4_barOf
set_option maxRecDepth 20000 in
theorem ggX7_polynomial_X5_find : GoodIn wsX7_polynomial wsX5_find := goodIn_r _ [25, 26, 27, 28, 29, 30, 31, 32, 33, 34, 35, 36, 37, 38, 39, 40, 41, 42, 43, 44, 45, 46, 47, 48, 49, 50, 51, 52, 53, 54, 55, 56, 57, 58, 59, 60, 61, 24, 62, 63, 64, 65, 66, 67, 68, 69, 70, 71, 72, 73, 74, 75, 76, 77, 78, 79, 80, 81, 82, 83, 84, 85, 86, 87, 88, 89, 90, 91, 92, 93, 94, 95, 96, 97, 98, 99, 100, 101, 102, 103, 104, 105, 106, 107, 108, 109, 110, 111, 112, 113, 114, 115, 116, 117, 118, 119, 120, 121, 122, 123, 124, 142, 143, 144, 145, 146, 147] (by decide +kernel) (by decide +kernel)
set_option maxRecDepth 20000 in
theorem gX7_polynomial_X5_find : GoodIn wsX7_polynomial (wsV RX7 192 RX5 yX5_find wsX5_find) := goodIn_app (goodIn_of _ (by decide +kernel)) ggX7_polynomial_X5_find
set_option maxRecDepth 20000 in
theorem ggX7_polynomial_X5_degree : GoodIn wsX7_polynomial wsX5_degree := goodIn_r _ [128, 26, 142, 143, 144, 145, 146, 147] (by decide +kernel) (by decide +kernel)
set_option maxRecDepth 20000 in
theorem gX7_polynomial_X5_degree : GoodIn wsX7_polynomial (wsV RX7 196 RX5 yX5_degree wsX5_degree) := goodIn_app (goodIn_of _ (by decide +kernel)) ggX7_polynomial_X5_degree
set_option maxRecDepth 20000 in
theorem ggX7_polynomial_X5_numberAt : GoodIn wsX7_polynomial wsX5_numberAt := goodIn_r _ [132, 26, 124, 142, 143, 144, 145, 146, 147] (by decide +kernel) (by decide +kernel)
set_option maxRecDepth 20000 in
theorem gX7_polynomial_X5_numberAt : GoodIn wsX7_polynomial (wsV RX7 198 RX5 yX5_numberAt wsX5_numberAt) := goodIn_app (goodIn_of _ (by decide +kernel)) ggX7_polynomial_X5_numberAt
theorem dX7_polynomial_0 : decode cX7_polynomial 0 = .ok (.aload_n 0, 1) := by decide +kernel
theorem dX7_polynomial_1 : decode cX7_polynomial 1 = .ok (.getfield 10, 3) := by decide +kernel
theorem dX7_polynomial_4 : decode cX7_polynomial 4 = .ok (.iload_n 1, 1) := by decide +kernel
theorem dX7_polynomial_5 : decode cX7_polynomial 5 = .ok (.invokevirtual 106, 3) := by decide +kernel
theorem dX7_polynomial_8 : decode cX7_polynomial 8 = .ok (.ifCond .eq 29, 3) := by decide +kernel
theorem dX7_polynomial_11 : decode cX7_polynomial 11 = .ok (.aload_n 0, 1) := by decide +kernel
theorem dX7_polynomial_12 : decode cX7_polynomial 12 = .ok (.getfield 44, 3) := by decide +kernel
theorem dX7_polynomial_15 : decode cX7_polynomial 15 = .ok (.aload_n 0, 1) := by decide +kernel
theorem dX7_polynomial_16 : decode cX7_polynomial 16 = .ok (.getfield 10, 3) := by decide +kernel
theorem dX7_polynomial_19 : decode cX7_polynomial 19 = .ok (.iload_n 1, 1) := by decide +kernel
theorem dX7_polynomial_20 : decode cX7_polynomial 20 = .ok (.invokevirtual 118, 3) := by decide +kernel
theorem dX7_polynomial_23 : decode cX7_polynomial 23 = .ok (.aload_n 0, 1) := by decide +kernel
theorem dX7_polynomial_24 : decode cX7_polynomial 24 = .ok (.getfield 10, 3) := by decide +kernel
theorem dX7_polynomial_27 : decode cX7_polynomial 27 = .ok (.iload_n 1, 1) := by decide +kernel
theorem dX7_polynomial_28 : decode cX7_polynomial 28 = .ok (.invokevirtual 109, 3) := by decide +kernel
theorem dX7_polynomial_31 : decode cX7_polynomial 31 = .ok (.invokevirtual 192, 3) := by decide +kernel
theorem dX7_polynomial_34 : decode cX7_polynomial 34 = .ok (.ifCond .ne 7, 3) := by decide +kernel
theorem dX7_polynomial_37 : decode cX7_polynomial 37 = .ok (.ldc2_w 194, 3) := by decide +kernel
theorem dX7_polynomial_40 : decode cX7_polynomial 40 = .ok (.lreturn, 1) := by decide +kernel
theorem dX7_polynomial_41 : decode cX7_polynomial 41 = .ok (.iload_n 2, 1) := by decide +kernel
theorem dX7_polynomial_42 : decode cX7_polynomial 42 = .ok (.ifCond .lt 25, 3) := by decide +kernel
theorem dX7_polynomial_45 : decode cX7_polynomial 45 = .ok (.iload_n 2, 1) := by decide +kernel
theorem dX7_polynomial_46 : decode cX7_polynomial 46 = .ok (.aload_n 0, 1) := by decide +kernel
theorem dX7_polynomial_47 : decode cX7_polynomial 47 = .ok (.getfield 44, 3) := by decide +kernel
theorem dX7_polynomial_50 : decode cX7_polynomial 50 = .ok (.invokevirtual 196, 3) := by decide +kernel
theorem dX7_polynomial_53 : decode cX7_polynomial 53 = .ok (.if_icmp .gt 14, 3) := by decide +kernel
theorem dX7_polynomial_56 : decode cX7_polynomial 56 = .ok (.aload_n 0, 1) := by decide +kernel
theorem dX7_polynomial_57 : decode cX7_polynomial 57 = .ok (.getfield 44, 3) := by decide +kernel
theorem dX7_polynomial_60 : decode cX7_polynomial 60 = .ok (.iload_n 2, 1) := by decide +kernel
theorem dX7_polynomial_61 : decode cX7_polynomial 61 = .ok (.invokevirtual 198, 3) := by decide +kernel
theorem dX7_polynomial_64 : decode cX7_polynomial 64 = .ok (.goto 6, 3) := by decide +kernel
theorem dX7_polynomial_67 : decode cX7_polynomial 67 = .ok (.ldc2_w 194, 3) := by decide +kernel
theorem dX7_polynomial_70 : decode cX7_polynomial 70 = .ok (.lreturn, 1) := by decide +kernel
set_option maxRecDepth 20000 in
theorem ggX7_roots_X4_holds : GoodIn wsX7_roots wsX4_holds := goodIn_r _ [7, 8, 143, 144, 145] (by decide +kernel) (by decide +kernel)
set_option maxRecDepth 20000 in
theorem gX7_roots_X4_holds : GoodIn wsX7_roots (wsV RX7 106 RX4 yX4_holds wsX4_holds) := goodIn_app (goodIn_of _ (by decide +kernel)) ggX7_roots_X4_holds
set_option maxRecDepth 20000 in
theorem ggX7_roots_X6_isPrime : GoodIn wsX7_roots wsX6_isPrime := goodIn_r _ [12, 13, 14, 11, 15] (by decide +kernel) (by decide +kernel)
set_option maxRecDepth 20000 in
theorem gX7_roots_X6_isPrime : GoodIn wsX7_roots (va_wsS RX7 139 yX6_isPrime wsX6_isPrime) := goodIn_app (goodIn_of _ (by decide +kernel)) ggX7_roots_X6_isPrime
set_option maxRecDepth 20000 in
theorem ggX7_roots_X4_bitsOf : GoodIn wsX7_roots wsX4_bitsOf := goodIn_r _ [19, 20, 21, 4, 5, 6, 7, 8, 143, 144, 145] (by decide +kernel) (by decide +kernel)
set_option maxRecDepth 20000 in
theorem gX7_roots_X4_bitsOf : GoodIn wsX7_roots (wsV RX7 118 RX4 yX4_bitsOf wsX4_bitsOf) := goodIn_app (goodIn_of _ (by decide +kernel)) ggX7_roots_X4_bitsOf
set_option maxRecDepth 20000 in
theorem ggX7_roots_X4_barOf : GoodIn wsX7_roots wsX4_barOf := goodIn_r _ [25, 26, 21, 4, 5, 6, 7, 8, 143, 144, 145] (by decide +kernel) (by decide +kernel)
set_option maxRecDepth 20000 in
theorem gX7_roots_X4_barOf : GoodIn wsX7_roots (wsV RX7 109 RX4 yX4_barOf wsX4_barOf) := goodIn_app (goodIn_of _ (by decide +kernel)) ggX7_roots_X4_barOf
set_option maxRecDepth 20000 in
theorem ggX7_roots_X5_find : GoodIn wsX7_roots wsX5_find := goodIn_r _ [31, 32, 33, 34, 35, 36, 37, 38, 39, 40, 41, 11, 42, 43, 44, 45, 46, 47, 48, 49, 50, 51, 52, 53, 54, 55, 56, 57, 58, 59, 60, 61, 62, 63, 64, 65, 66, 30, 67, 68, 69, 14, 15, 70, 71, 72, 73, 13, 74, 10, 12, 75, 76, 77, 78, 79, 80, 81, 82, 83, 84, 85, 86, 87, 88, 89, 90, 91, 92, 93, 94, 95, 96, 97, 98, 99, 100, 101, 102, 103, 104, 105, 106, 107, 108, 109, 110, 111, 112, 113, 114, 115, 116, 117, 118, 119, 120, 121, 122, 123, 124, 146, 147, 148, 149, 150, 151] (by decide +kernel) (by decide +kernel)
set_option maxRecDepth 20000 in
theorem gX7_roots_X5_find : GoodIn wsX7_roots (wsV RX7 192 RX5 yX5_find wsX5_find) := goodIn_app (goodIn_of _ (by decide +kernel)) ggX7_roots_X5_find
set_option maxRecDepth 20000 in
theorem ggX7_roots_X5_valueBy : GoodIn wsX7_roots wsX5_valueBy := goodIn_r _ [128, 32, 129, 130, 131, 30, 132, 124, 133, 134, 135, 136, 146, 147, 148, 149, 150, 151] (by decide +kernel) (by decide +kernel)
set_option maxRecDepth 20000 in
theorem gX7_roots_X5_valueBy : GoodIn wsX7_roots (wsV RX7 201 RX5 yX5_valueBy wsX5_valueBy) := goodIn_app (goodIn_of _ (by decide +kernel)) ggX7_roots_X5_valueBy
theorem dX7_roots_0 : decode cX7_roots 0 = .ok (.aload_n 0, 1) := by decide +kernel
theorem dX7_roots_1 : decode cX7_roots 1 = .ok (.getfield 10, 3) := by decide +kernel
theorem dX7_roots_4 : decode cX7_roots 4 = .ok (.iload_n 1, 1) := by decide +kernel
theorem dX7_roots_5 : decode cX7_roots 5 = .ok (.invokevirtual 106, 3) := by decide +kernel
theorem dX7_roots_8 : decode cX7_roots 8 = .ok (.ifCond .eq 10, 3) := by decide +kernel
theorem dX7_roots_11 : decode cX7_roots 11 = .ok (.iload_n 2, 1) := by decide +kernel
theorem dX7_roots_12 : decode cX7_roots 12 = .ok (.invokestatic 139, 3) := by decide +kernel
theorem dX7_roots_15 : decode cX7_roots 15 = .ok (.ifCond .ne 5, 3) := by decide +kernel
theorem dX7_roots_18 : decode cX7_roots 18 = .ok (.iconst (-1), 1) := by decide +kernel
theorem dX7_roots_19 : decode cX7_roots 19 = .ok (.ireturn, 1) := by decide +kernel
theorem dX7_roots_20 : decode cX7_roots 20 = .ok (.aload_n 0, 1) := by decide +kernel
theorem dX7_roots_21 : decode cX7_roots 21 = .ok (.getfield 44, 3) := by decide +kernel
theorem dX7_roots_24 : decode cX7_roots 24 = .ok (.aload_n 0, 1) := by decide +kernel
theorem dX7_roots_25 : decode cX7_roots 25 = .ok (.getfield 10, 3) := by decide +kernel
theorem dX7_roots_28 : decode cX7_roots 28 = .ok (.iload_n 1, 1) := by decide +kernel
theorem dX7_roots_29 : decode cX7_roots 29 = .ok (.invokevirtual 118, 3) := by decide +kernel
theorem dX7_roots_32 : decode cX7_roots 32 = .ok (.aload_n 0, 1) := by decide +kernel
theorem dX7_roots_33 : decode cX7_roots 33 = .ok (.getfield 10, 3) := by decide +kernel
theorem dX7_roots_36 : decode cX7_roots 36 = .ok (.iload_n 1, 1) := by decide +kernel
theorem dX7_roots_37 : decode cX7_roots 37 = .ok (.invokevirtual 109, 3) := by decide +kernel
theorem dX7_roots_40 : decode cX7_roots 40 = .ok (.invokevirtual 192, 3) := by decide +kernel
theorem dX7_roots_43 : decode cX7_roots 43 = .ok (.ifCond .ne 5, 3) := by decide +kernel
theorem dX7_roots_46 : decode cX7_roots 46 = .ok (.iconst (-1), 1) := by decide +kernel
theorem dX7_roots_47 : decode cX7_roots 47 = .ok (.ireturn, 1) := by decide +kernel
theorem dX7_roots_48 : decode cX7_roots 48 = .ok (.iconst 0, 1) := by decide +kernel
theorem dX7_roots_49 : decode cX7_roots 49 = .ok (.istore_n 3, 1) := by decide +kernel
theorem dX7_roots_50 : decode cX7_roots 50 = .ok (.iconst 0, 1) := by decide +kernel
theorem dX7_roots_51 : decode cX7_roots 51 = .ok (.istore 4, 2) := by decide +kernel
theorem dX7_roots_53 : decode cX7_roots 53 = .ok (.iload 4, 2) := by decide +kernel
theorem dX7_roots_55 : decode cX7_roots 55 = .ok (.iload_n 2, 1) := by decide +kernel
theorem dX7_roots_56 : decode cX7_roots 56 = .ok (.if_icmp .ge 25, 3) := by decide +kernel
theorem dX7_roots_59 : decode cX7_roots 59 = .ok (.aload_n 0, 1) := by decide +kernel
theorem dX7_roots_60 : decode cX7_roots 60 = .ok (.getfield 44, 3) := by decide +kernel
theorem dX7_roots_63 : decode cX7_roots 63 = .ok (.iload_n 2, 1) := by decide +kernel
theorem dX7_roots_64 : decode cX7_roots 64 = .ok (.iload 4, 2) := by decide +kernel
theorem dX7_roots_66 : decode cX7_roots 66 = .ok (.invokevirtual 201, 3) := by decide +kernel
theorem dX7_roots_69 : decode cX7_roots 69 = .ok (.ifCond .ne 6, 3) := by decide +kernel
theorem dX7_roots_72 : decode cX7_roots 72 = .ok (.iinc 3 1, 3) := by decide +kernel
theorem dX7_roots_75 : decode cX7_roots 75 = .ok (.iinc 4 1, 3) := by decide +kernel
theorem dX7_roots_78 : decode cX7_roots 78 = .ok (.goto (-25), 3) := by decide +kernel
theorem dX7_roots_81 : decode cX7_roots 81 = .ok (.iload_n 3, 1) := by decide +kernel
theorem dX7_roots_82 : decode cX7_roots 82 = .ok (.ireturn, 1) := by decide +kernel
set_option maxRecDepth 20000 in
theorem ggX7_count_X4_size : GoodIn wsX7_count wsX4_size := goodIn_r _ [6, 7, 23, 24, 25] (by decide +kernel) (by decide +kernel)
set_option maxRecDepth 20000 in
theorem gX7_count_X4_size : GoodIn wsX7_count (wsV RX7 204 RX4 yX4_size wsX4_size) := goodIn_app (goodIn_of _ (by decide +kernel)) ggX7_count_X4_size
set_option maxRecDepth 20000 in
theorem ggX7_count_X4_greatestBar : GoodIn wsX7_count wsX4_greatestBar := goodIn_r _ [11, 7, 12, 13, 14, 15, 16, 23, 24, 25] (by decide +kernel) (by decide +kernel)
set_option maxRecDepth 20000 in
theorem gX7_count_X4_greatestBar : GoodIn wsX7_count (wsV RX7 205 RX4 yX4_greatestBar wsX4_greatestBar) := goodIn_app (goodIn_of _ (by decide +kernel)) ggX7_count_X4_greatestBar
theorem dX7_count_0 : decode cX7_count 0 = .ok (.iload_n 1, 1) := by decide +kernel
theorem dX7_count_1 : decode cX7_count 1 = .ok (.lookupswitch 43 #[(0, 27), (1, 35)], 27) := by decide +kernel
theorem dX7_count_28 : decode cX7_count 28 = .ok (.aload_n 0, 1) := by decide +kernel
theorem dX7_count_29 : decode cX7_count 29 = .ok (.getfield 10, 3) := by decide +kernel
theorem dX7_count_32 : decode cX7_count 32 = .ok (.invokevirtual 204, 3) := by decide +kernel
theorem dX7_count_35 : decode cX7_count 35 = .ok (.ireturn, 1) := by decide +kernel
theorem dX7_count_36 : decode cX7_count 36 = .ok (.aload_n 0, 1) := by decide +kernel
theorem dX7_count_37 : decode cX7_count 37 = .ok (.getfield 10, 3) := by decide +kernel
theorem dX7_count_40 : decode cX7_count 40 = .ok (.invokevirtual 205, 3) := by decide +kernel
theorem dX7_count_43 : decode cX7_count 43 = .ok (.ireturn, 1) := by decide +kernel
theorem dX7_count_44 : decode cX7_count 44 = .ok (.iconst (-1), 1) := by decide +kernel
theorem dX7_count_45 : decode cX7_count 45 = .ok (.ireturn, 1) := by decide +kernel
set_option maxRecDepth 20000 in
theorem ggX7_clear_X4_empty : GoodIn wsX7_clear wsX4_empty := goodIn_r _ [6, 7, 14, 15, 16] (by decide +kernel) (by decide +kernel)
set_option maxRecDepth 20000 in
theorem gX7_clear_X4_empty : GoodIn wsX7_clear (wsV RX7 208 RX4 yX4_empty wsX4_empty) := goodIn_app (goodIn_of _ (by decide +kernel)) ggX7_clear_X4_empty
theorem dX7_clear_0 : decode cX7_clear 0 = .ok (.aload_n 0, 1) := by decide +kernel
theorem dX7_clear_1 : decode cX7_clear 1 = .ok (.getfield 10, 3) := by decide +kernel
theorem dX7_clear_4 : decode cX7_clear 4 = .ok (.invokevirtual 208, 3) := by decide +kernel
theorem dX7_clear_7 : decode cX7_clear 7 = .ok (.return_, 1) := by decide +kernel
set_option maxRecDepth 20000 in
theorem ggX7_image_X4_init : GoodIn wsX7_image wsX4_init := goodIn_r _ [7, 8, 9, 10, 11, 12, 13, 14, 26, 27, 28] (by decide +kernel) (by decide +kernel)
set_option maxRecDepth 20000 in
theorem gX7_image_X4_init_n9 : GoodIn wsX7_image (wsX4_init) := ggX7_image_X4_init
set_option maxRecDepth 20000 in
theorem ggX7_image_X4_copyFrom : GoodIn wsX7_image wsX4_copyFrom := goodIn_r _ [18, 12, 14, 19, 26, 27, 28] (by decide +kernel) (by decide +kernel)
set_option maxRecDepth 20000 in
theorem gX7_image_X4_copyFrom : GoodIn wsX7_image (wsV RX7 211 RX4 yX4_copyFrom wsX4_copyFrom) := goodIn_app (goodIn_of _ (by decide +kernel)) ggX7_image_X4_copyFrom
theorem dX7_image_0 : decode cX7_image 0 = .ok (.iload_n 1, 1) := by decide +kernel
theorem dX7_image_1 : decode cX7_image 1 = .ok (.ifCond .lt 12, 3) := by decide +kernel
theorem dX7_image_4 : decode cX7_image 4 = .ok (.iload_n 1, 1) := by decide +kernel
theorem dX7_image_5 : decode cX7_image 5 = .ok (.aload_n 0, 1) := by decide +kernel
theorem dX7_image_6 : decode cX7_image 6 = .ok (.getfield 16, 3) := by decide +kernel
theorem dX7_image_9 : decode cX7_image 9 = .ok (.arraylength, 1) := by decide +kernel
theorem dX7_image_10 : decode cX7_image 10 = .ok (.if_icmp .lt 5, 3) := by decide +kernel
theorem dX7_image_13 : decode cX7_image 13 = .ok (.iconst 0, 1) := by decide +kernel
theorem dX7_image_14 : decode cX7_image 14 = .ok (.ireturn, 1) := by decide +kernel
theorem dX7_image_15 : decode cX7_image 15 = .ok (.aload_n 0, 1) := by decide +kernel
theorem dX7_image_16 : decode cX7_image 16 = .ok (.getfield 16, 3) := by decide +kernel
theorem dX7_image_19 : decode cX7_image 19 = .ok (.iload_n 1, 1) := by decide +kernel
theorem dX7_image_20 : decode cX7_image 20 = .ok (.aaload, 1) := by decide +kernel
theorem dX7_image_21 : decode cX7_image 21 = .ok (.astore_n 2, 1) := by decide +kernel
theorem dX7_image_22 : decode cX7_image 22 = .ok (.aload_n 2, 1) := by decide +kernel
theorem dX7_image_23 : decode cX7_image 23 = .ok (.ifnonnull 18, 3) := by decide +kernel
theorem dX7_image_26 : decode cX7_image 26 = .ok (.new 7, 3) := by decide +kernel
theorem dX7_image_29 : decode cX7_image 29 = .ok (.dup, 1) := by decide +kernel
theorem dX7_image_30 : decode cX7_image 30 = .ok (.invokespecial 9, 3) := by decide +kernel
theorem dX7_image_33 : decode cX7_image 33 = .ok (.astore_n 2, 1) := by decide +kernel
theorem dX7_image_34 : decode cX7_image 34 = .ok (.aload_n 0, 1) := by decide +kernel
theorem dX7_image_35 : decode cX7_image 35 = .ok (.getfield 16, 3) := by decide +kernel
theorem dX7_image_38 : decode cX7_image 38 = .ok (.iload_n 1, 1) := by decide +kernel
theorem dX7_image_39 : decode cX7_image 39 = .ok (.aload_n 2, 1) := by decide +kernel
theorem dX7_image_40 : decode cX7_image 40 = .ok (.aastore, 1) := by decide +kernel
theorem dX7_image_41 : decode cX7_image 41 = .ok (.aload_n 2, 1) := by decide +kernel
theorem dX7_image_42 : decode cX7_image 42 = .ok (.aload_n 0, 1) := by decide +kernel
theorem dX7_image_43 : decode cX7_image 43 = .ok (.getfield 10, 3) := by decide +kernel
theorem dX7_image_46 : decode cX7_image 46 = .ok (.invokevirtual 211, 3) := by decide +kernel
theorem dX7_image_49 : decode cX7_image 49 = .ok (.iconst 1, 1) := by decide +kernel
theorem dX7_image_50 : decode cX7_image 50 = .ok (.ireturn, 1) := by decide +kernel
set_option maxRecDepth 20000 in
theorem ggX7_again_X4_copyFrom : GoodIn wsX7_again wsX4_copyFrom := goodIn_r _ [7, 8, 9, 10, 17, 18, 19] (by decide +kernel) (by decide +kernel)
set_option maxRecDepth 20000 in
theorem gX7_again_X4_copyFrom : GoodIn wsX7_again (wsV RX7 211 RX4 yX4_copyFrom wsX4_copyFrom) := goodIn_app (goodIn_of _ (by decide +kernel)) ggX7_again_X4_copyFrom
theorem dX7_again_0 : decode cX7_again 0 = .ok (.iload_n 1, 1) := by decide +kernel
theorem dX7_again_1 : decode cX7_again 1 = .ok (.ifCond .lt 12, 3) := by decide +kernel
theorem dX7_again_4 : decode cX7_again 4 = .ok (.iload_n 1, 1) := by decide +kernel
theorem dX7_again_5 : decode cX7_again 5 = .ok (.aload_n 0, 1) := by decide +kernel
theorem dX7_again_6 : decode cX7_again 6 = .ok (.getfield 16, 3) := by decide +kernel
theorem dX7_again_9 : decode cX7_again 9 = .ok (.arraylength, 1) := by decide +kernel
theorem dX7_again_10 : decode cX7_again 10 = .ok (.if_icmp .lt 5, 3) := by decide +kernel
theorem dX7_again_13 : decode cX7_again 13 = .ok (.iconst 0, 1) := by decide +kernel
theorem dX7_again_14 : decode cX7_again 14 = .ok (.ireturn, 1) := by decide +kernel
theorem dX7_again_15 : decode cX7_again 15 = .ok (.aload_n 0, 1) := by decide +kernel
theorem dX7_again_16 : decode cX7_again 16 = .ok (.getfield 16, 3) := by decide +kernel
theorem dX7_again_19 : decode cX7_again 19 = .ok (.iload_n 1, 1) := by decide +kernel
theorem dX7_again_20 : decode cX7_again 20 = .ok (.aaload, 1) := by decide +kernel
theorem dX7_again_21 : decode cX7_again 21 = .ok (.astore_n 2, 1) := by decide +kernel
theorem dX7_again_22 : decode cX7_again 22 = .ok (.aload_n 2, 1) := by decide +kernel
theorem dX7_again_23 : decode cX7_again 23 = .ok (.ifnonnull 5, 3) := by decide +kernel
theorem dX7_again_26 : decode cX7_again 26 = .ok (.iconst 0, 1) := by decide +kernel
theorem dX7_again_27 : decode cX7_again 27 = .ok (.ireturn, 1) := by decide +kernel
theorem dX7_again_28 : decode cX7_again 28 = .ok (.aload_n 0, 1) := by decide +kernel
theorem dX7_again_29 : decode cX7_again 29 = .ok (.getfield 10, 3) := by decide +kernel
theorem dX7_again_32 : decode cX7_again 32 = .ok (.aload_n 2, 1) := by decide +kernel
theorem dX7_again_33 : decode cX7_again 33 = .ok (.invokevirtual 211, 3) := by decide +kernel
theorem dX7_again_36 : decode cX7_again 36 = .ok (.iconst 1, 1) := by decide +kernel
theorem dX7_again_37 : decode cX7_again 37 = .ok (.ireturn, 1) := by decide +kernel
theorem dX7_isM_0 : decode cX7_isM 0 = .ok (.iload_n 0, 1) := by decide +kernel
theorem dX7_isM_1 : decode cX7_isM 1 = .ok (.iconst 1, 1) := by decide +kernel
theorem dX7_isM_2 : decode cX7_isM 2 = .ok (.if_icmp .lt 13, 3) := by decide +kernel
theorem dX7_isM_5 : decode cX7_isM 5 = .ok (.iload_n 0, 1) := by decide +kernel
theorem dX7_isM_6 : decode cX7_isM 6 = .ok (.bipush 63, 2) := by decide +kernel
theorem dX7_isM_8 : decode cX7_isM 8 = .ok (.if_icmp .gt 7, 3) := by decide +kernel
theorem dX7_isM_11 : decode cX7_isM 11 = .ok (.iconst 1, 1) := by decide +kernel
theorem dX7_isM_12 : decode cX7_isM 12 = .ok (.goto 4, 3) := by decide +kernel
theorem dX7_isM_15 : decode cX7_isM 15 = .ok (.iconst 0, 1) := by decide +kernel
theorem dX7_isM_16 : decode cX7_isM 16 = .ok (.ireturn, 1) := by decide +kernel
theorem dX7_isDegree_0 : decode cX7_isDegree 0 = .ok (.iload_n 0, 1) := by decide +kernel
theorem dX7_isDegree_1 : decode cX7_isDegree 1 = .ok (.iconst 1, 1) := by decide +kernel
theorem dX7_isDegree_2 : decode cX7_isDegree 2 = .ok (.if_icmp .lt 13, 3) := by decide +kernel
theorem dX7_isDegree_5 : decode cX7_isDegree 5 = .ok (.iload_n 0, 1) := by decide +kernel
theorem dX7_isDegree_6 : decode cX7_isDegree 6 = .ok (.bipush 8, 2) := by decide +kernel
theorem dX7_isDegree_8 : decode cX7_isDegree 8 = .ok (.if_icmp .gt 7, 3) := by decide +kernel
theorem dX7_isDegree_11 : decode cX7_isDegree 11 = .ok (.iconst 1, 1) := by decide +kernel
theorem dX7_isDegree_12 : decode cX7_isDegree 12 = .ok (.goto 4, 3) := by decide +kernel
theorem dX7_isDegree_15 : decode cX7_isDegree 15 = .ok (.iconst 0, 1) := by decide +kernel
theorem dX7_isDegree_16 : decode cX7_isDegree 16 = .ok (.ireturn, 1) := by decide +kernel
set_option maxRecDepth 20000 in
theorem ggX7_keep_X3_bar : GoodIn wsX7_keep wsX3_bar := goodIn_r _ [5, 6, 7, 8, 4, 9, 10, 11, 12, 13, 14, 15, 16, 17, 18, 19, 20, 21, 22, 23, 24, 25, 26, 27, 28] (by decide +kernel) (by decide +kernel)
set_option maxRecDepth 20000 in
theorem gX7_keep_X3_bar : GoodIn wsX7_keep (va_wsS RX7 163 yX3_bar wsX3_bar) := goodIn_app (goodIn_of _ (by decide +kernel)) ggX7_keep_X3_bar
set_option maxRecDepth 20000 in
theorem ggX7_keep_X3_lowered : GoodIn wsX7_keep wsX3_lowered := goodIn_r _ [31, 23, 24, 4, 25, 26, 27, 12, 28, 14, 15, 16] (by decide +kernel) (by decide +kernel)
set_option maxRecDepth 20000 in
theorem gX7_keep_X3_lowered : GoodIn wsX7_keep (va_wsS RX7 148 yX3_lowered wsX3_lowered) := goodIn_app (goodIn_of _ (by decide +kernel)) ggX7_keep_X3_lowered
set_option maxRecDepth 20000 in
theorem ggX7_keep_X4_put : GoodIn wsX7_keep wsX4_put := goodIn_r _ [36, 37, 38, 39, 46, 47, 48] (by decide +kernel) (by decide +kernel)
set_option maxRecDepth 20000 in
theorem gX7_keep_X4_put : GoodIn wsX7_keep (wsV RX7 188 RX4 yX4_put wsX4_put) := goodIn_app (goodIn_of _ (by decide +kernel)) ggX7_keep_X4_put
theorem dX7_keep_0 : decode cX7_keep 0 = .ok (.lload_n 1, 1) := by decide +kernel
theorem dX7_keep_1 : decode cX7_keep 1 = .ok (.iload_n 3, 1) := by decide +kernel
theorem dX7_keep_2 : decode cX7_keep 2 = .ok (.invokestatic 163, 3) := by decide +kernel
theorem dX7_keep_5 : decode cX7_keep 5 = .ok (.istore 4, 2) := by decide +kernel
theorem dX7_keep_7 : decode cX7_keep 7 = .ok (.aload_n 0, 1) := by decide +kernel
theorem dX7_keep_8 : decode cX7_keep 8 = .ok (.getfield 10, 3) := by decide +kernel
theorem dX7_keep_11 : decode cX7_keep 11 = .ok (.iload 4, 2) := by decide +kernel
theorem dX7_keep_13 : decode cX7_keep 13 = .ok (.lload_n 1, 1) := by decide +kernel
theorem dX7_keep_14 : decode cX7_keep 14 = .ok (.iload 4, 2) := by decide +kernel
theorem dX7_keep_16 : decode cX7_keep 16 = .ok (.invokestatic 148, 3) := by decide +kernel
theorem dX7_keep_19 : decode cX7_keep 19 = .ok (.invokevirtual 188, 3) := by decide +kernel
theorem dX7_keep_22 : decode cX7_keep 22 = .ok (.ireturn, 1) := by decide +kernel
set_option maxRecDepth 20000 in
theorem ggX7_commonM_X4_holds : GoodIn wsX7_commonM wsX4_holds := goodIn_r _ [6, 7, 34, 35, 36] (by decide +kernel) (by decide +kernel)
set_option maxRecDepth 20000 in
theorem gX7_commonM_X4_holds : GoodIn wsX7_commonM (wsV RX7 106 RX4 yX4_holds wsX4_holds) := goodIn_app (goodIn_of _ (by decide +kernel)) ggX7_commonM_X4_holds
set_option maxRecDepth 20000 in
theorem ggX7_commonM_X4_barOf : GoodIn wsX7_commonM wsX4_barOf := goodIn_r _ [11, 12, 13, 3, 4, 5, 6, 7, 34, 35, 36] (by decide +kernel) (by decide +kernel)
set_option maxRecDepth 20000 in
theorem gX7_commonM_X4_barOf : GoodIn wsX7_commonM (wsV RX7 109 RX4 yX4_barOf wsX4_barOf) := goodIn_app (goodIn_of _ (by decide +kernel)) ggX7_commonM_X4_barOf
set_option maxRecDepth 20000 in
theorem ggX7_commonM_X6_leastMultiple : GoodIn wsX7_commonM wsX6_leastMultiple := goodIn_r _ [17, 18, 19, 16, 20, 21, 22, 23] (by decide +kernel) (by decide +kernel)
set_option maxRecDepth 20000 in
theorem gX7_commonM_X6_leastMultiple : GoodIn wsX7_commonM (va_wsS RX7 215 yX6_leastMultiple wsX6_leastMultiple) := goodIn_app (goodIn_of _ (by decide +kernel)) ggX7_commonM_X6_leastMultiple
set_option maxRecDepth 20000 in
theorem ggX7_commonM_X7_isM : GoodIn wsX7_commonM wsX7_isM := goodIn_r _ [27] (by decide +kernel) (by decide +kernel)
set_option maxRecDepth 20000 in
theorem gX7_commonM_X7_isM : GoodIn wsX7_commonM (va_wsS RX7 48 yX7_isM wsX7_isM) := goodIn_app (goodIn_of _ (by decide +kernel)) ggX7_commonM_X7_isM
theorem dX7_commonM_0 : decode cX7_commonM 0 = .ok (.aload_n 0, 1) := by decide +kernel
theorem dX7_commonM_1 : decode cX7_commonM 1 = .ok (.getfield 10, 3) := by decide +kernel
theorem dX7_commonM_4 : decode cX7_commonM 4 = .ok (.iload_n 1, 1) := by decide +kernel
theorem dX7_commonM_5 : decode cX7_commonM 5 = .ok (.invokevirtual 106, 3) := by decide +kernel
theorem dX7_commonM_8 : decode cX7_commonM 8 = .ok (.ifCond .eq 14, 3) := by decide +kernel
theorem dX7_commonM_11 : decode cX7_commonM 11 = .ok (.aload_n 0, 1) := by decide +kernel
theorem dX7_commonM_12 : decode cX7_commonM 12 = .ok (.getfield 10, 3) := by decide +kernel
theorem dX7_commonM_15 : decode cX7_commonM 15 = .ok (.iload_n 2, 1) := by decide +kernel
theorem dX7_commonM_16 : decode cX7_commonM 16 = .ok (.invokevirtual 106, 3) := by decide +kernel
theorem dX7_commonM_19 : decode cX7_commonM 19 = .ok (.ifCond .ne 5, 3) := by decide +kernel
theorem dX7_commonM_22 : decode cX7_commonM 22 = .ok (.iconst (-1), 1) := by decide +kernel
theorem dX7_commonM_23 : decode cX7_commonM 23 = .ok (.ireturn, 1) := by decide +kernel
theorem dX7_commonM_24 : decode cX7_commonM 24 = .ok (.aload_n 0, 1) := by decide +kernel
theorem dX7_commonM_25 : decode cX7_commonM 25 = .ok (.getfield 10, 3) := by decide +kernel
theorem dX7_commonM_28 : decode cX7_commonM 28 = .ok (.iload_n 1, 1) := by decide +kernel
theorem dX7_commonM_29 : decode cX7_commonM 29 = .ok (.invokevirtual 109, 3) := by decide +kernel
theorem dX7_commonM_32 : decode cX7_commonM 32 = .ok (.aload_n 0, 1) := by decide +kernel
theorem dX7_commonM_33 : decode cX7_commonM 33 = .ok (.getfield 10, 3) := by decide +kernel
theorem dX7_commonM_36 : decode cX7_commonM 36 = .ok (.iload_n 2, 1) := by decide +kernel
theorem dX7_commonM_37 : decode cX7_commonM 37 = .ok (.invokevirtual 109, 3) := by decide +kernel
theorem dX7_commonM_40 : decode cX7_commonM 40 = .ok (.invokestatic 215, 3) := by decide +kernel
theorem dX7_commonM_43 : decode cX7_commonM 43 = .ok (.istore_n 3, 1) := by decide +kernel
theorem dX7_commonM_44 : decode cX7_commonM 44 = .ok (.iload_n 3, 1) := by decide +kernel
theorem dX7_commonM_45 : decode cX7_commonM 45 = .ok (.invokestatic 48, 3) := by decide +kernel
theorem dX7_commonM_48 : decode cX7_commonM 48 = .ok (.ifCond .eq 7, 3) := by decide +kernel
theorem dX7_commonM_51 : decode cX7_commonM 51 = .ok (.iload_n 3, 1) := by decide +kernel
theorem dX7_commonM_52 : decode cX7_commonM 52 = .ok (.goto 4, 3) := by decide +kernel
theorem dX7_commonM_55 : decode cX7_commonM 55 = .ok (.iconst (-1), 1) := by decide +kernel
theorem dX7_commonM_56 : decode cX7_commonM 56 = .ok (.ireturn, 1) := by decide +kernel
