set_option maxRecDepth 20000 in
theorem ggX9_year_X9_isHouse : GoodIn wsX9_year wsX9_isHouse := goodIn_r _ [6, 7, 8, 9, 5, 10, 61, 62, 63, 64, 65, 66, 67, 68, 69, 70, 71, 72, 73, 74, 75, 76, 77, 78, 79, 80, 81, 82] (by decide +kernel) (by decide +kernel)
set_option maxRecDepth 20000 in
theorem gX9_year_X9_isHouse : GoodIn wsX9_year (wsV RX9 75 RX9 yX9_isHouse wsX9_isHouse) := goodIn_app (goodIn_of _ (by decide +kernel)) ggX9_year_X9_isHouse
set_option maxRecDepth 20000 in
theorem ggX9_year_X9_isYear : GoodIn wsX9_year wsX9_isYear := goodIn_r _ [13, 8, 9, 5, 10] (by decide +kernel) (by decide +kernel)
set_option maxRecDepth 20000 in
theorem gX9_year_X9_isYear : GoodIn wsX9_year (va_wsS RX9 148 yX9_isYear wsX9_isYear) := goodIn_app (goodIn_of _ (by decide +kernel)) ggX9_year_X9_isYear
set_option maxRecDepth 20000 in
theorem ggX9_year_X9_yearOf : GoodIn wsX9_year wsX9_yearOf := goodIn_r _ [17, 18, 19, 20, 5, 21, 22, 23, 24, 25, 26, 27, 28, 29, 30, 31, 32, 33, 34, 35, 36, 37, 38, 39, 40, 41, 42, 43, 44, 45, 46, 47, 48, 49, 50, 51, 52, 53, 54, 55, 56, 57, 58, 59, 60, 61, 62, 63, 64, 65, 66, 67, 68, 69, 70, 71, 72, 73, 74, 75, 76, 77, 78, 79, 80, 81, 82] (by decide +kernel) (by decide +kernel)
set_option maxRecDepth 20000 in
theorem gX9_year_X9_yearOf : GoodIn wsX9_year (wsV RX9 151 RX9 yX9_yearOf wsX9_yearOf) := goodIn_app (goodIn_of _ (by decide +kernel)) ggX9_year_X9_yearOf
theorem dX9_year_0 : decode cX9_year 0 = .ok (.aload_n 0, 1) := by decide +kernel
theorem dX9_year_1 : decode cX9_year 1 = .ok (.iload_n 1, 1) := by decide +kernel
theorem dX9_year_2 : decode cX9_year 2 = .ok (.invokevirtual 75, 3) := by decide +kernel
theorem dX9_year_5 : decode cX9_year 5 = .ok (.ifCond .eq 19, 3) := by decide +kernel
theorem dX9_year_8 : decode cX9_year 8 = .ok (.iload_n 2, 1) := by decide +kernel
theorem dX9_year_9 : decode cX9_year 9 = .ok (.invokestatic 148, 3) := by decide +kernel
theorem dX9_year_12 : decode cX9_year 12 = .ok (.ifCond .eq 12, 3) := by decide +kernel
theorem dX9_year_15 : decode cX9_year 15 = .ok (.aload_n 0, 1) := by decide +kernel
theorem dX9_year_16 : decode cX9_year 16 = .ok (.iload_n 1, 1) := by decide +kernel
theorem dX9_year_17 : decode cX9_year 17 = .ok (.iload_n 2, 1) := by decide +kernel
theorem dX9_year_18 : decode cX9_year 18 = .ok (.invokevirtual 151, 3) := by decide +kernel
theorem dX9_year_21 : decode cX9_year 21 = .ok (.goto 6, 3) := by decide +kernel
theorem dX9_year_24 : decode cX9_year 24 = .ok (.ldc2_w 155, 3) := by decide +kernel
theorem dX9_year_27 : decode cX9_year 27 = .ok (.lreturn, 1) := by decide +kernel
set_option maxRecDepth 20000 in
theorem ggX9_bill_X9_isHouse : GoodIn wsX9_bill wsX9_isHouse := goodIn_r _ [6, 7, 8, 9, 5, 10, 61, 62, 63, 64, 65, 66, 67, 68, 69, 70, 71, 72, 73, 74, 75, 76, 77, 78, 79, 80, 81, 82] (by decide +kernel) (by decide +kernel)
set_option maxRecDepth 20000 in
theorem gX9_bill_X9_isHouse : GoodIn wsX9_bill (wsV RX9 75 RX9 yX9_isHouse wsX9_isHouse) := goodIn_app (goodIn_of _ (by decide +kernel)) ggX9_bill_X9_isHouse
set_option maxRecDepth 20000 in
theorem ggX9_bill_X9_isYear : GoodIn wsX9_bill wsX9_isYear := goodIn_r _ [13, 8, 9, 5, 10] (by decide +kernel) (by decide +kernel)
set_option maxRecDepth 20000 in
theorem gX9_bill_X9_isYear : GoodIn wsX9_bill (va_wsS RX9 148 yX9_isYear wsX9_isYear) := goodIn_app (goodIn_of _ (by decide +kernel)) ggX9_bill_X9_isYear
set_option maxRecDepth 20000 in
theorem ggX9_bill_X9_in : GoodIn wsX9_bill wsX9_in := goodIn_r _ [10] (by decide +kernel) (by decide +kernel)
set_option maxRecDepth 20000 in
theorem gX9_bill_X9_in : GoodIn wsX9_bill (va_wsS RX9 70 yX9_in wsX9_in) := goodIn_app (goodIn_of _ (by decide +kernel)) ggX9_bill_X9_in
set_option maxRecDepth 20000 in
theorem ggX9_bill_X9_yearOf : GoodIn wsX9_bill wsX9_yearOf := goodIn_r _ [17, 18, 19, 20, 5, 21, 22, 23, 24, 25, 26, 27, 28, 29, 30, 31, 32, 33, 34, 35, 36, 37, 38, 39, 40, 41, 42, 43, 44, 45, 46, 47, 48, 49, 50, 51, 52, 53, 54, 55, 56, 57, 58, 59, 60, 61, 62, 63, 64, 65, 66, 67, 68, 69, 70, 71, 72, 73, 74, 75, 76, 77, 78, 79, 80, 81, 82] (by decide +kernel) (by decide +kernel)
set_option maxRecDepth 20000 in
theorem gX9_bill_X9_yearOf : GoodIn wsX9_bill (wsV RX9 151 RX9 yX9_yearOf wsX9_yearOf) := goodIn_app (goodIn_of _ (by decide +kernel)) ggX9_bill_X9_yearOf
theorem dX9_bill_0 : decode cX9_bill 0 = .ok (.aload_n 0, 1) := by decide +kernel
theorem dX9_bill_1 : decode cX9_bill 1 = .ok (.iload_n 1, 1) := by decide +kernel
theorem dX9_bill_2 : decode cX9_bill 2 = .ok (.invokevirtual 75, 3) := by decide +kernel
theorem dX9_bill_5 : decode cX9_bill 5 = .ok (.ifCond .eq 38, 3) := by decide +kernel
theorem dX9_bill_8 : decode cX9_bill 8 = .ok (.iload_n 2, 1) := by decide +kernel
theorem dX9_bill_9 : decode cX9_bill 9 = .ok (.invokestatic 148, 3) := by decide +kernel
theorem dX9_bill_12 : decode cX9_bill 12 = .ok (.ifCond .eq 31, 3) := by decide +kernel
theorem dX9_bill_15 : decode cX9_bill 15 = .ok (.iload_n 3, 1) := by decide +kernel
theorem dX9_bill_16 : decode cX9_bill 16 = .ok (.iconst 0, 1) := by decide +kernel
theorem dX9_bill_17 : decode cX9_bill 17 = .ok (.sipush 3000, 3) := by decide +kernel
theorem dX9_bill_20 : decode cX9_bill 20 = .ok (.invokestatic 70, 3) := by decide +kernel
theorem dX9_bill_23 : decode cX9_bill 23 = .ok (.ifCond .eq 20, 3) := by decide +kernel
theorem dX9_bill_26 : decode cX9_bill 26 = .ok (.aload_n 0, 1) := by decide +kernel
theorem dX9_bill_27 : decode cX9_bill 27 = .ok (.iload_n 1, 1) := by decide +kernel
theorem dX9_bill_28 : decode cX9_bill 28 = .ok (.iload_n 2, 1) := by decide +kernel
theorem dX9_bill_29 : decode cX9_bill 29 = .ok (.invokevirtual 151, 3) := by decide +kernel
theorem dX9_bill_32 : decode cX9_bill 32 = .ok (.iload_n 3, 1) := by decide +kernel
theorem dX9_bill_33 : decode cX9_bill 33 = .ok (.i2l, 1) := by decide +kernel
theorem dX9_bill_34 : decode cX9_bill 34 = .ok (.lmul, 1) := by decide +kernel
theorem dX9_bill_35 : decode cX9_bill 35 = .ok (.ldc2_w 157, 3) := by decide +kernel
theorem dX9_bill_38 : decode cX9_bill 38 = .ok (.ldiv, 1) := by decide +kernel
theorem dX9_bill_39 : decode cX9_bill 39 = .ok (.l2i, 1) := by decide +kernel
theorem dX9_bill_40 : decode cX9_bill 40 = .ok (.goto 4, 3) := by decide +kernel
theorem dX9_bill_43 : decode cX9_bill 43 = .ok (.iconst (-1), 1) := by decide +kernel
theorem dX9_bill_44 : decode cX9_bill 44 = .ok (.ireturn, 1) := by decide +kernel
set_option maxRecDepth 20000 in
theorem ggX9_least_X9_yearOf : GoodIn wsX9_least wsX9_yearOf := goodIn_r _ [8, 9, 10, 11, 7, 12, 13, 14, 15, 16, 17, 18, 19, 20, 21, 22, 23, 24, 25, 26, 27, 28, 29, 30, 31, 32, 33, 34, 35, 36, 37, 38, 39, 40, 41, 42, 43, 44, 45, 46, 47, 48, 49, 50, 51, 52, 53, 54, 55, 56, 57, 58, 59, 60, 61, 62, 63, 64, 65, 66, 67, 68, 69, 70, 71, 72, 73] (by decide +kernel) (by decide +kernel)
set_option maxRecDepth 20000 in
theorem gX9_least_X9_yearOf : GoodIn wsX9_least (wsV RX9 151 RX9 yX9_yearOf wsX9_yearOf) := goodIn_app (goodIn_of _ (by decide +kernel)) ggX9_least_X9_yearOf
theorem dX9_least_0 : decode cX9_least 0 = .ok (.iconst 0, 1) := by decide +kernel
theorem dX9_least_1 : decode cX9_least 1 = .ok (.istore_n 3, 1) := by decide +kernel
theorem dX9_least_2 : decode cX9_least 2 = .ok (.iload_n 3, 1) := by decide +kernel
theorem dX9_least_3 : decode cX9_least 3 = .ok (.aload_n 0, 1) := by decide +kernel
theorem dX9_least_4 : decode cX9_least 4 = .ok (.getfield 66, 3) := by decide +kernel
theorem dX9_least_7 : decode cX9_least 7 = .ok (.if_icmp .ge 21, 3) := by decide +kernel
theorem dX9_least_10 : decode cX9_least 10 = .ok (.aload_n 0, 1) := by decide +kernel
theorem dX9_least_11 : decode cX9_least 11 = .ok (.getfield 62, 3) := by decide +kernel
theorem dX9_least_14 : decode cX9_least 14 = .ok (.iload_n 3, 1) := by decide +kernel
theorem dX9_least_15 : decode cX9_least 15 = .ok (.aload_n 0, 1) := by decide +kernel
theorem dX9_least_16 : decode cX9_least 16 = .ok (.iload_n 3, 1) := by decide +kernel
theorem dX9_least_17 : decode cX9_least 17 = .ok (.iload_n 1, 1) := by decide +kernel
theorem dX9_least_18 : decode cX9_least 18 = .ok (.invokevirtual 151, 3) := by decide +kernel
theorem dX9_least_21 : decode cX9_least 21 = .ok (.lastore, 1) := by decide +kernel
theorem dX9_least_22 : decode cX9_least 22 = .ok (.iinc 3 1, 3) := by decide +kernel
theorem dX9_least_25 : decode cX9_least 25 = .ok (.goto (-23), 3) := by decide +kernel
theorem dX9_least_28 : decode cX9_least 28 = .ok (.iconst 0, 1) := by decide +kernel
theorem dX9_least_29 : decode cX9_least 29 = .ok (.istore_n 3, 1) := by decide +kernel
theorem dX9_least_30 : decode cX9_least 30 = .ok (.iload_n 3, 1) := by decide +kernel
theorem dX9_least_31 : decode cX9_least 31 = .ok (.sipush 3000, 3) := by decide +kernel
theorem dX9_least_34 : decode cX9_least 34 = .ok (.if_icmp .gt 59, 3) := by decide +kernel
theorem dX9_least_37 : decode cX9_least 37 = .ok (.lconst 0, 1) := by decide +kernel
theorem dX9_least_38 : decode cX9_least 38 = .ok (.lstore 4, 2) := by decide +kernel
theorem dX9_least_40 : decode cX9_least 40 = .ok (.iconst 0, 1) := by decide +kernel
theorem dX9_least_41 : decode cX9_least 41 = .ok (.istore 6, 2) := by decide +kernel
theorem dX9_least_43 : decode cX9_least 43 = .ok (.iload 6, 2) := by decide +kernel
theorem dX9_least_45 : decode cX9_least 45 = .ok (.aload_n 0, 1) := by decide +kernel
theorem dX9_least_46 : decode cX9_least 46 = .ok (.getfield 66, 3) := by decide +kernel
theorem dX9_least_49 : decode cX9_least 49 = .ok (.if_icmp .ge 28, 3) := by decide +kernel
theorem dX9_least_52 : decode cX9_least 52 = .ok (.lload 4, 2) := by decide +kernel
theorem dX9_least_54 : decode cX9_least 54 = .ok (.aload_n 0, 1) := by decide +kernel
theorem dX9_least_55 : decode cX9_least 55 = .ok (.getfield 62, 3) := by decide +kernel
theorem dX9_least_58 : decode cX9_least 58 = .ok (.iload 6, 2) := by decide +kernel
theorem dX9_least_60 : decode cX9_least 60 = .ok (.laload, 1) := by decide +kernel
theorem dX9_least_61 : decode cX9_least 61 = .ok (.iload_n 3, 1) := by decide +kernel
theorem dX9_least_62 : decode cX9_least 62 = .ok (.i2l, 1) := by decide +kernel
theorem dX9_least_63 : decode cX9_least 63 = .ok (.lmul, 1) := by decide +kernel
theorem dX9_least_64 : decode cX9_least 64 = .ok (.ldc2_w 157, 3) := by decide +kernel
theorem dX9_least_67 : decode cX9_least 67 = .ok (.ldiv, 1) := by decide +kernel
theorem dX9_least_68 : decode cX9_least 68 = .ok (.ladd, 1) := by decide +kernel
theorem dX9_least_69 : decode cX9_least 69 = .ok (.lstore 4, 2) := by decide +kernel
theorem dX9_least_71 : decode cX9_least 71 = .ok (.iinc 6 1, 3) := by decide +kernel
theorem dX9_least_74 : decode cX9_least 74 = .ok (.goto (-31), 3) := by decide +kernel
theorem dX9_least_77 : decode cX9_least 77 = .ok (.lload 4, 2) := by decide +kernel
theorem dX9_least_79 : decode cX9_least 79 = .ok (.iload_n 2, 1) := by decide +kernel
theorem dX9_least_80 : decode cX9_least 80 = .ok (.i2l, 1) := by decide +kernel
theorem dX9_least_81 : decode cX9_least 81 = .ok (.lcmp, 1) := by decide +kernel
theorem dX9_least_82 : decode cX9_least 82 = .ok (.ifCond .lt 5, 3) := by decide +kernel
theorem dX9_least_85 : decode cX9_least 85 = .ok (.iload_n 3, 1) := by decide +kernel
theorem dX9_least_86 : decode cX9_least 86 = .ok (.ireturn, 1) := by decide +kernel
theorem dX9_least_87 : decode cX9_least 87 = .ok (.iinc 3 1, 3) := by decide +kernel
theorem dX9_least_90 : decode cX9_least 90 = .ok (.goto (-60), 3) := by decide +kernel
theorem dX9_least_93 : decode cX9_least 93 = .ok (.bipush (-4), 2) := by decide +kernel
theorem dX9_least_95 : decode cX9_least 95 = .ok (.ireturn, 1) := by decide +kernel
set_option maxRecDepth 20000 in
theorem ggX9_poundage_X9_isYear : GoodIn wsX9_poundage wsX9_isYear := goodIn_r _ [5, 6, 7, 4, 8] (by decide +kernel) (by decide +kernel)
set_option maxRecDepth 20000 in
theorem gX9_poundage_X9_isYear : GoodIn wsX9_poundage (va_wsS RX9 148 yX9_isYear wsX9_isYear) := goodIn_app (goodIn_of _ (by decide +kernel)) ggX9_poundage_X9_isYear
set_option maxRecDepth 20000 in
theorem ggX9_poundage_X9_in : GoodIn wsX9_poundage wsX9_in := goodIn_r _ [8] (by decide +kernel) (by decide +kernel)
set_option maxRecDepth 20000 in
theorem gX9_poundage_X9_in : GoodIn wsX9_poundage (va_wsS RX9 70 yX9_in wsX9_in) := goodIn_app (goodIn_of _ (by decide +kernel)) ggX9_poundage_X9_in
set_option maxRecDepth 20000 in
theorem ggX9_poundage_X9_least : GoodIn wsX9_poundage wsX9_least := goodIn_r _ [12, 13, 14, 15, 16, 17, 18, 4, 19, 20, 21, 22, 23, 24, 25, 26, 27, 28, 29, 30, 31, 32, 33, 34, 35, 36, 37, 38, 39, 40, 41, 42, 43, 44, 45, 46, 47, 48, 49, 50, 51, 52, 53, 54, 55, 56, 57, 58, 59, 60, 61, 62, 63, 64, 65, 66, 67, 68, 69, 70, 71, 72, 73, 74, 75, 76, 77, 78, 79, 80, 81, 82, 83, 84] (by decide +kernel) (by decide +kernel)
set_option maxRecDepth 20000 in
theorem gX9_poundage_X9_least : GoodIn wsX9_poundage (wsV RX9 160 RX9 yX9_least wsX9_least) := goodIn_app (goodIn_of _ (by decide +kernel)) ggX9_poundage_X9_least
theorem dX9_poundage_0 : decode cX9_poundage 0 = .ok (.iload_n 1, 1) := by decide +kernel
theorem dX9_poundage_1 : decode cX9_poundage 1 = .ok (.invokestatic 148, 3) := by decide +kernel
theorem dX9_poundage_4 : decode cX9_poundage 4 = .ok (.ifCond .eq 22, 3) := by decide +kernel
theorem dX9_poundage_7 : decode cX9_poundage 7 = .ok (.iload_n 2, 1) := by decide +kernel
theorem dX9_poundage_8 : decode cX9_poundage 8 = .ok (.iconst 0, 1) := by decide +kernel
theorem dX9_poundage_9 : decode cX9_poundage 9 = .ok (.ldc 159, 2) := by decide +kernel
theorem dX9_poundage_11 : decode cX9_poundage 11 = .ok (.invokestatic 70, 3) := by decide +kernel
theorem dX9_poundage_14 : decode cX9_poundage 14 = .ok (.ifCond .eq 12, 3) := by decide +kernel
theorem dX9_poundage_17 : decode cX9_poundage 17 = .ok (.aload_n 0, 1) := by decide +kernel
theorem dX9_poundage_18 : decode cX9_poundage 18 = .ok (.iload_n 1, 1) := by decide +kernel
theorem dX9_poundage_19 : decode cX9_poundage 19 = .ok (.iload_n 2, 1) := by decide +kernel
theorem dX9_poundage_20 : decode cX9_poundage 20 = .ok (.invokevirtual 160, 3) := by decide +kernel
theorem dX9_poundage_23 : decode cX9_poundage 23 = .ok (.goto 4, 3) := by decide +kernel
theorem dX9_poundage_26 : decode cX9_poundage 26 = .ok (.iconst (-1), 1) := by decide +kernel
theorem dX9_poundage_27 : decode cX9_poundage 27 = .ok (.ireturn, 1) := by decide +kernel
set_option maxRecDepth 20000 in
theorem ggX9_struck_X9_isYear : GoodIn wsX9_struck wsX9_isYear := goodIn_r _ [12, 13, 14, 11, 15] (by decide +kernel) (by decide +kernel)
set_option maxRecDepth 20000 in
theorem gX9_struck_X9_isYear : GoodIn wsX9_struck (va_wsS RX9 148 yX9_isYear wsX9_isYear) := goodIn_app (goodIn_of _ (by decide +kernel)) ggX9_struck_X9_isYear
set_option maxRecDepth 20000 in
theorem ggX9_struck_X9_in : GoodIn wsX9_struck wsX9_in := goodIn_r _ [15] (by decide +kernel) (by decide +kernel)
set_option maxRecDepth 20000 in
theorem gX9_struck_X9_in : GoodIn wsX9_struck (va_wsS RX9 70 yX9_in wsX9_in) := goodIn_app (goodIn_of _ (by decide +kernel)) ggX9_struck_X9_in
set_option maxRecDepth 20000 in
theorem ggX9_struck_X9_least : GoodIn wsX9_struck wsX9_least := goodIn_r _ [19, 5, 7, 8, 20, 21, 22, 11, 23, 24, 25, 26, 27, 28, 29, 30, 31, 32, 33, 34, 35, 36, 37, 38, 39, 40, 41, 42, 43, 44, 45, 46, 47, 48, 49, 50, 51, 52, 53, 54, 55, 56, 57, 58, 59, 60, 61, 62, 63, 64, 65, 66, 67, 68, 69, 70, 71, 72, 73, 74, 75, 76, 77, 78, 79, 80, 81, 82, 83, 84, 85, 86, 87, 88] (by decide +kernel) (by decide +kernel)
set_option maxRecDepth 20000 in
theorem gX9_struck_X9_least : GoodIn wsX9_struck (wsV RX9 160 RX9 yX9_least wsX9_least) := goodIn_app (goodIn_of _ (by decide +kernel)) ggX9_struck_X9_least
theorem dX9_struck_0 : decode cX9_struck 0 = .ok (.iload_n 1, 1) := by decide +kernel
theorem dX9_struck_1 : decode cX9_struck 1 = .ok (.invokestatic 148, 3) := by decide +kernel
theorem dX9_struck_4 : decode cX9_struck 4 = .ok (.ifCond .eq 13, 3) := by decide +kernel
theorem dX9_struck_7 : decode cX9_struck 7 = .ok (.iload_n 2, 1) := by decide +kernel
theorem dX9_struck_8 : decode cX9_struck 8 = .ok (.iconst 0, 1) := by decide +kernel
theorem dX9_struck_9 : decode cX9_struck 9 = .ok (.ldc 159, 2) := by decide +kernel
theorem dX9_struck_11 : decode cX9_struck 11 = .ok (.invokestatic 70, 3) := by decide +kernel
theorem dX9_struck_14 : decode cX9_struck 14 = .ok (.ifCond .ne 5, 3) := by decide +kernel
theorem dX9_struck_17 : decode cX9_struck 17 = .ok (.iconst (-1), 1) := by decide +kernel
theorem dX9_struck_18 : decode cX9_struck 18 = .ok (.ireturn, 1) := by decide +kernel
theorem dX9_struck_19 : decode cX9_struck 19 = .ok (.aload_n 0, 1) := by decide +kernel
theorem dX9_struck_20 : decode cX9_struck 20 = .ok (.iload_n 1, 1) := by decide +kernel
theorem dX9_struck_21 : decode cX9_struck 21 = .ok (.iload_n 2, 1) := by decide +kernel
theorem dX9_struck_22 : decode cX9_struck 22 = .ok (.invokevirtual 160, 3) := by decide +kernel
theorem dX9_struck_25 : decode cX9_struck 25 = .ok (.istore_n 3, 1) := by decide +kernel
theorem dX9_struck_26 : decode cX9_struck 26 = .ok (.iload_n 3, 1) := by decide +kernel
theorem dX9_struck_27 : decode cX9_struck 27 = .ok (.ifCond .ge 6, 3) := by decide +kernel
theorem dX9_struck_30 : decode cX9_struck 30 = .ok (.bipush (-2), 2) := by decide +kernel
theorem dX9_struck_32 : decode cX9_struck 32 = .ok (.ireturn, 1) := by decide +kernel
theorem dX9_struck_33 : decode cX9_struck 33 = .ok (.aload_n 0, 1) := by decide +kernel
theorem dX9_struck_34 : decode cX9_struck 34 = .ok (.getfield 46, 3) := by decide +kernel
theorem dX9_struck_37 : decode cX9_struck 37 = .ok (.iload_n 1, 1) := by decide +kernel
theorem dX9_struck_38 : decode cX9_struck 38 = .ok (.iconst 1, 1) := by decide +kernel
theorem dX9_struck_39 : decode cX9_struck 39 = .ok (.bastore, 1) := by decide +kernel
theorem dX9_struck_40 : decode cX9_struck 40 = .ok (.aload_n 0, 1) := by decide +kernel
theorem dX9_struck_41 : decode cX9_struck 41 = .ok (.getfield 50, 3) := by decide +kernel
theorem dX9_struck_44 : decode cX9_struck 44 = .ok (.iload_n 1, 1) := by decide +kernel
theorem dX9_struck_45 : decode cX9_struck 45 = .ok (.iload_n 3, 1) := by decide +kernel
theorem dX9_struck_46 : decode cX9_struck 46 = .ok (.iastore, 1) := by decide +kernel
theorem dX9_struck_47 : decode cX9_struck 47 = .ok (.aload_n 0, 1) := by decide +kernel
theorem dX9_struck_48 : decode cX9_struck 48 = .ok (.getfield 53, 3) := by decide +kernel
theorem dX9_struck_51 : decode cX9_struck 51 = .ok (.iload_n 1, 1) := by decide +kernel
theorem dX9_struck_52 : decode cX9_struck 52 = .ok (.iload_n 2, 1) := by decide +kernel
theorem dX9_struck_53 : decode cX9_struck 53 = .ok (.iastore, 1) := by decide +kernel
theorem dX9_struck_54 : decode cX9_struck 54 = .ok (.iconst 0, 1) := by decide +kernel
theorem dX9_struck_55 : decode cX9_struck 55 = .ok (.istore 4, 2) := by decide +kernel
theorem dX9_struck_57 : decode cX9_struck 57 = .ok (.iload 4, 2) := by decide +kernel
theorem dX9_struck_59 : decode cX9_struck 59 = .ok (.aload_n 0, 1) := by decide +kernel
theorem dX9_struck_60 : decode cX9_struck 60 = .ok (.getfield 66, 3) := by decide +kernel
theorem dX9_struck_63 : decode cX9_struck 63 = .ok (.if_icmp .ge 36, 3) := by decide +kernel
theorem dX9_struck_66 : decode cX9_struck 66 = .ok (.aload_n 0, 1) := by decide +kernel
theorem dX9_struck_67 : decode cX9_struck 67 = .ok (.getfield 56, 3) := by decide +kernel
theorem dX9_struck_70 : decode cX9_struck 70 = .ok (.bipush 10, 2) := by decide +kernel
theorem dX9_struck_72 : decode cX9_struck 72 = .ok (.iload 4, 2) := by decide +kernel
theorem dX9_struck_74 : decode cX9_struck 74 = .ok (.imul, 1) := by decide +kernel
theorem dX9_struck_75 : decode cX9_struck 75 = .ok (.iload_n 1, 1) := by decide +kernel
theorem dX9_struck_76 : decode cX9_struck 76 = .ok (.iadd, 1) := by decide +kernel
theorem dX9_struck_77 : decode cX9_struck 77 = .ok (.aload_n 0, 1) := by decide +kernel
theorem dX9_struck_78 : decode cX9_struck 78 = .ok (.getfield 62, 3) := by decide +kernel
theorem dX9_struck_81 : decode cX9_struck 81 = .ok (.iload 4, 2) := by decide +kernel
theorem dX9_struck_83 : decode cX9_struck 83 = .ok (.laload, 1) := by decide +kernel
theorem dX9_struck_84 : decode cX9_struck 84 = .ok (.iload_n 3, 1) := by decide +kernel
theorem dX9_struck_85 : decode cX9_struck 85 = .ok (.i2l, 1) := by decide +kernel
theorem dX9_struck_86 : decode cX9_struck 86 = .ok (.lmul, 1) := by decide +kernel
theorem dX9_struck_87 : decode cX9_struck 87 = .ok (.ldc2_w 157, 3) := by decide +kernel
theorem dX9_struck_90 : decode cX9_struck 90 = .ok (.ldiv, 1) := by decide +kernel
theorem dX9_struck_91 : decode cX9_struck 91 = .ok (.l2i, 1) := by decide +kernel
theorem dX9_struck_92 : decode cX9_struck 92 = .ok (.iastore, 1) := by decide +kernel
theorem dX9_struck_93 : decode cX9_struck 93 = .ok (.iinc 4 1, 3) := by decide +kernel
theorem dX9_struck_96 : decode cX9_struck 96 = .ok (.goto (-39), 3) := by decide +kernel
theorem dX9_struck_99 : decode cX9_struck 99 = .ok (.iload_n 3, 1) := by decide +kernel
theorem dX9_struck_100 : decode cX9_struck 100 = .ok (.ireturn, 1) := by decide +kernel
set_option maxRecDepth 20000 in
theorem ggX9_pay_X9_isHouse : GoodIn wsX9_pay wsX9_isHouse := goodIn_r _ [7, 8, 9, 10, 6, 11, 15, 16, 17, 18, 19, 20, 21, 22, 23, 24, 25, 26, 27, 28, 29, 30, 31, 32, 33, 34, 35, 36] (by decide +kernel) (by decide +kernel)
set_option maxRecDepth 20000 in
theorem gX9_pay_X9_isHouse : GoodIn wsX9_pay (wsV RX9 75 RX9 yX9_isHouse wsX9_isHouse) := goodIn_app (goodIn_of _ (by decide +kernel)) ggX9_pay_X9_isHouse
set_option maxRecDepth 20000 in
theorem ggX9_pay_X9_isYear : GoodIn wsX9_pay wsX9_isYear := goodIn_r _ [14, 9, 10, 6, 11] (by decide +kernel) (by decide +kernel)
set_option maxRecDepth 20000 in
theorem gX9_pay_X9_isYear : GoodIn wsX9_pay (va_wsS RX9 148 yX9_isYear wsX9_isYear) := goodIn_app (goodIn_of _ (by decide +kernel)) ggX9_pay_X9_isYear
set_option maxRecDepth 20000 in
theorem ggX9_pay_X9_in : GoodIn wsX9_pay wsX9_in := goodIn_r _ [11] (by decide +kernel) (by decide +kernel)
set_option maxRecDepth 20000 in
theorem gX9_pay_X9_in : GoodIn wsX9_pay (va_wsS RX9 70 yX9_in wsX9_in) := goodIn_app (goodIn_of _ (by decide +kernel)) ggX9_pay_X9_in
theorem dX9_pay_0 : decode cX9_pay 0 = .ok (.aload_n 0, 1) := by decide +kernel
theorem dX9_pay_1 : decode cX9_pay 1 = .ok (.iload_n 1, 1) := by decide +kernel
theorem dX9_pay_2 : decode cX9_pay 2 = .ok (.invokevirtual 75, 3) := by decide +kernel
theorem dX9_pay_5 : decode cX9_pay 5 = .ok (.ifCond .eq 20, 3) := by decide +kernel
theorem dX9_pay_8 : decode cX9_pay 8 = .ok (.iload_n 2, 1) := by decide +kernel
theorem dX9_pay_9 : decode cX9_pay 9 = .ok (.invokestatic 148, 3) := by decide +kernel
theorem dX9_pay_12 : decode cX9_pay 12 = .ok (.ifCond .eq 13, 3) := by decide +kernel
theorem dX9_pay_15 : decode cX9_pay 15 = .ok (.iload_n 3, 1) := by decide +kernel
theorem dX9_pay_16 : decode cX9_pay 16 = .ok (.iconst 1, 1) := by decide +kernel
theorem dX9_pay_17 : decode cX9_pay 17 = .ok (.ldc 163, 2) := by decide +kernel
theorem dX9_pay_19 : decode cX9_pay 19 = .ok (.invokestatic 70, 3) := by decide +kernel
theorem dX9_pay_22 : decode cX9_pay 22 = .ok (.ifCond .ne 5, 3) := by decide +kernel
theorem dX9_pay_25 : decode cX9_pay 25 = .ok (.iconst (-1), 1) := by decide +kernel
theorem dX9_pay_26 : decode cX9_pay 26 = .ok (.ireturn, 1) := by decide +kernel
theorem dX9_pay_27 : decode cX9_pay 27 = .ok (.aload_n 0, 1) := by decide +kernel
theorem dX9_pay_28 : decode cX9_pay 28 = .ok (.getfield 59, 3) := by decide +kernel
theorem dX9_pay_31 : decode cX9_pay 31 = .ok (.bipush 10, 2) := by decide +kernel
theorem dX9_pay_33 : decode cX9_pay 33 = .ok (.iload_n 1, 1) := by decide +kernel
theorem dX9_pay_34 : decode cX9_pay 34 = .ok (.imul, 1) := by decide +kernel
theorem dX9_pay_35 : decode cX9_pay 35 = .ok (.iload_n 2, 1) := by decide +kernel
theorem dX9_pay_36 : decode cX9_pay 36 = .ok (.iadd, 1) := by decide +kernel
theorem dX9_pay_37 : decode cX9_pay 37 = .ok (.iaload, 1) := by decide +kernel
theorem dX9_pay_38 : decode cX9_pay 38 = .ok (.iload_n 3, 1) := by decide +kernel
theorem dX9_pay_39 : decode cX9_pay 39 = .ok (.iadd, 1) := by decide +kernel
theorem dX9_pay_40 : decode cX9_pay 40 = .ok (.ldc 163, 2) := by decide +kernel
theorem dX9_pay_42 : decode cX9_pay 42 = .ok (.if_icmp .le 6, 3) := by decide +kernel
theorem dX9_pay_45 : decode cX9_pay 45 = .ok (.bipush (-3), 2) := by decide +kernel
theorem dX9_pay_47 : decode cX9_pay 47 = .ok (.ireturn, 1) := by decide +kernel
theorem dX9_pay_48 : decode cX9_pay 48 = .ok (.aload_n 0, 1) := by decide +kernel
theorem dX9_pay_49 : decode cX9_pay 49 = .ok (.getfield 59, 3) := by decide +kernel
theorem dX9_pay_52 : decode cX9_pay 52 = .ok (.bipush 10, 2) := by decide +kernel
theorem dX9_pay_54 : decode cX9_pay 54 = .ok (.iload_n 1, 1) := by decide +kernel
theorem dX9_pay_55 : decode cX9_pay 55 = .ok (.imul, 1) := by decide +kernel
theorem dX9_pay_56 : decode cX9_pay 56 = .ok (.iload_n 2, 1) := by decide +kernel
theorem dX9_pay_57 : decode cX9_pay 57 = .ok (.iadd, 1) := by decide +kernel
theorem dX9_pay_58 : decode cX9_pay 58 = .ok (.dup2, 1) := by decide +kernel
theorem dX9_pay_59 : decode cX9_pay 59 = .ok (.iaload, 1) := by decide +kernel
theorem dX9_pay_60 : decode cX9_pay 60 = .ok (.iload_n 3, 1) := by decide +kernel
theorem dX9_pay_61 : decode cX9_pay 61 = .ok (.iadd, 1) := by decide +kernel
theorem dX9_pay_62 : decode cX9_pay 62 = .ok (.iastore, 1) := by decide +kernel
theorem dX9_pay_63 : decode cX9_pay 63 = .ok (.aload_n 0, 1) := by decide +kernel
theorem dX9_pay_64 : decode cX9_pay 64 = .ok (.getfield 59, 3) := by decide +kernel
theorem dX9_pay_67 : decode cX9_pay 67 = .ok (.bipush 10, 2) := by decide +kernel
theorem dX9_pay_69 : decode cX9_pay 69 = .ok (.iload_n 1, 1) := by decide +kernel
theorem dX9_pay_70 : decode cX9_pay 70 = .ok (.imul, 1) := by decide +kernel
theorem dX9_pay_71 : decode cX9_pay 71 = .ok (.iload_n 2, 1) := by decide +kernel
theorem dX9_pay_72 : decode cX9_pay 72 = .ok (.iadd, 1) := by decide +kernel
theorem dX9_pay_73 : decode cX9_pay 73 = .ok (.iaload, 1) := by decide +kernel
theorem dX9_pay_74 : decode cX9_pay 74 = .ok (.ireturn, 1) := by decide +kernel
set_option maxRecDepth 20000 in
theorem ggX9_paid_X9_isHouse : GoodIn wsX9_paid wsX9_isHouse := goodIn_r _ [7, 8, 9, 10, 6, 11, 15, 16, 17, 18, 19, 20, 21, 22, 23, 24, 25, 26, 27, 28, 29, 30, 31, 32, 33, 34, 35, 36] (by decide +kernel) (by decide +kernel)
set_option maxRecDepth 20000 in
theorem gX9_paid_X9_isHouse : GoodIn wsX9_paid (wsV RX9 75 RX9 yX9_isHouse wsX9_isHouse) := goodIn_app (goodIn_of _ (by decide +kernel)) ggX9_paid_X9_isHouse
set_option maxRecDepth 20000 in
theorem ggX9_paid_X9_isYear : GoodIn wsX9_paid wsX9_isYear := goodIn_r _ [14, 9, 10, 6, 11] (by decide +kernel) (by decide +kernel)
set_option maxRecDepth 20000 in
theorem gX9_paid_X9_isYear : GoodIn wsX9_paid (va_wsS RX9 148 yX9_isYear wsX9_isYear) := goodIn_app (goodIn_of _ (by decide +kernel)) ggX9_paid_X9_isYear
set_option maxRecDepth 20000 in
theorem ggX9_paid_X9_in : GoodIn wsX9_paid wsX9_in := goodIn_r _ [11] (by decide +kernel) (by decide +kernel)
set_option maxRecDepth 20000 in
theorem gX9_paid_X9_in : GoodIn wsX9_paid (va_wsS RX9 70 yX9_in wsX9_in) := goodIn_app (goodIn_of _ (by decide +kernel)) ggX9_paid_X9_in
theorem dX9_paid_0 : decode cX9_paid 0 = .ok (.aload_n 0, 1) := by decide +kernel
theorem dX9_paid_1 : decode cX9_paid 1 = .ok (.iload_n 1, 1) := by decide +kernel
theorem dX9_paid_2 : decode cX9_paid 2 = .ok (.invokevirtual 75, 3) := by decide +kernel
theorem dX9_paid_5 : decode cX9_paid 5 = .ok (.ifCond .eq 19, 3) := by decide +kernel
theorem dX9_paid_8 : decode cX9_paid 8 = .ok (.iload_n 2, 1) := by decide +kernel
theorem dX9_paid_9 : decode cX9_paid 9 = .ok (.invokestatic 148, 3) := by decide +kernel
theorem dX9_paid_12 : decode cX9_paid 12 = .ok (.ifCond .eq 12, 3) := by decide +kernel
theorem dX9_paid_15 : decode cX9_paid 15 = .ok (.iload_n 3, 1) := by decide +kernel
theorem dX9_paid_16 : decode cX9_paid 16 = .ok (.iconst 0, 1) := by decide +kernel
theorem dX9_paid_17 : decode cX9_paid 17 = .ok (.iconst 1, 1) := by decide +kernel
theorem dX9_paid_18 : decode cX9_paid 18 = .ok (.invokestatic 70, 3) := by decide +kernel
theorem dX9_paid_21 : decode cX9_paid 21 = .ok (.ifCond .ne 5, 3) := by decide +kernel
theorem dX9_paid_24 : decode cX9_paid 24 = .ok (.iconst (-1), 1) := by decide +kernel
theorem dX9_paid_25 : decode cX9_paid 25 = .ok (.ireturn, 1) := by decide +kernel
theorem dX9_paid_26 : decode cX9_paid 26 = .ok (.iload_n 3, 1) := by decide +kernel
theorem dX9_paid_27 : decode cX9_paid 27 = .ok (.ifCond .ne 17, 3) := by decide +kernel
theorem dX9_paid_30 : decode cX9_paid 30 = .ok (.aload_n 0, 1) := by decide +kernel
theorem dX9_paid_31 : decode cX9_paid 31 = .ok (.getfield 56, 3) := by decide +kernel
theorem dX9_paid_34 : decode cX9_paid 34 = .ok (.bipush 10, 2) := by decide +kernel
theorem dX9_paid_36 : decode cX9_paid 36 = .ok (.iload_n 1, 1) := by decide +kernel
theorem dX9_paid_37 : decode cX9_paid 37 = .ok (.imul, 1) := by decide +kernel
theorem dX9_paid_38 : decode cX9_paid 38 = .ok (.iload_n 2, 1) := by decide +kernel
theorem dX9_paid_39 : decode cX9_paid 39 = .ok (.iadd, 1) := by decide +kernel
theorem dX9_paid_40 : decode cX9_paid 40 = .ok (.iaload, 1) := by decide +kernel
theorem dX9_paid_41 : decode cX9_paid 41 = .ok (.goto 14, 3) := by decide +kernel
theorem dX9_paid_44 : decode cX9_paid 44 = .ok (.aload_n 0, 1) := by decide +kernel
theorem dX9_paid_45 : decode cX9_paid 45 = .ok (.getfield 59, 3) := by decide +kernel
theorem dX9_paid_48 : decode cX9_paid 48 = .ok (.bipush 10, 2) := by decide +kernel
theorem dX9_paid_50 : decode cX9_paid 50 = .ok (.iload_n 1, 1) := by decide +kernel
theorem dX9_paid_51 : decode cX9_paid 51 = .ok (.imul, 1) := by decide +kernel
theorem dX9_paid_52 : decode cX9_paid 52 = .ok (.iload_n 2, 1) := by decide +kernel
theorem dX9_paid_53 : decode cX9_paid 53 = .ok (.iadd, 1) := by decide +kernel
theorem dX9_paid_54 : decode cX9_paid 54 = .ok (.iaload, 1) := by decide +kernel
theorem dX9_paid_55 : decode cX9_paid 55 = .ok (.ireturn, 1) := by decide +kernel
set_option maxRecDepth 20000 in
theorem ggX9_owed_X9_isHouse : GoodIn wsX9_owed wsX9_isHouse := goodIn_r _ [7, 8, 9, 10, 6, 11, 12, 13, 14, 15, 16, 17, 18, 19, 20, 21, 22, 23, 24, 25, 26, 27, 28, 29, 30, 31, 32, 33] (by decide +kernel) (by decide +kernel)
set_option maxRecDepth 20000 in
theorem gX9_owed_X9_isHouse : GoodIn wsX9_owed (wsV RX9 75 RX9 yX9_isHouse wsX9_isHouse) := goodIn_app (goodIn_of _ (by decide +kernel)) ggX9_owed_X9_isHouse
set_option maxRecDepth 20000 in
theorem ggX9_owed_X9_in : GoodIn wsX9_owed wsX9_in := goodIn_r _ [11] (by decide +kernel) (by decide +kernel)
set_option maxRecDepth 20000 in
theorem gX9_owed_X9_in : GoodIn wsX9_owed (va_wsS RX9 70 yX9_in wsX9_in) := goodIn_app (goodIn_of _ (by decide +kernel)) ggX9_owed_X9_in
theorem dX9_owed_0 : decode cX9_owed 0 = .ok (.aload_n 0, 1) := by decide +kernel
theorem dX9_owed_1 : decode cX9_owed 1 = .ok (.iload_n 1, 1) := by decide +kernel
theorem dX9_owed_2 : decode cX9_owed 2 = .ok (.invokevirtual 75, 3) := by decide +kernel
theorem dX9_owed_5 : decode cX9_owed 5 = .ok (.ifCond .eq 12, 3) := by decide +kernel
theorem dX9_owed_8 : decode cX9_owed 8 = .ok (.iload_n 2, 1) := by decide +kernel
theorem dX9_owed_9 : decode cX9_owed 9 = .ok (.iconst 0, 1) := by decide +kernel
theorem dX9_owed_10 : decode cX9_owed 10 = .ok (.iconst 1, 1) := by decide +kernel
theorem dX9_owed_11 : decode cX9_owed 11 = .ok (.invokestatic 70, 3) := by decide +kernel
theorem dX9_owed_14 : decode cX9_owed 14 = .ok (.ifCond .ne 5, 3) := by decide +kernel
theorem dX9_owed_17 : decode cX9_owed 17 = .ok (.iconst (-1), 1) := by decide +kernel
theorem dX9_owed_18 : decode cX9_owed 18 = .ok (.ireturn, 1) := by decide +kernel
theorem dX9_owed_19 : decode cX9_owed 19 = .ok (.iconst 0, 1) := by decide +kernel
theorem dX9_owed_20 : decode cX9_owed 20 = .ok (.istore_n 3, 1) := by decide +kernel
theorem dX9_owed_21 : decode cX9_owed 21 = .ok (.iconst 0, 1) := by decide +kernel
theorem dX9_owed_22 : decode cX9_owed 22 = .ok (.istore 4, 2) := by decide +kernel
theorem dX9_owed_24 : decode cX9_owed 24 = .ok (.iload 4, 2) := by decide +kernel
theorem dX9_owed_26 : decode cX9_owed 26 = .ok (.bipush 10, 2) := by decide +kernel
theorem dX9_owed_28 : decode cX9_owed 28 = .ok (.if_icmp .ge 85, 3) := by decide +kernel
theorem dX9_owed_31 : decode cX9_owed 31 = .ok (.aload_n 0, 1) := by decide +kernel
theorem dX9_owed_32 : decode cX9_owed 32 = .ok (.getfield 56, 3) := by decide +kernel
theorem dX9_owed_35 : decode cX9_owed 35 = .ok (.bipush 10, 2) := by decide +kernel
theorem dX9_owed_37 : decode cX9_owed 37 = .ok (.iload_n 1, 1) := by decide +kernel
theorem dX9_owed_38 : decode cX9_owed 38 = .ok (.imul, 1) := by decide +kernel
theorem dX9_owed_39 : decode cX9_owed 39 = .ok (.iload 4, 2) := by decide +kernel
theorem dX9_owed_41 : decode cX9_owed 41 = .ok (.iadd, 1) := by decide +kernel
theorem dX9_owed_42 : decode cX9_owed 42 = .ok (.iaload, 1) := by decide +kernel
theorem dX9_owed_43 : decode cX9_owed 43 = .ok (.bipush (-4), 2) := by decide +kernel
theorem dX9_owed_45 : decode cX9_owed 45 = .ok (.if_icmp .ne 7, 3) := by decide +kernel
theorem dX9_owed_48 : decode cX9_owed 48 = .ok (.iconst 0, 1) := by decide +kernel
theorem dX9_owed_49 : decode cX9_owed 49 = .ok (.goto 28, 3) := by decide +kernel
theorem dX9_owed_52 : decode cX9_owed 52 = .ok (.aload_n 0, 1) := by decide +kernel
theorem dX9_owed_53 : decode cX9_owed 53 = .ok (.getfield 56, 3) := by decide +kernel
theorem dX9_owed_56 : decode cX9_owed 56 = .ok (.bipush 10, 2) := by decide +kernel
theorem dX9_owed_58 : decode cX9_owed 58 = .ok (.iload_n 1, 1) := by decide +kernel
theorem dX9_owed_59 : decode cX9_owed 59 = .ok (.imul, 1) := by decide +kernel
theorem dX9_owed_60 : decode cX9_owed 60 = .ok (.iload 4, 2) := by decide +kernel
theorem dX9_owed_62 : decode cX9_owed 62 = .ok (.iadd, 1) := by decide +kernel
theorem dX9_owed_63 : decode cX9_owed 63 = .ok (.iaload, 1) := by decide +kernel
theorem dX9_owed_64 : decode cX9_owed 64 = .ok (.aload_n 0, 1) := by decide +kernel
theorem dX9_owed_65 : decode cX9_owed 65 = .ok (.getfield 59, 3) := by decide +kernel
theorem dX9_owed_68 : decode cX9_owed 68 = .ok (.bipush 10, 2) := by decide +kernel
theorem dX9_owed_70 : decode cX9_owed 70 = .ok (.iload_n 1, 1) := by decide +kernel
theorem dX9_owed_71 : decode cX9_owed 71 = .ok (.imul, 1) := by decide +kernel
theorem dX9_owed_72 : decode cX9_owed 72 = .ok (.iload 4, 2) := by decide +kernel
theorem dX9_owed_74 : decode cX9_owed 74 = .ok (.iadd, 1) := by decide +kernel
theorem dX9_owed_75 : decode cX9_owed 75 = .ok (.iaload, 1) := by decide +kernel
theorem dX9_owed_76 : decode cX9_owed 76 = .ok (.isub, 1) := by decide +kernel
theorem dX9_owed_77 : decode cX9_owed 77 = .ok (.istore 5, 2) := by decide +kernel
theorem dX9_owed_79 : decode cX9_owed 79 = .ok (.iload_n 2, 1) := by decide +kernel
theorem dX9_owed_80 : decode cX9_owed 80 = .ok (.ifCond .ne 8, 3) := by decide +kernel
theorem dX9_owed_83 : decode cX9_owed 83 = .ok (.iload 5, 2) := by decide +kernel
theorem dX9_owed_85 : decode cX9_owed 85 = .ok (.goto 6, 3) := by decide +kernel
theorem dX9_owed_88 : decode cX9_owed 88 = .ok (.iload 5, 2) := by decide +kernel
theorem dX9_owed_90 : decode cX9_owed 90 = .ok (.ineg, 1) := by decide +kernel
theorem dX9_owed_91 : decode cX9_owed 91 = .ok (.istore 5, 2) := by decide +kernel
theorem dX9_owed_93 : decode cX9_owed 93 = .ok (.iload_n 3, 1) := by decide +kernel
theorem dX9_owed_94 : decode cX9_owed 94 = .ok (.iload 5, 2) := by decide +kernel
theorem dX9_owed_96 : decode cX9_owed 96 = .ok (.ifCond .le 8, 3) := by decide +kernel
theorem dX9_owed_99 : decode cX9_owed 99 = .ok (.iload 5, 2) := by decide +kernel
theorem dX9_owed_101 : decode cX9_owed 101 = .ok (.goto 4, 3) := by decide +kernel
theorem dX9_owed_104 : decode cX9_owed 104 = .ok (.iconst 0, 1) := by decide +kernel
theorem dX9_owed_105 : decode cX9_owed 105 = .ok (.iadd, 1) := by decide +kernel
theorem dX9_owed_106 : decode cX9_owed 106 = .ok (.istore_n 3, 1) := by decide +kernel
theorem dX9_owed_107 : decode cX9_owed 107 = .ok (.iinc 4 1, 3) := by decide +kernel
theorem dX9_owed_110 : decode cX9_owed 110 = .ok (.goto (-86), 3) := by decide +kernel
theorem dX9_owed_113 : decode cX9_owed 113 = .ok (.iload_n 3, 1) := by decide +kernel
theorem dX9_owed_114 : decode cX9_owed 114 = .ok (.ireturn, 1) := by decide +kernel
set_option maxRecDepth 20000 in
theorem ggX9_ward_X9_in : GoodIn wsX9_ward wsX9_in := goodIn_r _ [11] (by decide +kernel) (by decide +kernel)
set_option maxRecDepth 20000 in
theorem gX9_ward_X9_in : GoodIn wsX9_ward (va_wsS RX9 70 yX9_in wsX9_in) := goodIn_app (goodIn_of _ (by decide +kernel)) ggX9_ward_X9_in
set_option maxRecDepth 20000 in
theorem ggX9_ward_X9_isYear : GoodIn wsX9_ward wsX9_isYear := goodIn_r _ [14, 8, 9, 10, 11] (by decide +kernel) (by decide +kernel)
set_option maxRecDepth 20000 in
theorem gX9_ward_X9_isYear : GoodIn wsX9_ward (va_wsS RX9 148 yX9_isYear wsX9_isYear) := goodIn_app (goodIn_of _ (by decide +kernel)) ggX9_ward_X9_isYear
theorem dX9_ward_0 : decode cX9_ward 0 = .ok (.iload_n 1, 1) := by decide +kernel
theorem dX9_ward_1 : decode cX9_ward 1 = .ok (.iconst (-1), 1) := by decide +kernel
theorem dX9_ward_2 : decode cX9_ward 2 = .ok (.iconst 3, 1) := by decide +kernel
theorem dX9_ward_3 : decode cX9_ward 3 = .ok (.invokestatic 70, 3) := by decide +kernel
theorem dX9_ward_6 : decode cX9_ward 6 = .ok (.ifCond .eq 19, 3) := by decide +kernel
theorem dX9_ward_9 : decode cX9_ward 9 = .ok (.iload_n 2, 1) := by decide +kernel
theorem dX9_ward_10 : decode cX9_ward 10 = .ok (.invokestatic 148, 3) := by decide +kernel
theorem dX9_ward_13 : decode cX9_ward 13 = .ok (.ifCond .eq 12, 3) := by decide +kernel
theorem dX9_ward_16 : decode cX9_ward 16 = .ok (.iload_n 3, 1) := by decide +kernel
theorem dX9_ward_17 : decode cX9_ward 17 = .ok (.iconst 0, 1) := by decide +kernel
theorem dX9_ward_18 : decode cX9_ward 18 = .ok (.iconst 3, 1) := by decide +kernel
theorem dX9_ward_19 : decode cX9_ward 19 = .ok (.invokestatic 70, 3) := by decide +kernel
theorem dX9_ward_22 : decode cX9_ward 22 = .ok (.ifCond .ne 5, 3) := by decide +kernel
theorem dX9_ward_25 : decode cX9_ward 25 = .ok (.iconst (-1), 1) := by decide +kernel
theorem dX9_ward_26 : decode cX9_ward 26 = .ok (.ireturn, 1) := by decide +kernel
theorem dX9_ward_27 : decode cX9_ward 27 = .ok (.aload_n 0, 1) := by decide +kernel
theorem dX9_ward_28 : decode cX9_ward 28 = .ok (.getfield 46, 3) := by decide +kernel
theorem dX9_ward_31 : decode cX9_ward 31 = .ok (.iload_n 2, 1) := by decide +kernel
theorem dX9_ward_32 : decode cX9_ward 32 = .ok (.baload, 1) := by decide +kernel
theorem dX9_ward_33 : decode cX9_ward 33 = .ok (.ifCond .ne 6, 3) := by decide +kernel
theorem dX9_ward_36 : decode cX9_ward 36 = .ok (.bipush (-2), 2) := by decide +kernel
theorem dX9_ward_38 : decode cX9_ward 38 = .ok (.ireturn, 1) := by decide +kernel
theorem dX9_ward_39 : decode cX9_ward 39 = .ok (.iload_n 3, 1) := by decide +kernel
theorem dX9_ward_40 : decode cX9_ward 40 = .ok (.iconst 1, 1) := by decide +kernel
theorem dX9_ward_41 : decode cX9_ward 41 = .ok (.if_icmp .le 24, 3) := by decide +kernel
theorem dX9_ward_44 : decode cX9_ward 44 = .ok (.iload_n 3, 1) := by decide +kernel
theorem dX9_ward_45 : decode cX9_ward 45 = .ok (.iconst 2, 1) := by decide +kernel
theorem dX9_ward_46 : decode cX9_ward 46 = .ok (.if_icmp .ne 12, 3) := by decide +kernel
theorem dX9_ward_49 : decode cX9_ward 49 = .ok (.aload_n 0, 1) := by decide +kernel
theorem dX9_ward_50 : decode cX9_ward 50 = .ok (.getfield 50, 3) := by decide +kernel
theorem dX9_ward_53 : decode cX9_ward 53 = .ok (.iload_n 2, 1) := by decide +kernel
theorem dX9_ward_54 : decode cX9_ward 54 = .ok (.iaload, 1) := by decide +kernel
theorem dX9_ward_55 : decode cX9_ward 55 = .ok (.goto 9, 3) := by decide +kernel
theorem dX9_ward_58 : decode cX9_ward 58 = .ok (.aload_n 0, 1) := by decide +kernel
theorem dX9_ward_59 : decode cX9_ward 59 = .ok (.getfield 53, 3) := by decide +kernel
theorem dX9_ward_62 : decode cX9_ward 62 = .ok (.iload_n 2, 1) := by decide +kernel
theorem dX9_ward_63 : decode cX9_ward 63 = .ok (.iaload, 1) := by decide +kernel
theorem dX9_ward_64 : decode cX9_ward 64 = .ok (.ireturn, 1) := by decide +kernel
theorem dX9_ward_65 : decode cX9_ward 65 = .ok (.iconst 0, 1) := by decide +kernel
theorem dX9_ward_66 : decode cX9_ward 66 = .ok (.istore 4, 2) := by decide +kernel
theorem dX9_ward_68 : decode cX9_ward 68 = .ok (.iconst 0, 1) := by decide +kernel
theorem dX9_ward_69 : decode cX9_ward 69 = .ok (.istore 5, 2) := by decide +kernel
theorem dX9_ward_71 : decode cX9_ward 71 = .ok (.iload 5, 2) := by decide +kernel
theorem dX9_ward_73 : decode cX9_ward 73 = .ok (.aload_n 0, 1) := by decide +kernel
theorem dX9_ward_74 : decode cX9_ward 74 = .ok (.getfield 66, 3) := by decide +kernel
theorem dX9_ward_77 : decode cX9_ward 77 = .ok (.if_icmp .ge 102, 3) := by decide +kernel
theorem dX9_ward_80 : decode cX9_ward 80 = .ok (.iload_n 1, 1) := by decide +kernel
theorem dX9_ward_81 : decode cX9_ward 81 = .ok (.ifCond .lt 14, 3) := by decide +kernel
theorem dX9_ward_84 : decode cX9_ward 84 = .ok (.aload_n 0, 1) := by decide +kernel
theorem dX9_ward_85 : decode cX9_ward 85 = .ok (.getfield 7, 3) := by decide +kernel
theorem dX9_ward_88 : decode cX9_ward 88 = .ok (.iload 5, 2) := by decide +kernel
theorem dX9_ward_90 : decode cX9_ward 90 = .ok (.iaload, 1) := by decide +kernel
theorem dX9_ward_91 : decode cX9_ward 91 = .ok (.iload_n 1, 1) := by decide +kernel
theorem dX9_ward_92 : decode cX9_ward 92 = .ok (.if_icmp .ne 7, 3) := by decide +kernel
theorem dX9_ward_95 : decode cX9_ward 95 = .ok (.iconst 1, 1) := by decide +kernel
theorem dX9_ward_96 : decode cX9_ward 96 = .ok (.goto 4, 3) := by decide +kernel
theorem dX9_ward_99 : decode cX9_ward 99 = .ok (.iconst 0, 1) := by decide +kernel
theorem dX9_ward_100 : decode cX9_ward 100 = .ok (.istore 6, 2) := by decide +kernel
theorem dX9_ward_102 : decode cX9_ward 102 = .ok (.iload_n 3, 1) := by decide +kernel
theorem dX9_ward_103 : decode cX9_ward 103 = .ok (.iconst 1, 1) := by decide +kernel
theorem dX9_ward_104 : decode cX9_ward 104 = .ok (.if_icmp .ne 18, 3) := by decide +kernel
theorem dX9_ward_107 : decode cX9_ward 107 = .ok (.aload_n 0, 1) := by decide +kernel
theorem dX9_ward_108 : decode cX9_ward 108 = .ok (.getfield 59, 3) := by decide +kernel
theorem dX9_ward_111 : decode cX9_ward 111 = .ok (.bipush 10, 2) := by decide +kernel
theorem dX9_ward_113 : decode cX9_ward 113 = .ok (.iload 5, 2) := by decide +kernel
theorem dX9_ward_115 : decode cX9_ward 115 = .ok (.imul, 1) := by decide +kernel
theorem dX9_ward_116 : decode cX9_ward 116 = .ok (.iload_n 2, 1) := by decide +kernel
theorem dX9_ward_117 : decode cX9_ward 117 = .ok (.iadd, 1) := by decide +kernel
theorem dX9_ward_118 : decode cX9_ward 118 = .ok (.iaload, 1) := by decide +kernel
theorem dX9_ward_119 : decode cX9_ward 119 = .ok (.goto 36, 3) := by decide +kernel
theorem dX9_ward_122 : decode cX9_ward 122 = .ok (.aload_n 0, 1) := by decide +kernel
theorem dX9_ward_123 : decode cX9_ward 123 = .ok (.getfield 56, 3) := by decide +kernel
theorem dX9_ward_126 : decode cX9_ward 126 = .ok (.bipush 10, 2) := by decide +kernel
theorem dX9_ward_128 : decode cX9_ward 128 = .ok (.iload 5, 2) := by decide +kernel
theorem dX9_ward_130 : decode cX9_ward 130 = .ok (.imul, 1) := by decide +kernel
theorem dX9_ward_131 : decode cX9_ward 131 = .ok (.iload_n 2, 1) := by decide +kernel
theorem dX9_ward_132 : decode cX9_ward 132 = .ok (.iadd, 1) := by decide +kernel
theorem dX9_ward_133 : decode cX9_ward 133 = .ok (.iaload, 1) := by decide +kernel
theorem dX9_ward_134 : decode cX9_ward 134 = .ok (.bipush (-4), 2) := by decide +kernel
theorem dX9_ward_136 : decode cX9_ward 136 = .ok (.if_icmp .ne 7, 3) := by decide +kernel
theorem dX9_ward_139 : decode cX9_ward 139 = .ok (.iconst 0, 1) := by decide +kernel
theorem dX9_ward_140 : decode cX9_ward 140 = .ok (.goto 15, 3) := by decide +kernel
theorem dX9_ward_143 : decode cX9_ward 143 = .ok (.aload_n 0, 1) := by decide +kernel
theorem dX9_ward_144 : decode cX9_ward 144 = .ok (.getfield 56, 3) := by decide +kernel
theorem dX9_ward_147 : decode cX9_ward 147 = .ok (.bipush 10, 2) := by decide +kernel
theorem dX9_ward_149 : decode cX9_ward 149 = .ok (.iload 5, 2) := by decide +kernel
theorem dX9_ward_151 : decode cX9_ward 151 = .ok (.imul, 1) := by decide +kernel
theorem dX9_ward_152 : decode cX9_ward 152 = .ok (.iload_n 2, 1) := by decide +kernel
theorem dX9_ward_153 : decode cX9_ward 153 = .ok (.iadd, 1) := by decide +kernel
theorem dX9_ward_154 : decode cX9_ward 154 = .ok (.iaload, 1) := by decide +kernel
theorem dX9_ward_155 : decode cX9_ward 155 = .ok (.istore 7, 2) := by decide +kernel
theorem dX9_ward_157 : decode cX9_ward 157 = .ok (.iload 4, 2) := by decide +kernel
theorem dX9_ward_159 : decode cX9_ward 159 = .ok (.iload 6, 2) := by decide +kernel
theorem dX9_ward_161 : decode cX9_ward 161 = .ok (.ifCond .eq 8, 3) := by decide +kernel
theorem dX9_ward_164 : decode cX9_ward 164 = .ok (.iload 7, 2) := by decide +kernel
theorem dX9_ward_166 : decode cX9_ward 166 = .ok (.goto 4, 3) := by decide +kernel
theorem dX9_ward_169 : decode cX9_ward 169 = .ok (.iconst 0, 1) := by decide +kernel
theorem dX9_ward_170 : decode cX9_ward 170 = .ok (.iadd, 1) := by decide +kernel
theorem dX9_ward_171 : decode cX9_ward 171 = .ok (.istore 4, 2) := by decide +kernel
theorem dX9_ward_173 : decode cX9_ward 173 = .ok (.iinc 5 1, 3) := by decide +kernel
theorem dX9_ward_176 : decode cX9_ward 176 = .ok (.goto (-105), 3) := by decide +kernel
theorem dX9_ward_179 : decode cX9_ward 179 = .ok (.iload 4, 2) := by decide +kernel
theorem dX9_ward_181 : decode cX9_ward 181 = .ok (.ireturn, 1) := by decide +kernel
theorem dX9_count_0 : decode cX9_count 0 = .ok (.iconst 0, 1) := by decide +kernel
theorem dX9_count_1 : decode cX9_count 1 = .ok (.istore_n 2, 1) := by decide +kernel
theorem dX9_count_2 : decode cX9_count 2 = .ok (.iconst 0, 1) := by decide +kernel
theorem dX9_count_3 : decode cX9_count 3 = .ok (.istore_n 3, 1) := by decide +kernel
theorem dX9_count_4 : decode cX9_count 4 = .ok (.iconst 0, 1) := by decide +kernel
theorem dX9_count_5 : decode cX9_count 5 = .ok (.istore 4, 2) := by decide +kernel
theorem dX9_count_7 : decode cX9_count 7 = .ok (.iconst 0, 1) := by decide +kernel
theorem dX9_count_8 : decode cX9_count 8 = .ok (.istore 5, 2) := by decide +kernel
theorem dX9_count_10 : decode cX9_count 10 = .ok (.iload 5, 2) := by decide +kernel
theorem dX9_count_12 : decode cX9_count 12 = .ok (.aload_n 0, 1) := by decide +kernel
theorem dX9_count_13 : decode cX9_count 13 = .ok (.getfield 66, 3) := by decide +kernel
theorem dX9_count_16 : decode cX9_count 16 = .ok (.if_icmp .ge 37, 3) := by decide +kernel
theorem dX9_count_19 : decode cX9_count 19 = .ok (.iload_n 2, 1) := by decide +kernel
theorem dX9_count_20 : decode cX9_count 20 = .ok (.aload_n 0, 1) := by decide +kernel
theorem dX9_count_21 : decode cX9_count 21 = .ok (.getfield 25, 3) := by decide +kernel
theorem dX9_count_24 : decode cX9_count 24 = .ok (.iload 5, 2) := by decide +kernel
theorem dX9_count_26 : decode cX9_count 26 = .ok (.iaload, 1) := by decide +kernel
theorem dX9_count_27 : decode cX9_count 27 = .ok (.iadd, 1) := by decide +kernel
theorem dX9_count_28 : decode cX9_count 28 = .ok (.istore_n 2, 1) := by decide +kernel
theorem dX9_count_29 : decode cX9_count 29 = .ok (.iload_n 3, 1) := by decide +kernel
theorem dX9_count_30 : decode cX9_count 30 = .ok (.aload_n 0, 1) := by decide +kernel
theorem dX9_count_31 : decode cX9_count 31 = .ok (.getfield 22, 3) := by decide +kernel
theorem dX9_count_34 : decode cX9_count 34 = .ok (.iload 5, 2) := by decide +kernel
theorem dX9_count_36 : decode cX9_count 36 = .ok (.iaload, 1) := by decide +kernel
theorem dX9_count_37 : decode cX9_count 37 = .ok (.ifCond .le 7, 3) := by decide +kernel
theorem dX9_count_40 : decode cX9_count 40 = .ok (.iconst 1, 1) := by decide +kernel
theorem dX9_count_41 : decode cX9_count 41 = .ok (.goto 4, 3) := by decide +kernel
theorem dX9_count_44 : decode cX9_count 44 = .ok (.iconst 0, 1) := by decide +kernel
theorem dX9_count_45 : decode cX9_count 45 = .ok (.iadd, 1) := by decide +kernel
theorem dX9_count_46 : decode cX9_count 46 = .ok (.istore_n 3, 1) := by decide +kernel
theorem dX9_count_47 : decode cX9_count 47 = .ok (.iinc 5 1, 3) := by decide +kernel
theorem dX9_count_50 : decode cX9_count 50 = .ok (.goto (-40), 3) := by decide +kernel
theorem dX9_count_53 : decode cX9_count 53 = .ok (.iconst 0, 1) := by decide +kernel
theorem dX9_count_54 : decode cX9_count 54 = .ok (.istore 5, 2) := by decide +kernel
theorem dX9_count_56 : decode cX9_count 56 = .ok (.iload 5, 2) := by decide +kernel
theorem dX9_count_58 : decode cX9_count 58 = .ok (.bipush 10, 2) := by decide +kernel
theorem dX9_count_60 : decode cX9_count 60 = .ok (.if_icmp .ge 29, 3) := by decide +kernel
theorem dX9_count_63 : decode cX9_count 63 = .ok (.iload 4, 2) := by decide +kernel
theorem dX9_count_65 : decode cX9_count 65 = .ok (.aload_n 0, 1) := by decide +kernel
theorem dX9_count_66 : decode cX9_count 66 = .ok (.getfield 46, 3) := by decide +kernel
theorem dX9_count_69 : decode cX9_count 69 = .ok (.iload 5, 2) := by decide +kernel
theorem dX9_count_71 : decode cX9_count 71 = .ok (.baload, 1) := by decide +kernel
theorem dX9_count_72 : decode cX9_count 72 = .ok (.ifCond .eq 7, 3) := by decide +kernel
theorem dX9_count_75 : decode cX9_count 75 = .ok (.iconst 1, 1) := by decide +kernel
theorem dX9_count_76 : decode cX9_count 76 = .ok (.goto 4, 3) := by decide +kernel
theorem dX9_count_79 : decode cX9_count 79 = .ok (.iconst 0, 1) := by decide +kernel
theorem dX9_count_80 : decode cX9_count 80 = .ok (.iadd, 1) := by decide +kernel
theorem dX9_count_81 : decode cX9_count 81 = .ok (.istore 4, 2) := by decide +kernel
theorem dX9_count_83 : decode cX9_count 83 = .ok (.iinc 5 1, 3) := by decide +kernel
theorem dX9_count_86 : decode cX9_count 86 = .ok (.goto (-30), 3) := by decide +kernel
theorem dX9_count_89 : decode cX9_count 89 = .ok (.iload_n 1, 1) := by decide +kernel
theorem dX9_count_90 : decode cX9_count 90 = .ok (.tableswitch 51 0 4 #[34, 39, 44, 46, 49], 34) := by decide +kernel
theorem dX9_count_124 : decode cX9_count 124 = .ok (.aload_n 0, 1) := by decide +kernel
theorem dX9_count_125 : decode cX9_count 125 = .ok (.getfield 66, 3) := by decide +kernel
theorem dX9_count_128 : decode cX9_count 128 = .ok (.ireturn, 1) := by decide +kernel
theorem dX9_count_129 : decode cX9_count 129 = .ok (.aload_n 0, 1) := by decide +kernel
theorem dX9_count_130 : decode cX9_count 130 = .ok (.getfield 103, 3) := by decide +kernel
theorem dX9_count_133 : decode cX9_count 133 = .ok (.ireturn, 1) := by decide +kernel
theorem dX9_count_134 : decode cX9_count 134 = .ok (.iload_n 2, 1) := by decide +kernel
theorem dX9_count_135 : decode cX9_count 135 = .ok (.ireturn, 1) := by decide +kernel
theorem dX9_count_136 : decode cX9_count 136 = .ok (.iload 4, 2) := by decide +kernel
theorem dX9_count_138 : decode cX9_count 138 = .ok (.ireturn, 1) := by decide +kernel
theorem dX9_count_139 : decode cX9_count 139 = .ok (.iload_n 3, 1) := by decide +kernel
theorem dX9_count_140 : decode cX9_count 140 = .ok (.ireturn, 1) := by decide +kernel
theorem dX9_count_141 : decode cX9_count 141 = .ok (.iconst (-1), 1) := by decide +kernel
theorem dX9_count_142 : decode cX9_count 142 = .ok (.ireturn, 1) := by decide +kernel
