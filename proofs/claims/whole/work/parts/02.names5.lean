set_option maxRecDepth 20000 in
theorem ggX8_sumOfYear_X1_nextChange : GoodIn wsX8_sumOfYear wsX1_nextChange := goodIn_r _ [7, 8, 9, 10, 11, 12, 88, 89, 90, 91, 92, 93] (by decide +kernel) (by decide +kernel)
set_option maxRecDepth 20000 in
theorem gX8_sumOfYear_X1_nextChange : GoodIn wsX8_sumOfYear (wsV RX8 254 RX1 yX1_nextChange wsX1_nextChange) := goodIn_app (goodIn_of _ (by decide +kernel)) ggX8_sumOfYear_X1_nextChange
set_option maxRecDepth 20000 in
theorem ggX8_sumOfYear_X3_nextChange : GoodIn wsX8_sumOfYear wsX3_nextChange := goodIn_r _ [17, 18, 19, 10, 11, 12, 94, 95, 96, 97] (by decide +kernel) (by decide +kernel)
set_option maxRecDepth 20000 in
theorem gX8_sumOfYear_X3_nextChange : GoodIn wsX8_sumOfYear (wsV RX8 257 RX3 yX3_nextChange wsX3_nextChange) := goodIn_app (goodIn_of _ (by decide +kernel)) ggX8_sumOfYear_X3_nextChange
set_option maxRecDepth 20000 in
theorem ggX8_sumOfYear_X8_countedOn : GoodIn wsX8_sumOfYear wsX8_countedOn := goodIn_r _ [23, 2, 24, 25, 26, 27, 28, 11, 29, 1, 30, 31, 32, 33, 34, 35, 16, 36, 18, 19, 37, 38, 39, 40, 41, 42, 43, 44, 45, 46, 47, 48, 49, 50, 51, 52, 53, 54, 55, 56, 57, 6, 58, 8, 59, 9, 60, 61, 62, 63, 64, 65, 66, 67, 68, 69, 70, 71, 72, 73, 81, 82, 83, 84, 85, 86, 87, 90, 91, 92, 93, 77, 78, 79, 80, 96, 97, 94, 95, 88, 89, 98, 99, 100, 101] (by decide +kernel) (by decide +kernel)
set_option maxRecDepth 20000 in
theorem gX8_sumOfYear_X8_countedOn : GoodIn wsX8_sumOfYear (wsV RX8 139 RX8 yX8_countedOn wsX8_countedOn) := goodIn_app (goodIn_of _ (by decide +kernel)) ggX8_sumOfYear_X8_countedOn
set_option maxRecDepth 20000 in
theorem ggX8_sumOfYear_X8_relieved : GoodIn wsX8_sumOfYear wsX8_relieved := goodIn_r _ [76] (by decide +kernel) (by decide +kernel)
set_option maxRecDepth 20000 in
theorem gX8_sumOfYear_X8_relieved : GoodIn wsX8_sumOfYear (va_wsS RX8 142 yX8_relieved wsX8_relieved) := goodIn_app (goodIn_of _ (by decide +kernel)) ggX8_sumOfYear_X8_relieved
theorem dX8_sumOfYear_0 : decode cX8_sumOfYear 0 = .ok (.iload_n 2, 1) := by decide +kernel
theorem dX8_sumOfYear_1 : decode cX8_sumOfYear 1 = .ok (.iconst 1, 1) := by decide +kernel
theorem dX8_sumOfYear_2 : decode cX8_sumOfYear 2 = .ok (.iadd, 1) := by decide +kernel
theorem dX8_sumOfYear_3 : decode cX8_sumOfYear 3 = .ok (.sipush 365, 3) := by decide +kernel
theorem dX8_sumOfYear_6 : decode cX8_sumOfYear 6 = .ok (.imul, 1) := by decide +kernel
theorem dX8_sumOfYear_7 : decode cX8_sumOfYear 7 = .ok (.istore_n 3, 1) := by decide +kernel
theorem dX8_sumOfYear_8 : decode cX8_sumOfYear 8 = .ok (.iload_n 2, 1) := by decide +kernel
theorem dX8_sumOfYear_9 : decode cX8_sumOfYear 9 = .ok (.sipush 365, 3) := by decide +kernel
theorem dX8_sumOfYear_12 : decode cX8_sumOfYear 12 = .ok (.imul, 1) := by decide +kernel
theorem dX8_sumOfYear_13 : decode cX8_sumOfYear 13 = .ok (.istore 4, 2) := by decide +kernel
theorem dX8_sumOfYear_15 : decode cX8_sumOfYear 15 = .ok (.lconst 0, 1) := by decide +kernel
theorem dX8_sumOfYear_16 : decode cX8_sumOfYear 16 = .ok (.lstore 5, 2) := by decide +kernel
theorem dX8_sumOfYear_18 : decode cX8_sumOfYear 18 = .ok (.iconst 0, 1) := by decide +kernel
theorem dX8_sumOfYear_19 : decode cX8_sumOfYear 19 = .ok (.istore 7, 2) := by decide +kernel
theorem dX8_sumOfYear_21 : decode cX8_sumOfYear 21 = .ok (.iload 7, 2) := by decide +kernel
theorem dX8_sumOfYear_23 : decode cX8_sumOfYear 23 = .ok (.sipush 365, 3) := by decide +kernel
theorem dX8_sumOfYear_26 : decode cX8_sumOfYear 26 = .ok (.if_icmp .ge 63, 3) := by decide +kernel
theorem dX8_sumOfYear_29 : decode cX8_sumOfYear 29 = .ok (.iload 4, 2) := by decide +kernel
theorem dX8_sumOfYear_31 : decode cX8_sumOfYear 31 = .ok (.iload_n 3, 1) := by decide +kernel
theorem dX8_sumOfYear_32 : decode cX8_sumOfYear 32 = .ok (.if_icmp .ge 57, 3) := by decide +kernel
theorem dX8_sumOfYear_35 : decode cX8_sumOfYear 35 = .ok (.aload_n 0, 1) := by decide +kernel
theorem dX8_sumOfYear_36 : decode cX8_sumOfYear 36 = .ok (.getfield 19, 3) := by decide +kernel
theorem dX8_sumOfYear_39 : decode cX8_sumOfYear 39 = .ok (.iload 4, 2) := by decide +kernel
theorem dX8_sumOfYear_41 : decode cX8_sumOfYear 41 = .ok (.aload_n 1, 1) := by decide +kernel
theorem dX8_sumOfYear_42 : decode cX8_sumOfYear 42 = .ok (.getfield 105, 3) := by decide +kernel
theorem dX8_sumOfYear_45 : decode cX8_sumOfYear 45 = .ok (.iload 4, 2) := by decide +kernel
theorem dX8_sumOfYear_47 : decode cX8_sumOfYear 47 = .ok (.iload_n 3, 1) := by decide +kernel
theorem dX8_sumOfYear_48 : decode cX8_sumOfYear 48 = .ok (.invokevirtual 254, 3) := by decide +kernel
theorem dX8_sumOfYear_51 : decode cX8_sumOfYear 51 = .ok (.invokevirtual 257, 3) := by decide +kernel
theorem dX8_sumOfYear_54 : decode cX8_sumOfYear 54 = .ok (.istore 8, 2) := by decide +kernel
theorem dX8_sumOfYear_56 : decode cX8_sumOfYear 56 = .ok (.lload 5, 2) := by decide +kernel
theorem dX8_sumOfYear_58 : decode cX8_sumOfYear 58 = .ok (.iload 8, 2) := by decide +kernel
theorem dX8_sumOfYear_60 : decode cX8_sumOfYear 60 = .ok (.iload 4, 2) := by decide +kernel
theorem dX8_sumOfYear_62 : decode cX8_sumOfYear 62 = .ok (.isub, 1) := by decide +kernel
theorem dX8_sumOfYear_63 : decode cX8_sumOfYear 63 = .ok (.i2l, 1) := by decide +kernel
theorem dX8_sumOfYear_64 : decode cX8_sumOfYear 64 = .ok (.aload_n 0, 1) := by decide +kernel
theorem dX8_sumOfYear_65 : decode cX8_sumOfYear 65 = .ok (.aload_n 1, 1) := by decide +kernel
theorem dX8_sumOfYear_66 : decode cX8_sumOfYear 66 = .ok (.iload 4, 2) := by decide +kernel
theorem dX8_sumOfYear_68 : decode cX8_sumOfYear 68 = .ok (.invokevirtual 139, 3) := by decide +kernel
theorem dX8_sumOfYear_71 : decode cX8_sumOfYear 71 = .ok (.invokestatic 142, 3) := by decide +kernel
theorem dX8_sumOfYear_74 : decode cX8_sumOfYear 74 = .ok (.i2l, 1) := by decide +kernel
theorem dX8_sumOfYear_75 : decode cX8_sumOfYear 75 = .ok (.lmul, 1) := by decide +kernel
theorem dX8_sumOfYear_76 : decode cX8_sumOfYear 76 = .ok (.ladd, 1) := by decide +kernel
theorem dX8_sumOfYear_77 : decode cX8_sumOfYear 77 = .ok (.lstore 5, 2) := by decide +kernel
theorem dX8_sumOfYear_79 : decode cX8_sumOfYear 79 = .ok (.iload 8, 2) := by decide +kernel
theorem dX8_sumOfYear_81 : decode cX8_sumOfYear 81 = .ok (.istore 4, 2) := by decide +kernel
theorem dX8_sumOfYear_83 : decode cX8_sumOfYear 83 = .ok (.iinc 7 1, 3) := by decide +kernel
theorem dX8_sumOfYear_86 : decode cX8_sumOfYear 86 = .ok (.goto (-65), 3) := by decide +kernel
theorem dX8_sumOfYear_89 : decode cX8_sumOfYear 89 = .ok (.lload 5, 2) := by decide +kernel
theorem dX8_sumOfYear_91 : decode cX8_sumOfYear 91 = .ok (.lreturn, 1) := by decide +kernel
theorem dX8_billFor_0 : decode cX8_billFor 0 = .ok (.lload_n 0, 1) := by decide +kernel
theorem dX8_billFor_1 : decode cX8_billFor 1 = .ok (.iload_n 2, 1) := by decide +kernel
theorem dX8_billFor_2 : decode cX8_billFor 2 = .ok (.i2l, 1) := by decide +kernel
theorem dX8_billFor_3 : decode cX8_billFor 3 = .ok (.lmul, 1) := by decide +kernel
theorem dX8_billFor_4 : decode cX8_billFor 4 = .ok (.ldc2_w 258, 3) := by decide +kernel
theorem dX8_billFor_7 : decode cX8_billFor 7 = .ok (.ldiv, 1) := by decide +kernel
theorem dX8_billFor_8 : decode cX8_billFor 8 = .ok (.l2i, 1) := by decide +kernel
theorem dX8_billFor_9 : decode cX8_billFor 9 = .ok (.ireturn, 1) := by decide +kernel
set_option maxRecDepth 20000 in
theorem ggX8_readYearSums_X5_at : GoodIn wsX8_readYearSums wsX5_at := goodIn_r _ [7, 8, 93, 94] (by decide +kernel) (by decide +kernel)
set_option maxRecDepth 20000 in
theorem gX8_readYearSums_X5_at : GoodIn wsX8_readYearSums (wsV RX8 47 RX5 yX5_at wsX5_at) := goodIn_app (goodIn_of _ (by decide +kernel)) ggX8_readYearSums_X5_at
set_option maxRecDepth 20000 in
theorem ggX8_readYearSums_X8_sumOfYear : GoodIn wsX8_readYearSums wsX8_sumOfYear := goodIn_r _ [13, 14, 15, 16, 17, 18, 19, 20, 21, 22, 23, 12, 24, 25, 26, 27, 28, 29, 30, 31, 32, 33, 34, 35, 36, 37, 38, 39, 40, 41, 42, 43, 44, 45, 46, 47, 48, 49, 50, 51, 52, 53, 54, 55, 56, 57, 58, 59, 60, 61, 62, 63, 64, 65, 66, 67, 68, 69, 70, 71, 72, 73, 74, 75, 76, 77, 78, 79, 80, 81, 82, 83, 84, 85, 86, 87, 88, 89, 90, 91, 92, 95, 96, 97, 98, 99, 100, 101, 102, 103, 104, 105, 106, 107, 108, 109, 110, 111, 112, 113, 114, 115] (by decide +kernel) (by decide +kernel)
set_option maxRecDepth 20000 in
theorem gX8_readYearSums_X8_sumOfYear : GoodIn wsX8_readYearSums (wsV RX8 150 RX8 yX8_sumOfYear wsX8_sumOfYear) := goodIn_app (goodIn_of _ (by decide +kernel)) ggX8_readYearSums_X8_sumOfYear
theorem dX8_readYearSums_0 : decode cX8_readYearSums 0 = .ok (.iconst 0, 1) := by decide +kernel
theorem dX8_readYearSums_1 : decode cX8_readYearSums 1 = .ok (.istore_n 2, 1) := by decide +kernel
theorem dX8_readYearSums_2 : decode cX8_readYearSums 2 = .ok (.iload_n 2, 1) := by decide +kernel
theorem dX8_readYearSums_3 : decode cX8_readYearSums 3 = .ok (.aload_n 0, 1) := by decide +kernel
theorem dX8_readYearSums_4 : decode cX8_readYearSums 4 = .ok (.getfield 23, 3) := by decide +kernel
theorem dX8_readYearSums_7 : decode cX8_readYearSums 7 = .ok (.arraylength, 1) := by decide +kernel
theorem dX8_readYearSums_8 : decode cX8_readYearSums 8 = .ok (.if_icmp .ge 38, 3) := by decide +kernel
theorem dX8_readYearSums_11 : decode cX8_readYearSums 11 = .ok (.aload_n 0, 1) := by decide +kernel
theorem dX8_readYearSums_12 : decode cX8_readYearSums 12 = .ok (.getfield 12, 3) := by decide +kernel
theorem dX8_readYearSums_15 : decode cX8_readYearSums 15 = .ok (.iload_n 2, 1) := by decide +kernel
theorem dX8_readYearSums_16 : decode cX8_readYearSums 16 = .ok (.invokevirtual 47, 3) := by decide +kernel
theorem dX8_readYearSums_19 : decode cX8_readYearSums 19 = .ok (.astore_n 3, 1) := by decide +kernel
theorem dX8_readYearSums_20 : decode cX8_readYearSums 20 = .ok (.aload_n 0, 1) := by decide +kernel
theorem dX8_readYearSums_21 : decode cX8_readYearSums 21 = .ok (.getfield 23, 3) := by decide +kernel
theorem dX8_readYearSums_24 : decode cX8_readYearSums 24 = .ok (.iload_n 2, 1) := by decide +kernel
theorem dX8_readYearSums_25 : decode cX8_readYearSums 25 = .ok (.aload_n 3, 1) := by decide +kernel
theorem dX8_readYearSums_26 : decode cX8_readYearSums 26 = .ok (.ifnonnull 7, 3) := by decide +kernel
theorem dX8_readYearSums_29 : decode cX8_readYearSums 29 = .ok (.lconst 0, 1) := by decide +kernel
theorem dX8_readYearSums_30 : decode cX8_readYearSums 30 = .ok (.goto 9, 3) := by decide +kernel
theorem dX8_readYearSums_33 : decode cX8_readYearSums 33 = .ok (.aload_n 0, 1) := by decide +kernel
theorem dX8_readYearSums_34 : decode cX8_readYearSums 34 = .ok (.aload_n 3, 1) := by decide +kernel
theorem dX8_readYearSums_35 : decode cX8_readYearSums 35 = .ok (.iload_n 1, 1) := by decide +kernel
theorem dX8_readYearSums_36 : decode cX8_readYearSums 36 = .ok (.invokevirtual 150, 3) := by decide +kernel
theorem dX8_readYearSums_39 : decode cX8_readYearSums 39 = .ok (.lastore, 1) := by decide +kernel
theorem dX8_readYearSums_40 : decode cX8_readYearSums 40 = .ok (.iinc 2 1, 3) := by decide +kernel
theorem dX8_readYearSums_43 : decode cX8_readYearSums 43 = .ok (.goto (-41), 3) := by decide +kernel
theorem dX8_readYearSums_46 : decode cX8_readYearSums 46 = .ok (.return_, 1) := by decide +kernel
set_option maxRecDepth 20000 in
theorem ggX8_billsTogether_X8_billFor : GoodIn wsX8_billsTogether wsX8_billFor := goodIn_r _ [5, 6] (by decide +kernel) (by decide +kernel)
set_option maxRecDepth 20000 in
theorem gX8_billsTogether_X8_billFor : GoodIn wsX8_billsTogether (va_wsS RX8 154 yX8_billFor wsX8_billFor) := goodIn_app (goodIn_of _ (by decide +kernel)) ggX8_billsTogether_X8_billFor
theorem dX8_billsTogether_0 : decode cX8_billsTogether 0 = .ok (.lconst 0, 1) := by decide +kernel
theorem dX8_billsTogether_1 : decode cX8_billsTogether 1 = .ok (.lstore_n 2, 1) := by decide +kernel
theorem dX8_billsTogether_2 : decode cX8_billsTogether 2 = .ok (.iconst 0, 1) := by decide +kernel
theorem dX8_billsTogether_3 : decode cX8_billsTogether 3 = .ok (.istore 4, 2) := by decide +kernel
theorem dX8_billsTogether_5 : decode cX8_billsTogether 5 = .ok (.iload 4, 2) := by decide +kernel
theorem dX8_billsTogether_7 : decode cX8_billsTogether 7 = .ok (.aload_n 0, 1) := by decide +kernel
theorem dX8_billsTogether_8 : decode cX8_billsTogether 8 = .ok (.getfield 23, 3) := by decide +kernel
theorem dX8_billsTogether_11 : decode cX8_billsTogether 11 = .ok (.arraylength, 1) := by decide +kernel
theorem dX8_billsTogether_12 : decode cX8_billsTogether 12 = .ok (.if_icmp .ge 24, 3) := by decide +kernel
theorem dX8_billsTogether_15 : decode cX8_billsTogether 15 = .ok (.lload_n 2, 1) := by decide +kernel
theorem dX8_billsTogether_16 : decode cX8_billsTogether 16 = .ok (.aload_n 0, 1) := by decide +kernel
theorem dX8_billsTogether_17 : decode cX8_billsTogether 17 = .ok (.getfield 23, 3) := by decide +kernel
theorem dX8_billsTogether_20 : decode cX8_billsTogether 20 = .ok (.iload 4, 2) := by decide +kernel
theorem dX8_billsTogether_22 : decode cX8_billsTogether 22 = .ok (.laload, 1) := by decide +kernel
theorem dX8_billsTogether_23 : decode cX8_billsTogether 23 = .ok (.iload_n 1, 1) := by decide +kernel
theorem dX8_billsTogether_24 : decode cX8_billsTogether 24 = .ok (.invokestatic 154, 3) := by decide +kernel
theorem dX8_billsTogether_27 : decode cX8_billsTogether 27 = .ok (.i2l, 1) := by decide +kernel
theorem dX8_billsTogether_28 : decode cX8_billsTogether 28 = .ok (.ladd, 1) := by decide +kernel
theorem dX8_billsTogether_29 : decode cX8_billsTogether 29 = .ok (.lstore_n 2, 1) := by decide +kernel
theorem dX8_billsTogether_30 : decode cX8_billsTogether 30 = .ok (.iinc 4 1, 3) := by decide +kernel
theorem dX8_billsTogether_33 : decode cX8_billsTogether 33 = .ok (.goto (-28), 3) := by decide +kernel
theorem dX8_billsTogether_36 : decode cX8_billsTogether 36 = .ok (.lload_n 2, 1) := by decide +kernel
theorem dX8_billsTogether_37 : decode cX8_billsTogether 37 = .ok (.lreturn, 1) := by decide +kernel
set_option maxRecDepth 20000 in
theorem ggX8_leastPoundage_X8_billsTogether : GoodIn wsX8_leastPoundage wsX8_billsTogether := goodIn_r _ [5, 6, 7, 8, 4, 9, 10, 11, 12, 13, 14] (by decide +kernel) (by decide +kernel)
set_option maxRecDepth 20000 in
theorem gX8_leastPoundage_X8_billsTogether : GoodIn wsX8_leastPoundage (wsV RX8 260 RX8 yX8_billsTogether wsX8_billsTogether) := goodIn_app (goodIn_of _ (by decide +kernel)) ggX8_leastPoundage_X8_billsTogether
theorem dX8_leastPoundage_0 : decode cX8_leastPoundage 0 = .ok (.aload_n 0, 1) := by decide +kernel
theorem dX8_leastPoundage_1 : decode cX8_leastPoundage 1 = .ok (.sipush 3000, 3) := by decide +kernel
theorem dX8_leastPoundage_4 : decode cX8_leastPoundage 4 = .ok (.invokevirtual 260, 3) := by decide +kernel
theorem dX8_leastPoundage_7 : decode cX8_leastPoundage 7 = .ok (.iload_n 1, 1) := by decide +kernel
theorem dX8_leastPoundage_8 : decode cX8_leastPoundage 8 = .ok (.i2l, 1) := by decide +kernel
theorem dX8_leastPoundage_9 : decode cX8_leastPoundage 9 = .ok (.lcmp, 1) := by decide +kernel
theorem dX8_leastPoundage_10 : decode cX8_leastPoundage 10 = .ok (.ifCond .ge 6, 3) := by decide +kernel
theorem dX8_leastPoundage_13 : decode cX8_leastPoundage 13 = .ok (.bipush (-4), 2) := by decide +kernel
theorem dX8_leastPoundage_15 : decode cX8_leastPoundage 15 = .ok (.ireturn, 1) := by decide +kernel
theorem dX8_leastPoundage_16 : decode cX8_leastPoundage 16 = .ok (.iconst 0, 1) := by decide +kernel
theorem dX8_leastPoundage_17 : decode cX8_leastPoundage 17 = .ok (.istore_n 2, 1) := by decide +kernel
theorem dX8_leastPoundage_18 : decode cX8_leastPoundage 18 = .ok (.sipush 2048, 3) := by decide +kernel
theorem dX8_leastPoundage_21 : decode cX8_leastPoundage 21 = .ok (.istore_n 3, 1) := by decide +kernel
theorem dX8_leastPoundage_22 : decode cX8_leastPoundage 22 = .ok (.iload_n 3, 1) := by decide +kernel
theorem dX8_leastPoundage_23 : decode cX8_leastPoundage 23 = .ok (.ifCond .le 38, 3) := by decide +kernel
theorem dX8_leastPoundage_26 : decode cX8_leastPoundage 26 = .ok (.iload_n 2, 1) := by decide +kernel
theorem dX8_leastPoundage_27 : decode cX8_leastPoundage 27 = .ok (.iload_n 3, 1) := by decide +kernel
theorem dX8_leastPoundage_28 : decode cX8_leastPoundage 28 = .ok (.iadd, 1) := by decide +kernel
theorem dX8_leastPoundage_29 : decode cX8_leastPoundage 29 = .ok (.sipush 3000, 3) := by decide +kernel
theorem dX8_leastPoundage_32 : decode cX8_leastPoundage 32 = .ok (.if_icmp .gt 22, 3) := by decide +kernel
theorem dX8_leastPoundage_35 : decode cX8_leastPoundage 35 = .ok (.aload_n 0, 1) := by decide +kernel
theorem dX8_leastPoundage_36 : decode cX8_leastPoundage 36 = .ok (.iload_n 2, 1) := by decide +kernel
theorem dX8_leastPoundage_37 : decode cX8_leastPoundage 37 = .ok (.iload_n 3, 1) := by decide +kernel
theorem dX8_leastPoundage_38 : decode cX8_leastPoundage 38 = .ok (.iadd, 1) := by decide +kernel
theorem dX8_leastPoundage_39 : decode cX8_leastPoundage 39 = .ok (.iconst 1, 1) := by decide +kernel
theorem dX8_leastPoundage_40 : decode cX8_leastPoundage 40 = .ok (.isub, 1) := by decide +kernel
theorem dX8_leastPoundage_41 : decode cX8_leastPoundage 41 = .ok (.invokevirtual 260, 3) := by decide +kernel
theorem dX8_leastPoundage_44 : decode cX8_leastPoundage 44 = .ok (.iload_n 1, 1) := by decide +kernel
theorem dX8_leastPoundage_45 : decode cX8_leastPoundage 45 = .ok (.i2l, 1) := by decide +kernel
theorem dX8_leastPoundage_46 : decode cX8_leastPoundage 46 = .ok (.lcmp, 1) := by decide +kernel
theorem dX8_leastPoundage_47 : decode cX8_leastPoundage 47 = .ok (.ifCond .ge 7, 3) := by decide +kernel
theorem dX8_leastPoundage_50 : decode cX8_leastPoundage 50 = .ok (.iload_n 2, 1) := by decide +kernel
theorem dX8_leastPoundage_51 : decode cX8_leastPoundage 51 = .ok (.iload_n 3, 1) := by decide +kernel
theorem dX8_leastPoundage_52 : decode cX8_leastPoundage 52 = .ok (.iadd, 1) := by decide +kernel
theorem dX8_leastPoundage_53 : decode cX8_leastPoundage 53 = .ok (.istore_n 2, 1) := by decide +kernel
theorem dX8_leastPoundage_54 : decode cX8_leastPoundage 54 = .ok (.iload_n 3, 1) := by decide +kernel
theorem dX8_leastPoundage_55 : decode cX8_leastPoundage 55 = .ok (.iconst 2, 1) := by decide +kernel
theorem dX8_leastPoundage_56 : decode cX8_leastPoundage 56 = .ok (.idiv, 1) := by decide +kernel
theorem dX8_leastPoundage_57 : decode cX8_leastPoundage 57 = .ok (.istore_n 3, 1) := by decide +kernel
theorem dX8_leastPoundage_58 : decode cX8_leastPoundage 58 = .ok (.goto (-36), 3) := by decide +kernel
theorem dX8_leastPoundage_61 : decode cX8_leastPoundage 61 = .ok (.iload_n 2, 1) := by decide +kernel
theorem dX8_leastPoundage_62 : decode cX8_leastPoundage 62 = .ok (.ireturn, 1) := by decide +kernel
theorem dX8_bookOf_0 : decode cX8_bookOf 0 = .ok (.iload_n 1, 1) := by decide +kernel
theorem dX8_bookOf_1 : decode cX8_bookOf 1 = .ok (.ifCond .lt 21, 3) := by decide +kernel
theorem dX8_bookOf_4 : decode cX8_bookOf 4 = .ok (.iload_n 1, 1) := by decide +kernel
theorem dX8_bookOf_5 : decode cX8_bookOf 5 = .ok (.aload_n 0, 1) := by decide +kernel
theorem dX8_bookOf_6 : decode cX8_bookOf 6 = .ok (.getfield 29, 3) := by decide +kernel
theorem dX8_bookOf_9 : decode cX8_bookOf 9 = .ok (.arraylength, 1) := by decide +kernel
theorem dX8_bookOf_10 : decode cX8_bookOf 10 = .ok (.if_icmp .ge 12, 3) := by decide +kernel
theorem dX8_bookOf_13 : decode cX8_bookOf 13 = .ok (.aload_n 0, 1) := by decide +kernel
theorem dX8_bookOf_14 : decode cX8_bookOf 14 = .ok (.getfield 29, 3) := by decide +kernel
theorem dX8_bookOf_17 : decode cX8_bookOf 17 = .ok (.iload_n 1, 1) := by decide +kernel
theorem dX8_bookOf_18 : decode cX8_bookOf 18 = .ok (.aaload, 1) := by decide +kernel
theorem dX8_bookOf_19 : decode cX8_bookOf 19 = .ok (.goto 4, 3) := by decide +kernel
theorem dX8_bookOf_22 : decode cX8_bookOf 22 = .ok (.aconst_null, 1) := by decide +kernel
theorem dX8_bookOf_23 : decode cX8_bookOf 23 = .ok (.areturn, 1) := by decide +kernel
set_option maxRecDepth 20000 in
theorem ggX8_openOf_X8_bookOf : GoodIn wsX8_openOf wsX8_bookOf := goodIn_r _ [5, 6, 18, 19, 20, 21] (by decide +kernel) (by decide +kernel)
set_option maxRecDepth 20000 in
theorem gX8_openOf_X8_bookOf : GoodIn wsX8_openOf (wsV RX8 166 RX8 yX8_bookOf wsX8_bookOf) := goodIn_app (goodIn_of _ (by decide +kernel)) ggX8_openOf_X8_bookOf
set_option maxRecDepth 20000 in
theorem ggX8_openOf_X7_billedTo : GoodIn wsX8_openOf wsX7_billedTo := goodIn_r _ [11, 12, 22, 23, 24, 25, 26] (by decide +kernel) (by decide +kernel)
set_option maxRecDepth 20000 in
theorem gX8_openOf_X7_billedTo : GoodIn wsX8_openOf (wsV RX8 192 RX7 yX7_billedTo wsX7_billedTo) := goodIn_app (goodIn_of _ (by decide +kernel)) ggX8_openOf_X7_billedTo
set_option maxRecDepth 20000 in
theorem ggX8_openOf_X7_paidBy : GoodIn wsX8_openOf wsX7_paidBy := goodIn_r _ [16, 17, 22, 23, 24, 25, 26] (by decide +kernel) (by decide +kernel)
set_option maxRecDepth 20000 in
theorem gX8_openOf_X7_paidBy : GoodIn wsX8_openOf (wsV RX8 186 RX7 yX7_paidBy wsX7_paidBy) := goodIn_app (goodIn_of _ (by decide +kernel)) ggX8_openOf_X7_paidBy
theorem dX8_openOf_0 : decode cX8_openOf 0 = .ok (.aload_n 0, 1) := by decide +kernel
theorem dX8_openOf_1 : decode cX8_openOf 1 = .ok (.iload_n 2, 1) := by decide +kernel
theorem dX8_openOf_2 : decode cX8_openOf 2 = .ok (.invokevirtual 166, 3) := by decide +kernel
theorem dX8_openOf_5 : decode cX8_openOf 5 = .ok (.astore_n 3, 1) := by decide +kernel
theorem dX8_openOf_6 : decode cX8_openOf 6 = .ok (.aload_n 3, 1) := by decide +kernel
theorem dX8_openOf_7 : decode cX8_openOf 7 = .ok (.ifnull 13, 3) := by decide +kernel
theorem dX8_openOf_10 : decode cX8_openOf 10 = .ok (.aload_n 3, 1) := by decide +kernel
theorem dX8_openOf_11 : decode cX8_openOf 11 = .ok (.iload_n 1, 1) := by decide +kernel
theorem dX8_openOf_12 : decode cX8_openOf 12 = .ok (.invokevirtual 192, 3) := by decide +kernel
theorem dX8_openOf_15 : decode cX8_openOf 15 = .ok (.bipush (-4), 2) := by decide +kernel
theorem dX8_openOf_17 : decode cX8_openOf 17 = .ok (.if_icmp .ne 5, 3) := by decide +kernel
theorem dX8_openOf_20 : decode cX8_openOf 20 = .ok (.iconst 0, 1) := by decide +kernel
theorem dX8_openOf_21 : decode cX8_openOf 21 = .ok (.ireturn, 1) := by decide +kernel
theorem dX8_openOf_22 : decode cX8_openOf 22 = .ok (.aload_n 3, 1) := by decide +kernel
theorem dX8_openOf_23 : decode cX8_openOf 23 = .ok (.iload_n 1, 1) := by decide +kernel
theorem dX8_openOf_24 : decode cX8_openOf 24 = .ok (.invokevirtual 192, 3) := by decide +kernel
theorem dX8_openOf_27 : decode cX8_openOf 27 = .ok (.aload_n 3, 1) := by decide +kernel
theorem dX8_openOf_28 : decode cX8_openOf 28 = .ok (.iload_n 1, 1) := by decide +kernel
theorem dX8_openOf_29 : decode cX8_openOf 29 = .ok (.invokevirtual 186, 3) := by decide +kernel
theorem dX8_openOf_32 : decode cX8_openOf 32 = .ok (.isub, 1) := by decide +kernel
theorem dX8_openOf_33 : decode cX8_openOf 33 = .ok (.ireturn, 1) := by decide +kernel
set_option maxRecDepth 20000 in
theorem ggX8_billedIn_X5_isIn : GoodIn wsX8_billedIn wsX5_isIn := goodIn_r _ [10, 11, 12, 13, 14, 9, 15, 16, 29, 30, 31, 32, 33, 34, 35, 27, 28] (by decide +kernel) (by decide +kernel)
set_option maxRecDepth 20000 in
theorem gX8_billedIn_X5_isIn : GoodIn wsX8_billedIn (wsV RX8 263 RX5 yX5_isIn wsX5_isIn) := goodIn_app (goodIn_of _ (by decide +kernel)) ggX8_billedIn_X5_isIn
set_option maxRecDepth 20000 in
theorem ggX8_billedIn_X7_billedTo : GoodIn wsX8_billedIn wsX7_billedTo := goodIn_r _ [21, 22, 36, 37, 38, 39, 40] (by decide +kernel) (by decide +kernel)
set_option maxRecDepth 20000 in
theorem gX8_billedIn_X7_billedTo : GoodIn wsX8_billedIn (wsV RX8 192 RX7 yX7_billedTo wsX7_billedTo) := goodIn_app (goodIn_of _ (by decide +kernel)) ggX8_billedIn_X7_billedTo
theorem dX8_billedIn_0 : decode cX8_billedIn 0 = .ok (.iconst 0, 1) := by decide +kernel
theorem dX8_billedIn_1 : decode cX8_billedIn 1 = .ok (.istore_n 3, 1) := by decide +kernel
theorem dX8_billedIn_2 : decode cX8_billedIn 2 = .ok (.iconst 0, 1) := by decide +kernel
theorem dX8_billedIn_3 : decode cX8_billedIn 3 = .ok (.istore 4, 2) := by decide +kernel
theorem dX8_billedIn_5 : decode cX8_billedIn 5 = .ok (.iload 4, 2) := by decide +kernel
theorem dX8_billedIn_7 : decode cX8_billedIn 7 = .ok (.aload_n 0, 1) := by decide +kernel
theorem dX8_billedIn_8 : decode cX8_billedIn 8 = .ok (.getfield 12, 3) := by decide +kernel
theorem dX8_billedIn_11 : decode cX8_billedIn 11 = .ok (.getfield 180, 3) := by decide +kernel
theorem dX8_billedIn_14 : decode cX8_billedIn 14 = .ok (.if_icmp .ge 35, 3) := by decide +kernel
theorem dX8_billedIn_17 : decode cX8_billedIn 17 = .ok (.aload_n 0, 1) := by decide +kernel
theorem dX8_billedIn_18 : decode cX8_billedIn 18 = .ok (.getfield 12, 3) := by decide +kernel
theorem dX8_billedIn_21 : decode cX8_billedIn 21 = .ok (.iload 4, 2) := by decide +kernel
theorem dX8_billedIn_23 : decode cX8_billedIn 23 = .ok (.iload_n 1, 1) := by decide +kernel
theorem dX8_billedIn_24 : decode cX8_billedIn 24 = .ok (.invokevirtual 263, 3) := by decide +kernel
theorem dX8_billedIn_27 : decode cX8_billedIn 27 = .ok (.ifCond .eq 16, 3) := by decide +kernel
theorem dX8_billedIn_30 : decode cX8_billedIn 30 = .ok (.iload_n 3, 1) := by decide +kernel
theorem dX8_billedIn_31 : decode cX8_billedIn 31 = .ok (.iconst 0, 1) := by decide +kernel
theorem dX8_billedIn_32 : decode cX8_billedIn 32 = .ok (.aload_n 2, 1) := by decide +kernel
theorem dX8_billedIn_33 : decode cX8_billedIn 33 = .ok (.iload 4, 2) := by decide +kernel
theorem dX8_billedIn_35 : decode cX8_billedIn 35 = .ok (.invokevirtual 192, 3) := by decide +kernel
theorem dX8_billedIn_38 : decode cX8_billedIn 38 = .ok (.invokestatic 199, 3) := by decide +kernel
theorem dX8_billedIn_41 : decode cX8_billedIn 41 = .ok (.iadd, 1) := by decide +kernel
theorem dX8_billedIn_42 : decode cX8_billedIn 42 = .ok (.istore_n 3, 1) := by decide +kernel
theorem dX8_billedIn_43 : decode cX8_billedIn 43 = .ok (.iinc 4 1, 3) := by decide +kernel
theorem dX8_billedIn_46 : decode cX8_billedIn 46 = .ok (.goto (-41), 3) := by decide +kernel
theorem dX8_billedIn_49 : decode cX8_billedIn 49 = .ok (.iload_n 3, 1) := by decide +kernel
theorem dX8_billedIn_50 : decode cX8_billedIn 50 = .ok (.ireturn, 1) := by decide +kernel
set_option maxRecDepth 20000 in
theorem ggX8_paidIn_X5_isIn : GoodIn wsX8_paidIn wsX5_isIn := goodIn_r _ [6, 7, 8, 9, 10, 5, 11, 12, 25, 26, 27, 28, 29, 30, 31, 23, 24] (by decide +kernel) (by decide +kernel)
set_option maxRecDepth 20000 in
theorem gX8_paidIn_X5_isIn : GoodIn wsX8_paidIn (wsV RX8 263 RX5 yX5_isIn wsX5_isIn) := goodIn_app (goodIn_of _ (by decide +kernel)) ggX8_paidIn_X5_isIn
set_option maxRecDepth 20000 in
theorem ggX8_paidIn_X7_paidBy : GoodIn wsX8_paidIn wsX7_paidBy := goodIn_r _ [17, 18, 32, 33, 34, 35, 36] (by decide +kernel) (by decide +kernel)
set_option maxRecDepth 20000 in
theorem gX8_paidIn_X7_paidBy : GoodIn wsX8_paidIn (wsV RX8 186 RX7 yX7_paidBy wsX7_paidBy) := goodIn_app (goodIn_of _ (by decide +kernel)) ggX8_paidIn_X7_paidBy
theorem dX8_paidIn_0 : decode cX8_paidIn 0 = .ok (.iconst 0, 1) := by decide +kernel
theorem dX8_paidIn_1 : decode cX8_paidIn 1 = .ok (.istore_n 3, 1) := by decide +kernel
theorem dX8_paidIn_2 : decode cX8_paidIn 2 = .ok (.iconst 0, 1) := by decide +kernel
theorem dX8_paidIn_3 : decode cX8_paidIn 3 = .ok (.istore 4, 2) := by decide +kernel
theorem dX8_paidIn_5 : decode cX8_paidIn 5 = .ok (.iload 4, 2) := by decide +kernel
theorem dX8_paidIn_7 : decode cX8_paidIn 7 = .ok (.aload_n 0, 1) := by decide +kernel
theorem dX8_paidIn_8 : decode cX8_paidIn 8 = .ok (.getfield 12, 3) := by decide +kernel
theorem dX8_paidIn_11 : decode cX8_paidIn 11 = .ok (.getfield 180, 3) := by decide +kernel
theorem dX8_paidIn_14 : decode cX8_paidIn 14 = .ok (.if_icmp .ge 31, 3) := by decide +kernel
theorem dX8_paidIn_17 : decode cX8_paidIn 17 = .ok (.aload_n 0, 1) := by decide +kernel
theorem dX8_paidIn_18 : decode cX8_paidIn 18 = .ok (.getfield 12, 3) := by decide +kernel
theorem dX8_paidIn_21 : decode cX8_paidIn 21 = .ok (.iload 4, 2) := by decide +kernel
theorem dX8_paidIn_23 : decode cX8_paidIn 23 = .ok (.iload_n 1, 1) := by decide +kernel
theorem dX8_paidIn_24 : decode cX8_paidIn 24 = .ok (.invokevirtual 263, 3) := by decide +kernel
theorem dX8_paidIn_27 : decode cX8_paidIn 27 = .ok (.ifCond .eq 12, 3) := by decide +kernel
theorem dX8_paidIn_30 : decode cX8_paidIn 30 = .ok (.iload_n 3, 1) := by decide +kernel
theorem dX8_paidIn_31 : decode cX8_paidIn 31 = .ok (.aload_n 2, 1) := by decide +kernel
theorem dX8_paidIn_32 : decode cX8_paidIn 32 = .ok (.iload 4, 2) := by decide +kernel
theorem dX8_paidIn_34 : decode cX8_paidIn 34 = .ok (.invokevirtual 186, 3) := by decide +kernel
theorem dX8_paidIn_37 : decode cX8_paidIn 37 = .ok (.iadd, 1) := by decide +kernel
theorem dX8_paidIn_38 : decode cX8_paidIn 38 = .ok (.istore_n 3, 1) := by decide +kernel
theorem dX8_paidIn_39 : decode cX8_paidIn 39 = .ok (.iinc 4 1, 3) := by decide +kernel
theorem dX8_paidIn_42 : decode cX8_paidIn 42 = .ok (.goto (-37), 3) := by decide +kernel
theorem dX8_paidIn_45 : decode cX8_paidIn 45 = .ok (.iload_n 3, 1) := by decide +kernel
theorem dX8_paidIn_46 : decode cX8_paidIn 46 = .ok (.ireturn, 1) := by decide +kernel
theorem dX8_struckYears_0 : decode cX8_struckYears 0 = .ok (.iconst 0, 1) := by decide +kernel
theorem dX8_struckYears_1 : decode cX8_struckYears 1 = .ok (.istore_n 1, 1) := by decide +kernel
theorem dX8_struckYears_2 : decode cX8_struckYears 2 = .ok (.iconst 0, 1) := by decide +kernel
theorem dX8_struckYears_3 : decode cX8_struckYears 3 = .ok (.istore_n 2, 1) := by decide +kernel
theorem dX8_struckYears_4 : decode cX8_struckYears 4 = .ok (.iload_n 2, 1) := by decide +kernel
theorem dX8_struckYears_5 : decode cX8_struckYears 5 = .ok (.aload_n 0, 1) := by decide +kernel
theorem dX8_struckYears_6 : decode cX8_struckYears 6 = .ok (.getfield 29, 3) := by decide +kernel
theorem dX8_struckYears_9 : decode cX8_struckYears 9 = .ok (.arraylength, 1) := by decide +kernel
theorem dX8_struckYears_10 : decode cX8_struckYears 10 = .ok (.if_icmp .ge 30, 3) := by decide +kernel
theorem dX8_struckYears_13 : decode cX8_struckYears 13 = .ok (.aload_n 0, 1) := by decide +kernel
theorem dX8_struckYears_14 : decode cX8_struckYears 14 = .ok (.getfield 29, 3) := by decide +kernel
theorem dX8_struckYears_17 : decode cX8_struckYears 17 = .ok (.iload_n 2, 1) := by decide +kernel
theorem dX8_struckYears_18 : decode cX8_struckYears 18 = .ok (.aaload, 1) := by decide +kernel
theorem dX8_struckYears_19 : decode cX8_struckYears 19 = .ok (.astore_n 3, 1) := by decide +kernel
theorem dX8_struckYears_20 : decode cX8_struckYears 20 = .ok (.aload_n 3, 1) := by decide +kernel
theorem dX8_struckYears_21 : decode cX8_struckYears 21 = .ok (.ifnull 13, 3) := by decide +kernel
theorem dX8_struckYears_24 : decode cX8_struckYears 24 = .ok (.aload_n 3, 1) := by decide +kernel
theorem dX8_struckYears_25 : decode cX8_struckYears 25 = .ok (.getfield 170, 3) := by decide +kernel
theorem dX8_struckYears_28 : decode cX8_struckYears 28 = .ok (.ifCond .eq 6, 3) := by decide +kernel
theorem dX8_struckYears_31 : decode cX8_struckYears 31 = .ok (.iinc 1 1, 3) := by decide +kernel
theorem dX8_struckYears_34 : decode cX8_struckYears 34 = .ok (.iinc 2 1, 3) := by decide +kernel
theorem dX8_struckYears_37 : decode cX8_struckYears 37 = .ok (.goto (-33), 3) := by decide +kernel
theorem dX8_struckYears_40 : decode cX8_struckYears 40 = .ok (.iload_n 1, 1) := by decide +kernel
theorem dX8_struckYears_41 : decode cX8_struckYears 41 = .ok (.ireturn, 1) := by decide +kernel
theorem dX9_init_0 : decode cX9_init 0 = .ok (.aload_n 0, 1) := by decide +kernel
theorem dX9_init_1 : decode cX9_init 1 = .ok (.invokespecial 1, 3) := by decide +kernel
theorem dX9_init_4 : decode cX9_init 4 = .ok (.aload_n 0, 1) := by decide +kernel
theorem dX9_init_5 : decode cX9_init 5 = .ok (.bipush 40, 2) := by decide +kernel
theorem dX9_init_7 : decode cX9_init 7 = .ok (.newarray .int, 2) := by decide +kernel
theorem dX9_init_9 : decode cX9_init 9 = .ok (.putfield 7, 3) := by decide +kernel
theorem dX9_init_12 : decode cX9_init 12 = .ok (.aload_n 0, 1) := by decide +kernel
theorem dX9_init_13 : decode cX9_init 13 = .ok (.bipush 40, 2) := by decide +kernel
theorem dX9_init_15 : decode cX9_init 15 = .ok (.newarray .int, 2) := by decide +kernel
theorem dX9_init_17 : decode cX9_init 17 = .ok (.putfield 13, 3) := by decide +kernel
theorem dX9_init_20 : decode cX9_init 20 = .ok (.aload_n 0, 1) := by decide +kernel
theorem dX9_init_21 : decode cX9_init 21 = .ok (.bipush 40, 2) := by decide +kernel
theorem dX9_init_23 : decode cX9_init 23 = .ok (.newarray .int, 2) := by decide +kernel
theorem dX9_init_25 : decode cX9_init 25 = .ok (.putfield 16, 3) := by decide +kernel
theorem dX9_init_28 : decode cX9_init 28 = .ok (.aload_n 0, 1) := by decide +kernel
theorem dX9_init_29 : decode cX9_init 29 = .ok (.bipush 40, 2) := by decide +kernel
theorem dX9_init_31 : decode cX9_init 31 = .ok (.newarray .int, 2) := by decide +kernel
theorem dX9_init_33 : decode cX9_init 33 = .ok (.putfield 19, 3) := by decide +kernel
theorem dX9_init_36 : decode cX9_init 36 = .ok (.aload_n 0, 1) := by decide +kernel
theorem dX9_init_37 : decode cX9_init 37 = .ok (.bipush 40, 2) := by decide +kernel
theorem dX9_init_39 : decode cX9_init 39 = .ok (.newarray .int, 2) := by decide +kernel
theorem dX9_init_41 : decode cX9_init 41 = .ok (.putfield 22, 3) := by decide +kernel
theorem dX9_init_44 : decode cX9_init 44 = .ok (.aload_n 0, 1) := by decide +kernel
theorem dX9_init_45 : decode cX9_init 45 = .ok (.bipush 40, 2) := by decide +kernel
theorem dX9_init_47 : decode cX9_init 47 = .ok (.newarray .int, 2) := by decide +kernel
theorem dX9_init_49 : decode cX9_init 49 = .ok (.putfield 25, 3) := by decide +kernel
theorem dX9_init_52 : decode cX9_init 52 = .ok (.aload_n 0, 1) := by decide +kernel
theorem dX9_init_53 : decode cX9_init 53 = .ok (.sipush 480, 3) := by decide +kernel
theorem dX9_init_56 : decode cX9_init 56 = .ok (.newarray .int, 2) := by decide +kernel
theorem dX9_init_58 : decode cX9_init 58 = .ok (.putfield 28, 3) := by decide +kernel
theorem dX9_init_61 : decode cX9_init 61 = .ok (.aload_n 0, 1) := by decide +kernel
theorem dX9_init_62 : decode cX9_init 62 = .ok (.sipush 480, 3) := by decide +kernel
theorem dX9_init_65 : decode cX9_init 65 = .ok (.newarray .int, 2) := by decide +kernel
theorem dX9_init_67 : decode cX9_init 67 = .ok (.putfield 31, 3) := by decide +kernel
theorem dX9_init_70 : decode cX9_init 70 = .ok (.aload_n 0, 1) := by decide +kernel
theorem dX9_init_71 : decode cX9_init 71 = .ok (.sipush 480, 3) := by decide +kernel
theorem dX9_init_74 : decode cX9_init 74 = .ok (.newarray .int, 2) := by decide +kernel
theorem dX9_init_76 : decode cX9_init 76 = .ok (.putfield 34, 3) := by decide +kernel
theorem dX9_init_79 : decode cX9_init 79 = .ok (.aload_n 0, 1) := by decide +kernel
theorem dX9_init_80 : decode cX9_init 80 = .ok (.bipush 10, 2) := by decide +kernel
theorem dX9_init_82 : decode cX9_init 82 = .ok (.newarray .int, 2) := by decide +kernel
theorem dX9_init_84 : decode cX9_init 84 = .ok (.putfield 37, 3) := by decide +kernel
theorem dX9_init_87 : decode cX9_init 87 = .ok (.aload_n 0, 1) := by decide +kernel
theorem dX9_init_88 : decode cX9_init 88 = .ok (.sipush 180, 3) := by decide +kernel
theorem dX9_init_91 : decode cX9_init 91 = .ok (.newarray .int, 2) := by decide +kernel
theorem dX9_init_93 : decode cX9_init 93 = .ok (.putfield 40, 3) := by decide +kernel
theorem dX9_init_96 : decode cX9_init 96 = .ok (.aload_n 0, 1) := by decide +kernel
theorem dX9_init_97 : decode cX9_init 97 = .ok (.sipush 180, 3) := by decide +kernel
theorem dX9_init_100 : decode cX9_init 100 = .ok (.newarray .int, 2) := by decide +kernel
theorem dX9_init_102 : decode cX9_init 102 = .ok (.putfield 43, 3) := by decide +kernel
theorem dX9_init_105 : decode cX9_init 105 = .ok (.aload_n 0, 1) := by decide +kernel
theorem dX9_init_106 : decode cX9_init 106 = .ok (.bipush 10, 2) := by decide +kernel
theorem dX9_init_108 : decode cX9_init 108 = .ok (.newarray .boolean, 2) := by decide +kernel
theorem dX9_init_110 : decode cX9_init 110 = .ok (.putfield 46, 3) := by decide +kernel
theorem dX9_init_113 : decode cX9_init 113 = .ok (.aload_n 0, 1) := by decide +kernel
theorem dX9_init_114 : decode cX9_init 114 = .ok (.bipush 10, 2) := by decide +kernel
theorem dX9_init_116 : decode cX9_init 116 = .ok (.newarray .int, 2) := by decide +kernel
theorem dX9_init_118 : decode cX9_init 118 = .ok (.putfield 50, 3) := by decide +kernel
theorem dX9_init_121 : decode cX9_init 121 = .ok (.aload_n 0, 1) := by decide +kernel
theorem dX9_init_122 : decode cX9_init 122 = .ok (.bipush 10, 2) := by decide +kernel
theorem dX9_init_124 : decode cX9_init 124 = .ok (.newarray .int, 2) := by decide +kernel
theorem dX9_init_126 : decode cX9_init 126 = .ok (.putfield 53, 3) := by decide +kernel
theorem dX9_init_129 : decode cX9_init 129 = .ok (.aload_n 0, 1) := by decide +kernel
theorem dX9_init_130 : decode cX9_init 130 = .ok (.sipush 400, 3) := by decide +kernel
theorem dX9_init_133 : decode cX9_init 133 = .ok (.newarray .int, 2) := by decide +kernel
theorem dX9_init_135 : decode cX9_init 135 = .ok (.putfield 56, 3) := by decide +kernel
theorem dX9_init_138 : decode cX9_init 138 = .ok (.aload_n 0, 1) := by decide +kernel
theorem dX9_init_139 : decode cX9_init 139 = .ok (.sipush 400, 3) := by decide +kernel
theorem dX9_init_142 : decode cX9_init 142 = .ok (.newarray .int, 2) := by decide +kernel
theorem dX9_init_144 : decode cX9_init 144 = .ok (.putfield 59, 3) := by decide +kernel
theorem dX9_init_147 : decode cX9_init 147 = .ok (.aload_n 0, 1) := by decide +kernel
theorem dX9_init_148 : decode cX9_init 148 = .ok (.bipush 40, 2) := by decide +kernel
theorem dX9_init_150 : decode cX9_init 150 = .ok (.newarray .long, 2) := by decide +kernel
theorem dX9_init_152 : decode cX9_init 152 = .ok (.putfield 62, 3) := by decide +kernel
theorem dX9_init_155 : decode cX9_init 155 = .ok (.return_, 1) := by decide +kernel
theorem dX9_in_0 : decode cX9_in 0 = .ok (.iload_n 0, 1) := by decide +kernel
theorem dX9_in_1 : decode cX9_in 1 = .ok (.iload_n 1, 1) := by decide +kernel
theorem dX9_in_2 : decode cX9_in 2 = .ok (.if_icmp .lt 12, 3) := by decide +kernel
theorem dX9_in_5 : decode cX9_in 5 = .ok (.iload_n 0, 1) := by decide +kernel
theorem dX9_in_6 : decode cX9_in 6 = .ok (.iload_n 2, 1) := by decide +kernel
theorem dX9_in_7 : decode cX9_in 7 = .ok (.if_icmp .gt 7, 3) := by decide +kernel
theorem dX9_in_10 : decode cX9_in 10 = .ok (.iconst 1, 1) := by decide +kernel
theorem dX9_in_11 : decode cX9_in 11 = .ok (.goto 4, 3) := by decide +kernel
theorem dX9_in_14 : decode cX9_in 14 = .ok (.iconst 0, 1) := by decide +kernel
theorem dX9_in_15 : decode cX9_in 15 = .ok (.ireturn, 1) := by decide +kernel
set_option maxRecDepth 20000 in
theorem ggX9_isHouse_X9_in : GoodIn wsX9_isHouse wsX9_in := goodIn_r _ [5] (by decide +kernel) (by decide +kernel)
set_option maxRecDepth 20000 in
theorem gX9_isHouse_X9_in : GoodIn wsX9_isHouse (va_wsS RX9 70 yX9_in wsX9_in) := goodIn_app (goodIn_of _ (by decide +kernel)) ggX9_isHouse_X9_in
theorem dX9_isHouse_0 : decode cX9_isHouse 0 = .ok (.iload_n 1, 1) := by decide +kernel
theorem dX9_isHouse_1 : decode cX9_isHouse 1 = .ok (.iconst 0, 1) := by decide +kernel
theorem dX9_isHouse_2 : decode cX9_isHouse 2 = .ok (.aload_n 0, 1) := by decide +kernel
theorem dX9_isHouse_3 : decode cX9_isHouse 3 = .ok (.getfield 66, 3) := by decide +kernel
theorem dX9_isHouse_6 : decode cX9_isHouse 6 = .ok (.iconst 1, 1) := by decide +kernel
theorem dX9_isHouse_7 : decode cX9_isHouse 7 = .ok (.isub, 1) := by decide +kernel
theorem dX9_isHouse_8 : decode cX9_isHouse 8 = .ok (.invokestatic 70, 3) := by decide +kernel
theorem dX9_isHouse_11 : decode cX9_isHouse 11 = .ok (.ireturn, 1) := by decide +kernel
set_option maxRecDepth 20000 in
theorem ggX9_isDay_X9_in : GoodIn wsX9_isDay wsX9_in := goodIn_r _ [4] (by decide +kernel) (by decide +kernel)
set_option maxRecDepth 20000 in
theorem gX9_isDay_X9_in : GoodIn wsX9_isDay (va_wsS RX9 70 yX9_in wsX9_in) := goodIn_app (goodIn_of _ (by decide +kernel)) ggX9_isDay_X9_in
theorem dX9_isDay_0 : decode cX9_isDay 0 = .ok (.iload_n 0, 1) := by decide +kernel
theorem dX9_isDay_1 : decode cX9_isDay 1 = .ok (.iconst 0, 1) := by decide +kernel
theorem dX9_isDay_2 : decode cX9_isDay 2 = .ok (.sipush 3649, 3) := by decide +kernel
theorem dX9_isDay_5 : decode cX9_isDay 5 = .ok (.invokestatic 70, 3) := by decide +kernel
theorem dX9_isDay_8 : decode cX9_isDay 8 = .ok (.ireturn, 1) := by decide +kernel
set_option maxRecDepth 20000 in
theorem ggX9_house_X9_in : GoodIn wsX9_house wsX9_in := goodIn_r _ [12] (by decide +kernel) (by decide +kernel)
set_option maxRecDepth 20000 in
theorem gX9_house_X9_in : GoodIn wsX9_house (va_wsS RX9 70 yX9_in wsX9_in) := goodIn_app (goodIn_of _ (by decide +kernel)) ggX9_house_X9_in
theorem dX9_house_0 : decode cX9_house 0 = .ok (.iload_n 1, 1) := by decide +kernel
theorem dX9_house_1 : decode cX9_house 1 = .ok (.iconst 0, 1) := by decide +kernel
theorem dX9_house_2 : decode cX9_house 2 = .ok (.iconst 3, 1) := by decide +kernel
theorem dX9_house_3 : decode cX9_house 3 = .ok (.invokestatic 70, 3) := by decide +kernel
theorem dX9_house_6 : decode cX9_house 6 = .ok (.ifCond .eq 44, 3) := by decide +kernel
theorem dX9_house_9 : decode cX9_house 9 = .ok (.iload_n 2, 1) := by decide +kernel
theorem dX9_house_10 : decode cX9_house 10 = .ok (.iconst 0, 1) := by decide +kernel
theorem dX9_house_11 : decode cX9_house 11 = .ok (.iconst 2, 1) := by decide +kernel
theorem dX9_house_12 : decode cX9_house 12 = .ok (.invokestatic 70, 3) := by decide +kernel
theorem dX9_house_15 : decode cX9_house 15 = .ok (.ifCond .eq 35, 3) := by decide +kernel
theorem dX9_house_18 : decode cX9_house 18 = .ok (.iload_n 3, 1) := by decide +kernel
theorem dX9_house_19 : decode cX9_house 19 = .ok (.iconst 0, 1) := by decide +kernel
theorem dX9_house_20 : decode cX9_house 20 = .ok (.iconst 5, 1) := by decide +kernel
theorem dX9_house_21 : decode cX9_house 21 = .ok (.invokestatic 70, 3) := by decide +kernel
theorem dX9_house_24 : decode cX9_house 24 = .ok (.ifCond .eq 26, 3) := by decide +kernel
theorem dX9_house_27 : decode cX9_house 27 = .ok (.iload 4, 2) := by decide +kernel
theorem dX9_house_29 : decode cX9_house 29 = .ok (.iconst 1, 1) := by decide +kernel
theorem dX9_house_30 : decode cX9_house 30 = .ok (.sipush 500, 3) := by decide +kernel
theorem dX9_house_33 : decode cX9_house 33 = .ok (.invokestatic 70, 3) := by decide +kernel
theorem dX9_house_36 : decode cX9_house 36 = .ok (.ifCond .eq 14, 3) := by decide +kernel
theorem dX9_house_39 : decode cX9_house 39 = .ok (.iload 5, 2) := by decide +kernel
theorem dX9_house_41 : decode cX9_house 41 = .ok (.iconst 0, 1) := by decide +kernel
theorem dX9_house_42 : decode cX9_house 42 = .ok (.ldc 74, 2) := by decide +kernel
theorem dX9_house_44 : decode cX9_house 44 = .ok (.invokestatic 70, 3) := by decide +kernel
theorem dX9_house_47 : decode cX9_house 47 = .ok (.ifCond .ne 5, 3) := by decide +kernel
theorem dX9_house_50 : decode cX9_house 50 = .ok (.iconst (-1), 1) := by decide +kernel
theorem dX9_house_51 : decode cX9_house 51 = .ok (.ireturn, 1) := by decide +kernel
theorem dX9_house_52 : decode cX9_house 52 = .ok (.aload_n 0, 1) := by decide +kernel
theorem dX9_house_53 : decode cX9_house 53 = .ok (.getfield 66, 3) := by decide +kernel
theorem dX9_house_56 : decode cX9_house 56 = .ok (.bipush 40, 2) := by decide +kernel
theorem dX9_house_58 : decode cX9_house 58 = .ok (.if_icmp .ne 6, 3) := by decide +kernel
theorem dX9_house_61 : decode cX9_house 61 = .ok (.bipush (-3), 2) := by decide +kernel
theorem dX9_house_63 : decode cX9_house 63 = .ok (.ireturn, 1) := by decide +kernel
theorem dX9_house_64 : decode cX9_house 64 = .ok (.aload_n 0, 1) := by decide +kernel
theorem dX9_house_65 : decode cX9_house 65 = .ok (.getfield 7, 3) := by decide +kernel
theorem dX9_house_68 : decode cX9_house 68 = .ok (.aload_n 0, 1) := by decide +kernel
theorem dX9_house_69 : decode cX9_house 69 = .ok (.getfield 66, 3) := by decide +kernel
theorem dX9_house_72 : decode cX9_house 72 = .ok (.iload_n 1, 1) := by decide +kernel
theorem dX9_house_73 : decode cX9_house 73 = .ok (.iastore, 1) := by decide +kernel
theorem dX9_house_74 : decode cX9_house 74 = .ok (.aload_n 0, 1) := by decide +kernel
theorem dX9_house_75 : decode cX9_house 75 = .ok (.getfield 13, 3) := by decide +kernel
theorem dX9_house_78 : decode cX9_house 78 = .ok (.aload_n 0, 1) := by decide +kernel
theorem dX9_house_79 : decode cX9_house 79 = .ok (.getfield 66, 3) := by decide +kernel
theorem dX9_house_82 : decode cX9_house 82 = .ok (.iload_n 2, 1) := by decide +kernel
theorem dX9_house_83 : decode cX9_house 83 = .ok (.iastore, 1) := by decide +kernel
theorem dX9_house_84 : decode cX9_house 84 = .ok (.aload_n 0, 1) := by decide +kernel
theorem dX9_house_85 : decode cX9_house 85 = .ok (.getfield 16, 3) := by decide +kernel
theorem dX9_house_88 : decode cX9_house 88 = .ok (.aload_n 0, 1) := by decide +kernel
theorem dX9_house_89 : decode cX9_house 89 = .ok (.getfield 66, 3) := by decide +kernel
theorem dX9_house_92 : decode cX9_house 92 = .ok (.iload_n 3, 1) := by decide +kernel
theorem dX9_house_93 : decode cX9_house 93 = .ok (.iastore, 1) := by decide +kernel
theorem dX9_house_94 : decode cX9_house 94 = .ok (.aload_n 0, 1) := by decide +kernel
theorem dX9_house_95 : decode cX9_house 95 = .ok (.getfield 19, 3) := by decide +kernel
theorem dX9_house_98 : decode cX9_house 98 = .ok (.aload_n 0, 1) := by decide +kernel
theorem dX9_house_99 : decode cX9_house 99 = .ok (.getfield 66, 3) := by decide +kernel
theorem dX9_house_102 : decode cX9_house 102 = .ok (.iload 4, 2) := by decide +kernel
theorem dX9_house_104 : decode cX9_house 104 = .ok (.iastore, 1) := by decide +kernel
theorem dX9_house_105 : decode cX9_house 105 = .ok (.aload_n 0, 1) := by decide +kernel
theorem dX9_house_106 : decode cX9_house 106 = .ok (.getfield 22, 3) := by decide +kernel
theorem dX9_house_109 : decode cX9_house 109 = .ok (.aload_n 0, 1) := by decide +kernel
theorem dX9_house_110 : decode cX9_house 110 = .ok (.getfield 66, 3) := by decide +kernel
theorem dX9_house_113 : decode cX9_house 113 = .ok (.iload 5, 2) := by decide +kernel
theorem dX9_house_115 : decode cX9_house 115 = .ok (.iastore, 1) := by decide +kernel
theorem dX9_house_116 : decode cX9_house 116 = .ok (.iconst 0, 1) := by decide +kernel
theorem dX9_house_117 : decode cX9_house 117 = .ok (.istore 6, 2) := by decide +kernel
theorem dX9_house_119 : decode cX9_house 119 = .ok (.iload 6, 2) := by decide +kernel
theorem dX9_house_121 : decode cX9_house 121 = .ok (.bipush 10, 2) := by decide +kernel
theorem dX9_house_123 : decode cX9_house 123 = .ok (.if_icmp .ge 26, 3) := by decide +kernel
theorem dX9_house_126 : decode cX9_house 126 = .ok (.aload_n 0, 1) := by decide +kernel
theorem dX9_house_127 : decode cX9_house 127 = .ok (.getfield 56, 3) := by decide +kernel
theorem dX9_house_130 : decode cX9_house 130 = .ok (.bipush 10, 2) := by decide +kernel
theorem dX9_house_132 : decode cX9_house 132 = .ok (.aload_n 0, 1) := by decide +kernel
theorem dX9_house_133 : decode cX9_house 133 = .ok (.getfield 66, 3) := by decide +kernel
theorem dX9_house_136 : decode cX9_house 136 = .ok (.imul, 1) := by decide +kernel
theorem dX9_house_137 : decode cX9_house 137 = .ok (.iload 6, 2) := by decide +kernel
theorem dX9_house_139 : decode cX9_house 139 = .ok (.iadd, 1) := by decide +kernel
theorem dX9_house_140 : decode cX9_house 140 = .ok (.bipush (-4), 2) := by decide +kernel
theorem dX9_house_142 : decode cX9_house 142 = .ok (.iastore, 1) := by decide +kernel
theorem dX9_house_143 : decode cX9_house 143 = .ok (.iinc 6 1, 3) := by decide +kernel
theorem dX9_house_146 : decode cX9_house 146 = .ok (.goto (-27), 3) := by decide +kernel
theorem dX9_house_149 : decode cX9_house 149 = .ok (.aload_n 0, 1) := by decide +kernel
theorem dX9_house_150 : decode cX9_house 150 = .ok (.dup, 1) := by decide +kernel
theorem dX9_house_151 : decode cX9_house 151 = .ok (.getfield 66, 3) := by decide +kernel
theorem dX9_house_154 : decode cX9_house 154 = .ok (.iconst 1, 1) := by decide +kernel
theorem dX9_house_155 : decode cX9_house 155 = .ok (.iadd, 1) := by decide +kernel
theorem dX9_house_156 : decode cX9_house 156 = .ok (.putfield 66, 3) := by decide +kernel
theorem dX9_house_159 : decode cX9_house 159 = .ok (.aload_n 0, 1) := by decide +kernel
theorem dX9_house_160 : decode cX9_house 160 = .ok (.getfield 66, 3) := by decide +kernel
theorem dX9_house_163 : decode cX9_house 163 = .ok (.iconst 1, 1) := by decide +kernel
theorem dX9_house_164 : decode cX9_house 164 = .ok (.isub, 1) := by decide +kernel
theorem dX9_house_165 : decode cX9_house 165 = .ok (.ireturn, 1) := by decide +kernel
set_option maxRecDepth 20000 in
theorem ggX9_rent_X9_isHouse : GoodIn wsX9_rent wsX9_isHouse := goodIn_r _ [7, 8, 9, 10, 6, 11, 12, 13, 14, 15, 16, 17, 18, 19, 20, 21, 22, 23, 24, 25, 26, 27, 28, 29, 30, 31, 32, 33] (by decide +kernel) (by decide +kernel)
set_option maxRecDepth 20000 in
theorem gX9_rent_X9_isHouse : GoodIn wsX9_rent (wsV RX9 75 RX9 yX9_isHouse wsX9_isHouse) := goodIn_app (goodIn_of _ (by decide +kernel)) ggX9_rent_X9_isHouse
set_option maxRecDepth 20000 in
theorem ggX9_rent_X9_in : GoodIn wsX9_rent wsX9_in := goodIn_r _ [11] (by decide +kernel) (by decide +kernel)
set_option maxRecDepth 20000 in
theorem gX9_rent_X9_in : GoodIn wsX9_rent (va_wsS RX9 70 yX9_in wsX9_in) := goodIn_app (goodIn_of _ (by decide +kernel)) ggX9_rent_X9_in
theorem dX9_rent_0 : decode cX9_rent 0 = .ok (.aload_n 0, 1) := by decide +kernel
theorem dX9_rent_1 : decode cX9_rent 1 = .ok (.iload_n 1, 1) := by decide +kernel
theorem dX9_rent_2 : decode cX9_rent 2 = .ok (.invokevirtual 75, 3) := by decide +kernel
theorem dX9_rent_5 : decode cX9_rent 5 = .ok (.ifCond .eq 13, 3) := by decide +kernel
theorem dX9_rent_8 : decode cX9_rent 8 = .ok (.iload_n 2, 1) := by decide +kernel
theorem dX9_rent_9 : decode cX9_rent 9 = .ok (.iconst 0, 1) := by decide +kernel
theorem dX9_rent_10 : decode cX9_rent 10 = .ok (.ldc 74, 2) := by decide +kernel
theorem dX9_rent_12 : decode cX9_rent 12 = .ok (.invokestatic 70, 3) := by decide +kernel
theorem dX9_rent_15 : decode cX9_rent 15 = .ok (.ifCond .ne 5, 3) := by decide +kernel
theorem dX9_rent_18 : decode cX9_rent 18 = .ok (.iconst (-1), 1) := by decide +kernel
theorem dX9_rent_19 : decode cX9_rent 19 = .ok (.ireturn, 1) := by decide +kernel
theorem dX9_rent_20 : decode cX9_rent 20 = .ok (.aload_n 0, 1) := by decide +kernel
theorem dX9_rent_21 : decode cX9_rent 21 = .ok (.getfield 22, 3) := by decide +kernel
theorem dX9_rent_24 : decode cX9_rent 24 = .ok (.iload_n 1, 1) := by decide +kernel
theorem dX9_rent_25 : decode cX9_rent 25 = .ok (.iaload, 1) := by decide +kernel
theorem dX9_rent_26 : decode cX9_rent 26 = .ok (.istore_n 3, 1) := by decide +kernel
theorem dX9_rent_27 : decode cX9_rent 27 = .ok (.aload_n 0, 1) := by decide +kernel
theorem dX9_rent_28 : decode cX9_rent 28 = .ok (.getfield 22, 3) := by decide +kernel
theorem dX9_rent_31 : decode cX9_rent 31 = .ok (.iload_n 1, 1) := by decide +kernel
theorem dX9_rent_32 : decode cX9_rent 32 = .ok (.iload_n 2, 1) := by decide +kernel
theorem dX9_rent_33 : decode cX9_rent 33 = .ok (.iastore, 1) := by decide +kernel
theorem dX9_rent_34 : decode cX9_rent 34 = .ok (.iload_n 3, 1) := by decide +kernel
theorem dX9_rent_35 : decode cX9_rent 35 = .ok (.ireturn, 1) := by decide +kernel
theorem dX9_isAsked_0 : decode cX9_isAsked 0 = .ok (.iload_n 1, 1) := by decide +kernel
theorem dX9_isAsked_1 : decode cX9_isAsked 1 = .ok (.iload 4, 2) := by decide +kernel
theorem dX9_isAsked_3 : decode cX9_isAsked 3 = .ok (.if_icmp .eq 40, 3) := by decide +kernel
theorem dX9_isAsked_6 : decode cX9_isAsked 6 = .ok (.aload_n 0, 1) := by decide +kernel
theorem dX9_isAsked_7 : decode cX9_isAsked 7 = .ok (.getfield 13, 3) := by decide +kernel
theorem dX9_isAsked_10 : decode cX9_isAsked 10 = .ok (.iload_n 1, 1) := by decide +kernel
theorem dX9_isAsked_11 : decode cX9_isAsked 11 = .ok (.iaload, 1) := by decide +kernel
theorem dX9_isAsked_12 : decode cX9_isAsked 12 = .ok (.iload_n 2, 1) := by decide +kernel
theorem dX9_isAsked_13 : decode cX9_isAsked 13 = .ok (.if_icmp .ne 30, 3) := by decide +kernel
theorem dX9_isAsked_16 : decode cX9_isAsked 16 = .ok (.iload_n 3, 1) := by decide +kernel
theorem dX9_isAsked_17 : decode cX9_isAsked 17 = .ok (.ifCond .lt 13, 3) := by decide +kernel
theorem dX9_isAsked_20 : decode cX9_isAsked 20 = .ok (.aload_n 0, 1) := by decide +kernel
theorem dX9_isAsked_21 : decode cX9_isAsked 21 = .ok (.getfield 16, 3) := by decide +kernel
theorem dX9_isAsked_24 : decode cX9_isAsked 24 = .ok (.iload_n 1, 1) := by decide +kernel
theorem dX9_isAsked_25 : decode cX9_isAsked 25 = .ok (.iaload, 1) := by decide +kernel
theorem dX9_isAsked_26 : decode cX9_isAsked 26 = .ok (.iload_n 3, 1) := by decide +kernel
theorem dX9_isAsked_27 : decode cX9_isAsked 27 = .ok (.if_icmp .ne 16, 3) := by decide +kernel
theorem dX9_isAsked_30 : decode cX9_isAsked 30 = .ok (.aload_n 0, 1) := by decide +kernel
theorem dX9_isAsked_31 : decode cX9_isAsked 31 = .ok (.getfield 22, 3) := by decide +kernel
theorem dX9_isAsked_34 : decode cX9_isAsked 34 = .ok (.iload_n 1, 1) := by decide +kernel
theorem dX9_isAsked_35 : decode cX9_isAsked 35 = .ok (.iaload, 1) := by decide +kernel
theorem dX9_isAsked_36 : decode cX9_isAsked 36 = .ok (.ifCond .le 7, 3) := by decide +kernel
theorem dX9_isAsked_39 : decode cX9_isAsked 39 = .ok (.iconst 1, 1) := by decide +kernel
theorem dX9_isAsked_40 : decode cX9_isAsked 40 = .ok (.goto 4, 3) := by decide +kernel
theorem dX9_isAsked_43 : decode cX9_isAsked 43 = .ok (.iconst 0, 1) := by decide +kernel
theorem dX9_isAsked_44 : decode cX9_isAsked 44 = .ok (.ireturn, 1) := by decide +kernel
