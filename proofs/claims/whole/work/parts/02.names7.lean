set_option maxRecDepth 20000 in
theorem ggX9_appeal_X9_isHouse : GoodIn wsX9_appeal wsX9_isHouse := goodIn_r _ [7, 1, 8, 9, 6, 10, 27, 28, 29, 30, 31, 32, 33, 34, 35, 36, 37, 38, 39, 40, 41, 42, 43, 44, 45, 46, 47, 48] (by decide +kernel) (by decide +kernel)
set_option maxRecDepth 20000 in
theorem gX9_appeal_X9_isHouse : GoodIn wsX9_appeal (wsV RX9 75 RX9 yX9_isHouse wsX9_isHouse) := goodIn_app (goodIn_of _ (by decide +kernel)) ggX9_appeal_X9_isHouse
set_option maxRecDepth 20000 in
theorem ggX9_appeal_X9_isDay : GoodIn wsX9_appeal wsX9_isDay := goodIn_r _ [13, 8, 9, 6, 10] (by decide +kernel) (by decide +kernel)
set_option maxRecDepth 20000 in
theorem gX9_appeal_X9_isDay : GoodIn wsX9_appeal (va_wsS RX9 100 yX9_isDay wsX9_isDay) := goodIn_app (goodIn_of _ (by decide +kernel)) ggX9_appeal_X9_isDay
set_option maxRecDepth 20000 in
theorem ggX9_appeal_X9_in : GoodIn wsX9_appeal wsX9_in := goodIn_r _ [10] (by decide +kernel) (by decide +kernel)
set_option maxRecDepth 20000 in
theorem gX9_appeal_X9_in : GoodIn wsX9_appeal (va_wsS RX9 70 yX9_in wsX9_in) := goodIn_app (goodIn_of _ (by decide +kernel)) ggX9_appeal_X9_in
set_option maxRecDepth 20000 in
theorem ggX9_appeal_X9_isLike : GoodIn wsX9_appeal wsX9_isLike := goodIn_r _ [17, 18, 19, 27, 28, 29, 30, 31, 32, 33, 34, 35, 36, 37, 38, 39, 40, 41, 42, 43, 44, 45, 46, 47, 48] (by decide +kernel) (by decide +kernel)
set_option maxRecDepth 20000 in
theorem gX9_appeal_X9_isLike : GoodIn wsX9_appeal (wsV RX9 117 RX9 yX9_isLike wsX9_isLike) := goodIn_app (goodIn_of _ (by decide +kernel)) ggX9_appeal_X9_isLike
set_option maxRecDepth 20000 in
theorem ggX9_appeal_X9_adds : GoodIn wsX9_appeal wsX9_adds := goodIn_r _ [23, 2, 24, 25, 26, 27, 28, 29, 30, 31, 32, 33, 34, 35, 36, 37, 38, 39, 40, 41, 42, 43, 44, 45, 46, 47, 48] (by decide +kernel) (by decide +kernel)
set_option maxRecDepth 20000 in
theorem gX9_appeal_X9_adds : GoodIn wsX9_appeal (wsV RX9 113 RX9 yX9_adds wsX9_adds) := goodIn_app (goodIn_of _ (by decide +kernel)) ggX9_appeal_X9_adds
theorem dX9_appeal_0 : decode cX9_appeal 0 = .ok (.aload_n 0, 1) := by decide +kernel
theorem dX9_appeal_1 : decode cX9_appeal 1 = .ok (.iload_n 1, 1) := by decide +kernel
theorem dX9_appeal_2 : decode cX9_appeal 2 = .ok (.invokevirtual 75, 3) := by decide +kernel
theorem dX9_appeal_5 : decode cX9_appeal 5 = .ok (.ifCond .eq 21, 3) := by decide +kernel
theorem dX9_appeal_8 : decode cX9_appeal 8 = .ok (.iload_n 2, 1) := by decide +kernel
theorem dX9_appeal_9 : decode cX9_appeal 9 = .ok (.invokestatic 100, 3) := by decide +kernel
theorem dX9_appeal_12 : decode cX9_appeal 12 = .ok (.ifCond .eq 14, 3) := by decide +kernel
theorem dX9_appeal_15 : decode cX9_appeal 15 = .ok (.iload_n 3, 1) := by decide +kernel
theorem dX9_appeal_16 : decode cX9_appeal 16 = .ok (.iconst 1, 1) := by decide +kernel
theorem dX9_appeal_17 : decode cX9_appeal 17 = .ok (.sipush 900, 3) := by decide +kernel
theorem dX9_appeal_20 : decode cX9_appeal 20 = .ok (.invokestatic 70, 3) := by decide +kernel
theorem dX9_appeal_23 : decode cX9_appeal 23 = .ok (.ifCond .ne 5, 3) := by decide +kernel
theorem dX9_appeal_26 : decode cX9_appeal 26 = .ok (.iconst (-1), 1) := by decide +kernel
theorem dX9_appeal_27 : decode cX9_appeal 27 = .ok (.ireturn, 1) := by decide +kernel
theorem dX9_appeal_28 : decode cX9_appeal 28 = .ok (.iconst 0, 1) := by decide +kernel
theorem dX9_appeal_29 : decode cX9_appeal 29 = .ok (.istore 5, 2) := by decide +kernel
theorem dX9_appeal_31 : decode cX9_appeal 31 = .ok (.iload 5, 2) := by decide +kernel
theorem dX9_appeal_33 : decode cX9_appeal 33 = .ok (.aload_n 0, 1) := by decide +kernel
theorem dX9_appeal_34 : decode cX9_appeal 34 = .ok (.getfield 66, 3) := by decide +kernel
theorem dX9_appeal_37 : decode cX9_appeal 37 = .ok (.if_icmp .ge 45, 3) := by decide +kernel
theorem dX9_appeal_40 : decode cX9_appeal 40 = .ok (.iload 5, 2) := by decide +kernel
theorem dX9_appeal_42 : decode cX9_appeal 42 = .ok (.iload_n 1, 1) := by decide +kernel
theorem dX9_appeal_43 : decode cX9_appeal 43 = .ok (.if_icmp .eq 18, 3) := by decide +kernel
theorem dX9_appeal_46 : decode cX9_appeal 46 = .ok (.iload 4, 2) := by decide +kernel
theorem dX9_appeal_48 : decode cX9_appeal 48 = .ok (.ifCond .eq 28, 3) := by decide +kernel
theorem dX9_appeal_51 : decode cX9_appeal 51 = .ok (.aload_n 0, 1) := by decide +kernel
theorem dX9_appeal_52 : decode cX9_appeal 52 = .ok (.iload 5, 2) := by decide +kernel
theorem dX9_appeal_54 : decode cX9_appeal 54 = .ok (.iload_n 1, 1) := by decide +kernel
theorem dX9_appeal_55 : decode cX9_appeal 55 = .ok (.invokevirtual 117, 3) := by decide +kernel
theorem dX9_appeal_58 : decode cX9_appeal 58 = .ok (.ifCond .eq 18, 3) := by decide +kernel
theorem dX9_appeal_61 : decode cX9_appeal 61 = .ok (.aload_n 0, 1) := by decide +kernel
theorem dX9_appeal_62 : decode cX9_appeal 62 = .ok (.getfield 25, 3) := by decide +kernel
theorem dX9_appeal_65 : decode cX9_appeal 65 = .ok (.iload 5, 2) := by decide +kernel
theorem dX9_appeal_67 : decode cX9_appeal 67 = .ok (.iaload, 1) := by decide +kernel
theorem dX9_appeal_68 : decode cX9_appeal 68 = .ok (.bipush 12, 2) := by decide +kernel
theorem dX9_appeal_70 : decode cX9_appeal 70 = .ok (.if_icmp .ne 6, 3) := by decide +kernel
theorem dX9_appeal_73 : decode cX9_appeal 73 = .ok (.bipush (-3), 2) := by decide +kernel
theorem dX9_appeal_75 : decode cX9_appeal 75 = .ok (.ireturn, 1) := by decide +kernel
theorem dX9_appeal_76 : decode cX9_appeal 76 = .ok (.iinc 5 1, 3) := by decide +kernel
theorem dX9_appeal_79 : decode cX9_appeal 79 = .ok (.goto (-48), 3) := by decide +kernel
theorem dX9_appeal_82 : decode cX9_appeal 82 = .ok (.iconst 0, 1) := by decide +kernel
theorem dX9_appeal_83 : decode cX9_appeal 83 = .ok (.istore 5, 2) := by decide +kernel
theorem dX9_appeal_85 : decode cX9_appeal 85 = .ok (.iconst 0, 1) := by decide +kernel
theorem dX9_appeal_86 : decode cX9_appeal 86 = .ok (.istore 6, 2) := by decide +kernel
theorem dX9_appeal_88 : decode cX9_appeal 88 = .ok (.iload 6, 2) := by decide +kernel
theorem dX9_appeal_90 : decode cX9_appeal 90 = .ok (.aload_n 0, 1) := by decide +kernel
theorem dX9_appeal_91 : decode cX9_appeal 91 = .ok (.getfield 66, 3) := by decide +kernel
theorem dX9_appeal_94 : decode cX9_appeal 94 = .ok (.if_icmp .ge 42, 3) := by decide +kernel
theorem dX9_appeal_97 : decode cX9_appeal 97 = .ok (.iload 6, 2) := by decide +kernel
theorem dX9_appeal_99 : decode cX9_appeal 99 = .ok (.iload_n 1, 1) := by decide +kernel
theorem dX9_appeal_100 : decode cX9_appeal 100 = .ok (.if_icmp .eq 18, 3) := by decide +kernel
theorem dX9_appeal_103 : decode cX9_appeal 103 = .ok (.iload 4, 2) := by decide +kernel
theorem dX9_appeal_105 : decode cX9_appeal 105 = .ok (.ifCond .eq 25, 3) := by decide +kernel
theorem dX9_appeal_108 : decode cX9_appeal 108 = .ok (.aload_n 0, 1) := by decide +kernel
theorem dX9_appeal_109 : decode cX9_appeal 109 = .ok (.iload 6, 2) := by decide +kernel
theorem dX9_appeal_111 : decode cX9_appeal 111 = .ok (.iload_n 1, 1) := by decide +kernel
theorem dX9_appeal_112 : decode cX9_appeal 112 = .ok (.invokevirtual 117, 3) := by decide +kernel
theorem dX9_appeal_115 : decode cX9_appeal 115 = .ok (.ifCond .eq 15, 3) := by decide +kernel
theorem dX9_appeal_118 : decode cX9_appeal 118 = .ok (.aload_n 0, 1) := by decide +kernel
theorem dX9_appeal_119 : decode cX9_appeal 119 = .ok (.iload 6, 2) := by decide +kernel
theorem dX9_appeal_121 : decode cX9_appeal 121 = .ok (.iload_n 2, 1) := by decide +kernel
theorem dX9_appeal_122 : decode cX9_appeal 122 = .ok (.iconst 2, 1) := by decide +kernel
theorem dX9_appeal_123 : decode cX9_appeal 123 = .ok (.iload_n 3, 1) := by decide +kernel
theorem dX9_appeal_124 : decode cX9_appeal 124 = .ok (.invokevirtual 113, 3) := by decide +kernel
theorem dX9_appeal_127 : decode cX9_appeal 127 = .ok (.iinc 5 1, 3) := by decide +kernel
theorem dX9_appeal_130 : decode cX9_appeal 130 = .ok (.iinc 6 1, 3) := by decide +kernel
theorem dX9_appeal_133 : decode cX9_appeal 133 = .ok (.goto (-45), 3) := by decide +kernel
theorem dX9_appeal_136 : decode cX9_appeal 136 = .ok (.iload 5, 2) := by decide +kernel
theorem dX9_appeal_138 : decode cX9_appeal 138 = .ok (.ireturn, 1) := by decide +kernel
set_option maxRecDepth 20000 in
theorem ggX9_strike_X9_isHouse : GoodIn wsX9_strike wsX9_isHouse := goodIn_r _ [6, 7, 8, 9, 5, 10, 11, 12, 13, 14, 15, 16, 17, 18, 19, 20, 21, 22, 23, 24, 25, 26, 27, 28, 29, 30, 31, 32] (by decide +kernel) (by decide +kernel)
set_option maxRecDepth 20000 in
theorem gX9_strike_X9_isHouse : GoodIn wsX9_strike (wsV RX9 75 RX9 yX9_isHouse wsX9_isHouse) := goodIn_app (goodIn_of _ (by decide +kernel)) ggX9_strike_X9_isHouse
theorem dX9_strike_0 : decode cX9_strike 0 = .ok (.aload_n 0, 1) := by decide +kernel
theorem dX9_strike_1 : decode cX9_strike 1 = .ok (.iload_n 1, 1) := by decide +kernel
theorem dX9_strike_2 : decode cX9_strike 2 = .ok (.invokevirtual 75, 3) := by decide +kernel
theorem dX9_strike_5 : decode cX9_strike 5 = .ok (.ifCond .ne 5, 3) := by decide +kernel
theorem dX9_strike_8 : decode cX9_strike 8 = .ok (.iconst (-1), 1) := by decide +kernel
theorem dX9_strike_9 : decode cX9_strike 9 = .ok (.ireturn, 1) := by decide +kernel
theorem dX9_strike_10 : decode cX9_strike 10 = .ok (.aload_n 0, 1) := by decide +kernel
theorem dX9_strike_11 : decode cX9_strike 11 = .ok (.getfield 25, 3) := by decide +kernel
theorem dX9_strike_14 : decode cX9_strike 14 = .ok (.iload_n 1, 1) := by decide +kernel
theorem dX9_strike_15 : decode cX9_strike 15 = .ok (.iaload, 1) := by decide +kernel
theorem dX9_strike_16 : decode cX9_strike 16 = .ok (.ifCond .ne 6, 3) := by decide +kernel
theorem dX9_strike_19 : decode cX9_strike 19 = .ok (.bipush (-2), 2) := by decide +kernel
theorem dX9_strike_21 : decode cX9_strike 21 = .ok (.ireturn, 1) := by decide +kernel
theorem dX9_strike_22 : decode cX9_strike 22 = .ok (.aload_n 0, 1) := by decide +kernel
theorem dX9_strike_23 : decode cX9_strike 23 = .ok (.getfield 25, 3) := by decide +kernel
theorem dX9_strike_26 : decode cX9_strike 26 = .ok (.iload_n 1, 1) := by decide +kernel
theorem dX9_strike_27 : decode cX9_strike 27 = .ok (.dup2, 1) := by decide +kernel
theorem dX9_strike_28 : decode cX9_strike 28 = .ok (.iaload, 1) := by decide +kernel
theorem dX9_strike_29 : decode cX9_strike 29 = .ok (.iconst 1, 1) := by decide +kernel
theorem dX9_strike_30 : decode cX9_strike 30 = .ok (.isub, 1) := by decide +kernel
theorem dX9_strike_31 : decode cX9_strike 31 = .ok (.iastore, 1) := by decide +kernel
theorem dX9_strike_32 : decode cX9_strike 32 = .ok (.aload_n 0, 1) := by decide +kernel
theorem dX9_strike_33 : decode cX9_strike 33 = .ok (.getfield 25, 3) := by decide +kernel
theorem dX9_strike_36 : decode cX9_strike 36 = .ok (.iload_n 1, 1) := by decide +kernel
theorem dX9_strike_37 : decode cX9_strike 37 = .ok (.iaload, 1) := by decide +kernel
theorem dX9_strike_38 : decode cX9_strike 38 = .ok (.ireturn, 1) := by decide +kernel
theorem dX9_counting_0 : decode cX9_counting 0 = .ok (.iconst (-1), 1) := by decide +kernel
theorem dX9_counting_1 : decode cX9_counting 1 = .ok (.istore 4, 2) := by decide +kernel
theorem dX9_counting_3 : decode cX9_counting 3 = .ok (.bipush 12, 2) := by decide +kernel
theorem dX9_counting_5 : decode cX9_counting 5 = .ok (.iload_n 1, 1) := by decide +kernel
theorem dX9_counting_6 : decode cX9_counting 6 = .ok (.imul, 1) := by decide +kernel
theorem dX9_counting_7 : decode cX9_counting 7 = .ok (.istore 5, 2) := by decide +kernel
theorem dX9_counting_9 : decode cX9_counting 9 = .ok (.iload 5, 2) := by decide +kernel
theorem dX9_counting_11 : decode cX9_counting 11 = .ok (.bipush 12, 2) := by decide +kernel
theorem dX9_counting_13 : decode cX9_counting 13 = .ok (.iload_n 1, 1) := by decide +kernel
theorem dX9_counting_14 : decode cX9_counting 14 = .ok (.imul, 1) := by decide +kernel
theorem dX9_counting_15 : decode cX9_counting 15 = .ok (.aload_n 0, 1) := by decide +kernel
theorem dX9_counting_16 : decode cX9_counting 16 = .ok (.getfield 25, 3) := by decide +kernel
theorem dX9_counting_19 : decode cX9_counting 19 = .ok (.iload_n 1, 1) := by decide +kernel
theorem dX9_counting_20 : decode cX9_counting 20 = .ok (.iaload, 1) := by decide +kernel
theorem dX9_counting_21 : decode cX9_counting 21 = .ok (.iadd, 1) := by decide +kernel
theorem dX9_counting_22 : decode cX9_counting 22 = .ok (.if_icmp .ge 74, 3) := by decide +kernel
theorem dX9_counting_25 : decode cX9_counting 25 = .ok (.aload_n 0, 1) := by decide +kernel
theorem dX9_counting_26 : decode cX9_counting 26 = .ok (.getfield 31, 3) := by decide +kernel
theorem dX9_counting_29 : decode cX9_counting 29 = .ok (.iload 5, 2) := by decide +kernel
theorem dX9_counting_31 : decode cX9_counting 31 = .ok (.iaload, 1) := by decide +kernel
theorem dX9_counting_32 : decode cX9_counting 32 = .ok (.iload_n 3, 1) := by decide +kernel
theorem dX9_counting_33 : decode cX9_counting 33 = .ok (.if_icmp .ne 40, 3) := by decide +kernel
theorem dX9_counting_36 : decode cX9_counting 36 = .ok (.aload_n 0, 1) := by decide +kernel
theorem dX9_counting_37 : decode cX9_counting 37 = .ok (.getfield 28, 3) := by decide +kernel
theorem dX9_counting_40 : decode cX9_counting 40 = .ok (.iload 5, 2) := by decide +kernel
theorem dX9_counting_42 : decode cX9_counting 42 = .ok (.iaload, 1) := by decide +kernel
theorem dX9_counting_43 : decode cX9_counting 43 = .ok (.iload_n 2, 1) := by decide +kernel
theorem dX9_counting_44 : decode cX9_counting 44 = .ok (.if_icmp .gt 29, 3) := by decide +kernel
theorem dX9_counting_47 : decode cX9_counting 47 = .ok (.iload 4, 2) := by decide +kernel
theorem dX9_counting_49 : decode cX9_counting 49 = .ok (.ifCond .lt 20, 3) := by decide +kernel
theorem dX9_counting_52 : decode cX9_counting 52 = .ok (.aload_n 0, 1) := by decide +kernel
theorem dX9_counting_53 : decode cX9_counting 53 = .ok (.getfield 28, 3) := by decide +kernel
theorem dX9_counting_56 : decode cX9_counting 56 = .ok (.iload 5, 2) := by decide +kernel
theorem dX9_counting_58 : decode cX9_counting 58 = .ok (.iaload, 1) := by decide +kernel
theorem dX9_counting_59 : decode cX9_counting 59 = .ok (.aload_n 0, 1) := by decide +kernel
theorem dX9_counting_60 : decode cX9_counting 60 = .ok (.getfield 28, 3) := by decide +kernel
theorem dX9_counting_63 : decode cX9_counting 63 = .ok (.iload 4, 2) := by decide +kernel
theorem dX9_counting_65 : decode cX9_counting 65 = .ok (.iaload, 1) := by decide +kernel
theorem dX9_counting_66 : decode cX9_counting 66 = .ok (.if_icmp .lt 7, 3) := by decide +kernel
theorem dX9_counting_69 : decode cX9_counting 69 = .ok (.iconst 1, 1) := by decide +kernel
theorem dX9_counting_70 : decode cX9_counting 70 = .ok (.goto 4, 3) := by decide +kernel
theorem dX9_counting_73 : decode cX9_counting 73 = .ok (.iconst 0, 1) := by decide +kernel
theorem dX9_counting_74 : decode cX9_counting 74 = .ok (.istore 6, 2) := by decide +kernel
theorem dX9_counting_76 : decode cX9_counting 76 = .ok (.iload 6, 2) := by decide +kernel
theorem dX9_counting_78 : decode cX9_counting 78 = .ok (.ifCond .eq 8, 3) := by decide +kernel
theorem dX9_counting_81 : decode cX9_counting 81 = .ok (.iload 5, 2) := by decide +kernel
theorem dX9_counting_83 : decode cX9_counting 83 = .ok (.goto 5, 3) := by decide +kernel
theorem dX9_counting_86 : decode cX9_counting 86 = .ok (.iload 4, 2) := by decide +kernel
theorem dX9_counting_88 : decode cX9_counting 88 = .ok (.istore 4, 2) := by decide +kernel
theorem dX9_counting_90 : decode cX9_counting 90 = .ok (.iinc 5 1, 3) := by decide +kernel
theorem dX9_counting_93 : decode cX9_counting 93 = .ok (.goto (-84), 3) := by decide +kernel
theorem dX9_counting_96 : decode cX9_counting 96 = .ok (.iload 4, 2) := by decide +kernel
theorem dX9_counting_98 : decode cX9_counting 98 = .ok (.ireturn, 1) := by decide +kernel
set_option maxRecDepth 20000 in
theorem ggX9_sizeOn_X9_counting : GoodIn wsX9_sizeOn wsX9_counting := goodIn_r _ [7, 8, 9, 10, 11, 12, 13, 14, 15, 16, 17, 18, 19, 20, 21, 22, 23, 24, 25, 26, 27, 28, 29, 30, 31, 32] (by decide +kernel) (by decide +kernel)
set_option maxRecDepth 20000 in
theorem gX9_sizeOn_X9_counting : GoodIn wsX9_sizeOn (wsV RX9 120 RX9 yX9_counting wsX9_counting) := goodIn_app (goodIn_of _ (by decide +kernel)) ggX9_sizeOn_X9_counting
theorem dX9_sizeOn_0 : decode cX9_sizeOn 0 = .ok (.aload_n 0, 1) := by decide +kernel
theorem dX9_sizeOn_1 : decode cX9_sizeOn 1 = .ok (.iload_n 1, 1) := by decide +kernel
theorem dX9_sizeOn_2 : decode cX9_sizeOn 2 = .ok (.iload_n 2, 1) := by decide +kernel
theorem dX9_sizeOn_3 : decode cX9_sizeOn 3 = .ok (.iconst 0, 1) := by decide +kernel
theorem dX9_sizeOn_4 : decode cX9_sizeOn 4 = .ok (.invokevirtual 120, 3) := by decide +kernel
theorem dX9_sizeOn_7 : decode cX9_sizeOn 7 = .ok (.istore_n 3, 1) := by decide +kernel
theorem dX9_sizeOn_8 : decode cX9_sizeOn 8 = .ok (.iload_n 3, 1) := by decide +kernel
theorem dX9_sizeOn_9 : decode cX9_sizeOn 9 = .ok (.ifCond .ge 12, 3) := by decide +kernel
theorem dX9_sizeOn_12 : decode cX9_sizeOn 12 = .ok (.aload_n 0, 1) := by decide +kernel
theorem dX9_sizeOn_13 : decode cX9_sizeOn 13 = .ok (.getfield 19, 3) := by decide +kernel
theorem dX9_sizeOn_16 : decode cX9_sizeOn 16 = .ok (.iload_n 1, 1) := by decide +kernel
theorem dX9_sizeOn_17 : decode cX9_sizeOn 17 = .ok (.iaload, 1) := by decide +kernel
theorem dX9_sizeOn_18 : decode cX9_sizeOn 18 = .ok (.goto 9, 3) := by decide +kernel
theorem dX9_sizeOn_21 : decode cX9_sizeOn 21 = .ok (.aload_n 0, 1) := by decide +kernel
theorem dX9_sizeOn_22 : decode cX9_sizeOn 22 = .ok (.getfield 34, 3) := by decide +kernel
theorem dX9_sizeOn_25 : decode cX9_sizeOn 25 = .ok (.iload_n 3, 1) := by decide +kernel
theorem dX9_sizeOn_26 : decode cX9_sizeOn 26 = .ok (.iaload, 1) := by decide +kernel
theorem dX9_sizeOn_27 : decode cX9_sizeOn 27 = .ok (.ireturn, 1) := by decide +kernel
set_option maxRecDepth 20000 in
theorem ggX9_useOn_X9_counting : GoodIn wsX9_useOn wsX9_counting := goodIn_r _ [6, 7, 8, 9, 10, 11, 12, 13, 14, 15, 16, 17, 18, 19, 20, 21, 22, 23, 24, 25, 26, 27, 28, 29, 30, 31] (by decide +kernel) (by decide +kernel)
set_option maxRecDepth 20000 in
theorem gX9_useOn_X9_counting : GoodIn wsX9_useOn (wsV RX9 120 RX9 yX9_counting wsX9_counting) := goodIn_app (goodIn_of _ (by decide +kernel)) ggX9_useOn_X9_counting
theorem dX9_useOn_0 : decode cX9_useOn 0 = .ok (.aload_n 0, 1) := by decide +kernel
theorem dX9_useOn_1 : decode cX9_useOn 1 = .ok (.iload_n 1, 1) := by decide +kernel
theorem dX9_useOn_2 : decode cX9_useOn 2 = .ok (.iload_n 2, 1) := by decide +kernel
theorem dX9_useOn_3 : decode cX9_useOn 3 = .ok (.iconst 1, 1) := by decide +kernel
theorem dX9_useOn_4 : decode cX9_useOn 4 = .ok (.invokevirtual 120, 3) := by decide +kernel
theorem dX9_useOn_7 : decode cX9_useOn 7 = .ok (.istore_n 3, 1) := by decide +kernel
theorem dX9_useOn_8 : decode cX9_useOn 8 = .ok (.iload_n 3, 1) := by decide +kernel
theorem dX9_useOn_9 : decode cX9_useOn 9 = .ok (.ifCond .ge 7, 3) := by decide +kernel
theorem dX9_useOn_12 : decode cX9_useOn 12 = .ok (.iconst 0, 1) := by decide +kernel
theorem dX9_useOn_13 : decode cX9_useOn 13 = .ok (.goto 9, 3) := by decide +kernel
theorem dX9_useOn_16 : decode cX9_useOn 16 = .ok (.aload_n 0, 1) := by decide +kernel
theorem dX9_useOn_17 : decode cX9_useOn 17 = .ok (.getfield 34, 3) := by decide +kernel
theorem dX9_useOn_20 : decode cX9_useOn 20 = .ok (.iload_n 3, 1) := by decide +kernel
theorem dX9_useOn_21 : decode cX9_useOn 21 = .ok (.iaload, 1) := by decide +kernel
theorem dX9_useOn_22 : decode cX9_useOn 22 = .ok (.ireturn, 1) := by decide +kernel
theorem dX9_listOn_0 : decode cX9_listOn 0 = .ok (.bipush (-4), 2) := by decide +kernel
theorem dX9_listOn_2 : decode cX9_listOn 2 = .ok (.istore_n 2, 1) := by decide +kernel
theorem dX9_listOn_3 : decode cX9_listOn 3 = .ok (.iconst 0, 1) := by decide +kernel
theorem dX9_listOn_4 : decode cX9_listOn 4 = .ok (.istore_n 3, 1) := by decide +kernel
theorem dX9_listOn_5 : decode cX9_listOn 5 = .ok (.iload_n 3, 1) := by decide +kernel
theorem dX9_listOn_6 : decode cX9_listOn 6 = .ok (.aload_n 0, 1) := by decide +kernel
theorem dX9_listOn_7 : decode cX9_listOn 7 = .ok (.getfield 103, 3) := by decide +kernel
theorem dX9_listOn_10 : decode cX9_listOn 10 = .ok (.if_icmp .ge 25, 3) := by decide +kernel
theorem dX9_listOn_13 : decode cX9_listOn 13 = .ok (.aload_n 0, 1) := by decide +kernel
theorem dX9_listOn_14 : decode cX9_listOn 14 = .ok (.getfield 37, 3) := by decide +kernel
theorem dX9_listOn_17 : decode cX9_listOn 17 = .ok (.iload_n 3, 1) := by decide +kernel
theorem dX9_listOn_18 : decode cX9_listOn 18 = .ok (.iaload, 1) := by decide +kernel
theorem dX9_listOn_19 : decode cX9_listOn 19 = .ok (.iload_n 1, 1) := by decide +kernel
theorem dX9_listOn_20 : decode cX9_listOn 20 = .ok (.if_icmp .gt 7, 3) := by decide +kernel
theorem dX9_listOn_23 : decode cX9_listOn 23 = .ok (.iload_n 3, 1) := by decide +kernel
theorem dX9_listOn_24 : decode cX9_listOn 24 = .ok (.goto 4, 3) := by decide +kernel
theorem dX9_listOn_27 : decode cX9_listOn 27 = .ok (.iload_n 2, 1) := by decide +kernel
theorem dX9_listOn_28 : decode cX9_listOn 28 = .ok (.istore_n 2, 1) := by decide +kernel
theorem dX9_listOn_29 : decode cX9_listOn 29 = .ok (.iinc 3 1, 3) := by decide +kernel
theorem dX9_listOn_32 : decode cX9_listOn 32 = .ok (.goto (-27), 3) := by decide +kernel
theorem dX9_listOn_35 : decode cX9_listOn 35 = .ok (.iload_n 2, 1) := by decide +kernel
theorem dX9_listOn_36 : decode cX9_listOn 36 = .ok (.ireturn, 1) := by decide +kernel
set_option maxRecDepth 20000 in
theorem ggX9_worthOn_X9_listOn : GoodIn wsX9_worthOn wsX9_listOn := goodIn_r _ [15, 16, 5, 30, 31, 32, 33, 34, 35, 36, 37, 38, 39, 40, 41, 42, 43, 44, 45, 46, 47, 48, 49, 50, 51] (by decide +kernel) (by decide +kernel)
set_option maxRecDepth 20000 in
theorem gX9_worthOn_X9_listOn : GoodIn wsX9_worthOn (wsV RX9 123 RX9 yX9_listOn wsX9_listOn) := goodIn_app (goodIn_of _ (by decide +kernel)) ggX9_worthOn_X9_listOn
set_option maxRecDepth 20000 in
theorem ggX9_worthOn_X9_sizeOn : GoodIn wsX9_worthOn wsX9_sizeOn := goodIn_r _ [20, 21, 9, 22, 23, 24, 14, 25, 6, 7, 8, 30, 31, 32, 33, 34, 35, 36, 37, 38, 39, 40, 41, 42, 43, 44, 45, 46, 47, 48, 49, 50, 51] (by decide +kernel) (by decide +kernel)
set_option maxRecDepth 20000 in
theorem gX9_worthOn_X9_sizeOn : GoodIn wsX9_worthOn (wsV RX9 127 RX9 yX9_sizeOn wsX9_sizeOn) := goodIn_app (goodIn_of _ (by decide +kernel)) ggX9_worthOn_X9_sizeOn
set_option maxRecDepth 20000 in
theorem ggX9_worthOn_X9_nextCut : GoodIn wsX9_worthOn wsX9_nextCut := goodIn_r _ [29, 6, 7, 8, 30, 31, 32, 33, 34, 35, 36, 37, 38, 39, 40, 41, 42, 43, 44, 45, 46, 47, 48, 49, 50, 51] (by decide +kernel) (by decide +kernel)
set_option maxRecDepth 20000 in
theorem gX9_worthOn_X9_nextCut : GoodIn wsX9_worthOn (wsV RX9 131 RX9 yX9_nextCut wsX9_nextCut) := goodIn_app (goodIn_of _ (by decide +kernel)) ggX9_worthOn_X9_nextCut
theorem dX9_worthOn_0 : decode cX9_worthOn 0 = .ok (.aload_n 0, 1) := by decide +kernel
theorem dX9_worthOn_1 : decode cX9_worthOn 1 = .ok (.iload_n 2, 1) := by decide +kernel
theorem dX9_worthOn_2 : decode cX9_worthOn 2 = .ok (.invokevirtual 123, 3) := by decide +kernel
theorem dX9_worthOn_5 : decode cX9_worthOn 5 = .ok (.istore_n 3, 1) := by decide +kernel
theorem dX9_worthOn_6 : decode cX9_worthOn 6 = .ok (.iload_n 3, 1) := by decide +kernel
theorem dX9_worthOn_7 : decode cX9_worthOn 7 = .ok (.ifCond .ge 5, 3) := by decide +kernel
theorem dX9_worthOn_10 : decode cX9_worthOn 10 = .ok (.iconst 0, 1) := by decide +kernel
theorem dX9_worthOn_11 : decode cX9_worthOn 11 = .ok (.ireturn, 1) := by decide +kernel
theorem dX9_worthOn_12 : decode cX9_worthOn 12 = .ok (.bipush 18, 2) := by decide +kernel
theorem dX9_worthOn_14 : decode cX9_worthOn 14 = .ok (.iload_n 3, 1) := by decide +kernel
theorem dX9_worthOn_15 : decode cX9_worthOn 15 = .ok (.imul, 1) := by decide +kernel
theorem dX9_worthOn_16 : decode cX9_worthOn 16 = .ok (.bipush 6, 2) := by decide +kernel
theorem dX9_worthOn_18 : decode cX9_worthOn 18 = .ok (.aload_n 0, 1) := by decide +kernel
theorem dX9_worthOn_19 : decode cX9_worthOn 19 = .ok (.getfield 13, 3) := by decide +kernel
theorem dX9_worthOn_22 : decode cX9_worthOn 22 = .ok (.iload_n 1, 1) := by decide +kernel
theorem dX9_worthOn_23 : decode cX9_worthOn 23 = .ok (.iaload, 1) := by decide +kernel
theorem dX9_worthOn_24 : decode cX9_worthOn 24 = .ok (.imul, 1) := by decide +kernel
theorem dX9_worthOn_25 : decode cX9_worthOn 25 = .ok (.iadd, 1) := by decide +kernel
theorem dX9_worthOn_26 : decode cX9_worthOn 26 = .ok (.aload_n 0, 1) := by decide +kernel
theorem dX9_worthOn_27 : decode cX9_worthOn 27 = .ok (.getfield 16, 3) := by decide +kernel
theorem dX9_worthOn_30 : decode cX9_worthOn 30 = .ok (.iload_n 1, 1) := by decide +kernel
theorem dX9_worthOn_31 : decode cX9_worthOn 31 = .ok (.iaload, 1) := by decide +kernel
theorem dX9_worthOn_32 : decode cX9_worthOn 32 = .ok (.iadd, 1) := by decide +kernel
theorem dX9_worthOn_33 : decode cX9_worthOn 33 = .ok (.istore 4, 2) := by decide +kernel
theorem dX9_worthOn_35 : decode cX9_worthOn 35 = .ok (.aload_n 0, 1) := by decide +kernel
theorem dX9_worthOn_36 : decode cX9_worthOn 36 = .ok (.iload_n 1, 1) := by decide +kernel
theorem dX9_worthOn_37 : decode cX9_worthOn 37 = .ok (.iload_n 2, 1) := by decide +kernel
theorem dX9_worthOn_38 : decode cX9_worthOn 38 = .ok (.invokevirtual 127, 3) := by decide +kernel
theorem dX9_worthOn_41 : decode cX9_worthOn 41 = .ok (.i2l, 1) := by decide +kernel
theorem dX9_worthOn_42 : decode cX9_worthOn 42 = .ok (.aload_n 0, 1) := by decide +kernel
theorem dX9_worthOn_43 : decode cX9_worthOn 43 = .ok (.getfield 40, 3) := by decide +kernel
theorem dX9_worthOn_46 : decode cX9_worthOn 46 = .ok (.iload 4, 2) := by decide +kernel
theorem dX9_worthOn_48 : decode cX9_worthOn 48 = .ok (.iaload, 1) := by decide +kernel
theorem dX9_worthOn_49 : decode cX9_worthOn 49 = .ok (.i2l, 1) := by decide +kernel
theorem dX9_worthOn_50 : decode cX9_worthOn 50 = .ok (.lmul, 1) := by decide +kernel
theorem dX9_worthOn_51 : decode cX9_worthOn 51 = .ok (.aload_n 0, 1) := by decide +kernel
theorem dX9_worthOn_52 : decode cX9_worthOn 52 = .ok (.getfield 43, 3) := by decide +kernel
theorem dX9_worthOn_55 : decode cX9_worthOn 55 = .ok (.iload 4, 2) := by decide +kernel
theorem dX9_worthOn_57 : decode cX9_worthOn 57 = .ok (.iaload, 1) := by decide +kernel
theorem dX9_worthOn_58 : decode cX9_worthOn 58 = .ok (.i2l, 1) := by decide +kernel
theorem dX9_worthOn_59 : decode cX9_worthOn 59 = .ok (.ldiv, 1) := by decide +kernel
theorem dX9_worthOn_60 : decode cX9_worthOn 60 = .ok (.lstore 5, 2) := by decide +kernel
theorem dX9_worthOn_62 : decode cX9_worthOn 62 = .ok (.aload_n 0, 1) := by decide +kernel
theorem dX9_worthOn_63 : decode cX9_worthOn 63 = .ok (.getfield 37, 3) := by decide +kernel
theorem dX9_worthOn_66 : decode cX9_worthOn 66 = .ok (.iload_n 3, 1) := by decide +kernel
theorem dX9_worthOn_67 : decode cX9_worthOn 67 = .ok (.iaload, 1) := by decide +kernel
theorem dX9_worthOn_68 : decode cX9_worthOn 68 = .ok (.istore 7, 2) := by decide +kernel
theorem dX9_worthOn_70 : decode cX9_worthOn 70 = .ok (.iload 7, 2) := by decide +kernel
theorem dX9_worthOn_72 : decode cX9_worthOn 72 = .ok (.iload_n 2, 1) := by decide +kernel
theorem dX9_worthOn_73 : decode cX9_worthOn 73 = .ok (.if_icmp .gt 102, 3) := by decide +kernel
theorem dX9_worthOn_76 : decode cX9_worthOn 76 = .ok (.aload_n 0, 1) := by decide +kernel
theorem dX9_worthOn_77 : decode cX9_worthOn 77 = .ok (.iload_n 1, 1) := by decide +kernel
theorem dX9_worthOn_78 : decode cX9_worthOn 78 = .ok (.iload 7, 2) := by decide +kernel
theorem dX9_worthOn_80 : decode cX9_worthOn 80 = .ok (.iload_n 2, 1) := by decide +kernel
theorem dX9_worthOn_81 : decode cX9_worthOn 81 = .ok (.invokevirtual 131, 3) := by decide +kernel
theorem dX9_worthOn_84 : decode cX9_worthOn 84 = .ok (.istore 7, 2) := by decide +kernel
theorem dX9_worthOn_86 : decode cX9_worthOn 86 = .ok (.bipush 12, 2) := by decide +kernel
theorem dX9_worthOn_88 : decode cX9_worthOn 88 = .ok (.iload_n 1, 1) := by decide +kernel
theorem dX9_worthOn_89 : decode cX9_worthOn 89 = .ok (.imul, 1) := by decide +kernel
theorem dX9_worthOn_90 : decode cX9_worthOn 90 = .ok (.istore 8, 2) := by decide +kernel
theorem dX9_worthOn_92 : decode cX9_worthOn 92 = .ok (.iload 8, 2) := by decide +kernel
theorem dX9_worthOn_94 : decode cX9_worthOn 94 = .ok (.bipush 12, 2) := by decide +kernel
theorem dX9_worthOn_96 : decode cX9_worthOn 96 = .ok (.iload_n 1, 1) := by decide +kernel
theorem dX9_worthOn_97 : decode cX9_worthOn 97 = .ok (.imul, 1) := by decide +kernel
theorem dX9_worthOn_98 : decode cX9_worthOn 98 = .ok (.aload_n 0, 1) := by decide +kernel
theorem dX9_worthOn_99 : decode cX9_worthOn 99 = .ok (.getfield 25, 3) := by decide +kernel
theorem dX9_worthOn_102 : decode cX9_worthOn 102 = .ok (.iload_n 1, 1) := by decide +kernel
theorem dX9_worthOn_103 : decode cX9_worthOn 103 = .ok (.iaload, 1) := by decide +kernel
theorem dX9_worthOn_104 : decode cX9_worthOn 104 = .ok (.iadd, 1) := by decide +kernel
theorem dX9_worthOn_105 : decode cX9_worthOn 105 = .ok (.if_icmp .ge 64, 3) := by decide +kernel
theorem dX9_worthOn_108 : decode cX9_worthOn 108 = .ok (.aload_n 0, 1) := by decide +kernel
theorem dX9_worthOn_109 : decode cX9_worthOn 109 = .ok (.getfield 31, 3) := by decide +kernel
theorem dX9_worthOn_112 : decode cX9_worthOn 112 = .ok (.iload 8, 2) := by decide +kernel
theorem dX9_worthOn_114 : decode cX9_worthOn 114 = .ok (.iaload, 1) := by decide +kernel
theorem dX9_worthOn_115 : decode cX9_worthOn 115 = .ok (.iconst 2, 1) := by decide +kernel
theorem dX9_worthOn_116 : decode cX9_worthOn 116 = .ok (.if_icmp .ne 43, 3) := by decide +kernel
theorem dX9_worthOn_119 : decode cX9_worthOn 119 = .ok (.aload_n 0, 1) := by decide +kernel
theorem dX9_worthOn_120 : decode cX9_worthOn 120 = .ok (.getfield 28, 3) := by decide +kernel
theorem dX9_worthOn_123 : decode cX9_worthOn 123 = .ok (.iload 8, 2) := by decide +kernel
theorem dX9_worthOn_125 : decode cX9_worthOn 125 = .ok (.iaload, 1) := by decide +kernel
theorem dX9_worthOn_126 : decode cX9_worthOn 126 = .ok (.iload 7, 2) := by decide +kernel
theorem dX9_worthOn_128 : decode cX9_worthOn 128 = .ok (.if_icmp .ne 31, 3) := by decide +kernel
theorem dX9_worthOn_131 : decode cX9_worthOn 131 = .ok (.iload 7, 2) := by decide +kernel
theorem dX9_worthOn_133 : decode cX9_worthOn 133 = .ok (.iload_n 2, 1) := by decide +kernel
theorem dX9_worthOn_134 : decode cX9_worthOn 134 = .ok (.if_icmp .gt 25, 3) := by decide +kernel
theorem dX9_worthOn_137 : decode cX9_worthOn 137 = .ok (.lload 5, 2) := by decide +kernel
theorem dX9_worthOn_139 : decode cX9_worthOn 139 = .ok (.sipush 1000, 3) := by decide +kernel
theorem dX9_worthOn_142 : decode cX9_worthOn 142 = .ok (.aload_n 0, 1) := by decide +kernel
theorem dX9_worthOn_143 : decode cX9_worthOn 143 = .ok (.getfield 34, 3) := by decide +kernel
theorem dX9_worthOn_146 : decode cX9_worthOn 146 = .ok (.iload 8, 2) := by decide +kernel
theorem dX9_worthOn_148 : decode cX9_worthOn 148 = .ok (.iaload, 1) := by decide +kernel
theorem dX9_worthOn_149 : decode cX9_worthOn 149 = .ok (.isub, 1) := by decide +kernel
theorem dX9_worthOn_150 : decode cX9_worthOn 150 = .ok (.i2l, 1) := by decide +kernel
theorem dX9_worthOn_151 : decode cX9_worthOn 151 = .ok (.lmul, 1) := by decide +kernel
theorem dX9_worthOn_152 : decode cX9_worthOn 152 = .ok (.ldc2_w 134, 3) := by decide +kernel
theorem dX9_worthOn_155 : decode cX9_worthOn 155 = .ok (.ldiv, 1) := by decide +kernel
theorem dX9_worthOn_156 : decode cX9_worthOn 156 = .ok (.goto 5, 3) := by decide +kernel
theorem dX9_worthOn_159 : decode cX9_worthOn 159 = .ok (.lload 5, 2) := by decide +kernel
theorem dX9_worthOn_161 : decode cX9_worthOn 161 = .ok (.lstore 5, 2) := by decide +kernel
theorem dX9_worthOn_163 : decode cX9_worthOn 163 = .ok (.iinc 8 1, 3) := by decide +kernel
theorem dX9_worthOn_166 : decode cX9_worthOn 166 = .ok (.goto (-74), 3) := by decide +kernel
theorem dX9_worthOn_169 : decode cX9_worthOn 169 = .ok (.iinc 7 1, 3) := by decide +kernel
theorem dX9_worthOn_172 : decode cX9_worthOn 172 = .ok (.goto (-102), 3) := by decide +kernel
theorem dX9_worthOn_175 : decode cX9_worthOn 175 = .ok (.lload 5, 2) := by decide +kernel
theorem dX9_worthOn_177 : decode cX9_worthOn 177 = .ok (.l2i, 1) := by decide +kernel
theorem dX9_worthOn_178 : decode cX9_worthOn 178 = .ok (.ireturn, 1) := by decide +kernel
theorem dX9_nextCut_0 : decode cX9_nextCut 0 = .ok (.iload_n 3, 1) := by decide +kernel
theorem dX9_nextCut_1 : decode cX9_nextCut 1 = .ok (.iconst 1, 1) := by decide +kernel
theorem dX9_nextCut_2 : decode cX9_nextCut 2 = .ok (.iadd, 1) := by decide +kernel
theorem dX9_nextCut_3 : decode cX9_nextCut 3 = .ok (.istore 4, 2) := by decide +kernel
theorem dX9_nextCut_5 : decode cX9_nextCut 5 = .ok (.bipush 12, 2) := by decide +kernel
theorem dX9_nextCut_7 : decode cX9_nextCut 7 = .ok (.iload_n 1, 1) := by decide +kernel
theorem dX9_nextCut_8 : decode cX9_nextCut 8 = .ok (.imul, 1) := by decide +kernel
theorem dX9_nextCut_9 : decode cX9_nextCut 9 = .ok (.istore 5, 2) := by decide +kernel
theorem dX9_nextCut_11 : decode cX9_nextCut 11 = .ok (.iload 5, 2) := by decide +kernel
theorem dX9_nextCut_13 : decode cX9_nextCut 13 = .ok (.bipush 12, 2) := by decide +kernel
theorem dX9_nextCut_15 : decode cX9_nextCut 15 = .ok (.iload_n 1, 1) := by decide +kernel
theorem dX9_nextCut_16 : decode cX9_nextCut 16 = .ok (.imul, 1) := by decide +kernel
theorem dX9_nextCut_17 : decode cX9_nextCut 17 = .ok (.aload_n 0, 1) := by decide +kernel
theorem dX9_nextCut_18 : decode cX9_nextCut 18 = .ok (.getfield 25, 3) := by decide +kernel
theorem dX9_nextCut_21 : decode cX9_nextCut 21 = .ok (.iload_n 1, 1) := by decide +kernel
theorem dX9_nextCut_22 : decode cX9_nextCut 22 = .ok (.iaload, 1) := by decide +kernel
theorem dX9_nextCut_23 : decode cX9_nextCut 23 = .ok (.iadd, 1) := by decide +kernel
theorem dX9_nextCut_24 : decode cX9_nextCut 24 = .ok (.if_icmp .ge 57, 3) := by decide +kernel
theorem dX9_nextCut_27 : decode cX9_nextCut 27 = .ok (.aload_n 0, 1) := by decide +kernel
theorem dX9_nextCut_28 : decode cX9_nextCut 28 = .ok (.getfield 31, 3) := by decide +kernel
theorem dX9_nextCut_31 : decode cX9_nextCut 31 = .ok (.iload 5, 2) := by decide +kernel
theorem dX9_nextCut_33 : decode cX9_nextCut 33 = .ok (.iaload, 1) := by decide +kernel
theorem dX9_nextCut_34 : decode cX9_nextCut 34 = .ok (.iconst 2, 1) := by decide +kernel
theorem dX9_nextCut_35 : decode cX9_nextCut 35 = .ok (.if_icmp .ne 36, 3) := by decide +kernel
theorem dX9_nextCut_38 : decode cX9_nextCut 38 = .ok (.aload_n 0, 1) := by decide +kernel
theorem dX9_nextCut_39 : decode cX9_nextCut 39 = .ok (.getfield 28, 3) := by decide +kernel
theorem dX9_nextCut_42 : decode cX9_nextCut 42 = .ok (.iload 5, 2) := by decide +kernel
theorem dX9_nextCut_44 : decode cX9_nextCut 44 = .ok (.iaload, 1) := by decide +kernel
theorem dX9_nextCut_45 : decode cX9_nextCut 45 = .ok (.iload_n 2, 1) := by decide +kernel
theorem dX9_nextCut_46 : decode cX9_nextCut 46 = .ok (.if_icmp .lt 25, 3) := by decide +kernel
theorem dX9_nextCut_49 : decode cX9_nextCut 49 = .ok (.aload_n 0, 1) := by decide +kernel
theorem dX9_nextCut_50 : decode cX9_nextCut 50 = .ok (.getfield 28, 3) := by decide +kernel
theorem dX9_nextCut_53 : decode cX9_nextCut 53 = .ok (.iload 5, 2) := by decide +kernel
theorem dX9_nextCut_55 : decode cX9_nextCut 55 = .ok (.iaload, 1) := by decide +kernel
theorem dX9_nextCut_56 : decode cX9_nextCut 56 = .ok (.iload 4, 2) := by decide +kernel
theorem dX9_nextCut_58 : decode cX9_nextCut 58 = .ok (.if_icmp .ge 13, 3) := by decide +kernel
theorem dX9_nextCut_61 : decode cX9_nextCut 61 = .ok (.aload_n 0, 1) := by decide +kernel
theorem dX9_nextCut_62 : decode cX9_nextCut 62 = .ok (.getfield 28, 3) := by decide +kernel
theorem dX9_nextCut_65 : decode cX9_nextCut 65 = .ok (.iload 5, 2) := by decide +kernel
theorem dX9_nextCut_67 : decode cX9_nextCut 67 = .ok (.iaload, 1) := by decide +kernel
theorem dX9_nextCut_68 : decode cX9_nextCut 68 = .ok (.goto 5, 3) := by decide +kernel
theorem dX9_nextCut_71 : decode cX9_nextCut 71 = .ok (.iload 4, 2) := by decide +kernel
theorem dX9_nextCut_73 : decode cX9_nextCut 73 = .ok (.istore 4, 2) := by decide +kernel
theorem dX9_nextCut_75 : decode cX9_nextCut 75 = .ok (.iinc 5 1, 3) := by decide +kernel
theorem dX9_nextCut_78 : decode cX9_nextCut 78 = .ok (.goto (-67), 3) := by decide +kernel
theorem dX9_nextCut_81 : decode cX9_nextCut 81 = .ok (.iload 4, 2) := by decide +kernel
theorem dX9_nextCut_83 : decode cX9_nextCut 83 = .ok (.ireturn, 1) := by decide +kernel
set_option maxRecDepth 20000 in
theorem ggX9_countsOn_X9_worthOn : GoodIn wsX9_countsOn wsX9_worthOn := goodIn_r _ [6, 7, 8, 9, 10, 11, 12, 13, 1, 14, 15, 16, 17, 18, 5, 19, 20, 21, 22, 23, 24, 25, 26, 27, 28, 29, 30, 31, 32, 33, 38, 39, 40, 41, 42, 43, 44, 45, 46, 47, 48, 49, 50, 51, 52, 53, 54, 55, 56, 57, 58, 59] (by decide +kernel) (by decide +kernel)
set_option maxRecDepth 20000 in
theorem gX9_countsOn_X9_worthOn : GoodIn wsX9_countsOn (wsV RX9 136 RX9 yX9_worthOn wsX9_worthOn) := goodIn_app (goodIn_of _ (by decide +kernel)) ggX9_countsOn_X9_worthOn
set_option maxRecDepth 20000 in
theorem ggX9_countsOn_X9_useOn : GoodIn wsX9_countsOn wsX9_useOn := goodIn_r _ [37, 14, 26, 27, 28, 5, 29, 12, 13, 1, 38, 39, 40, 41, 42, 43, 44, 45, 46, 47, 48, 49, 50, 51, 52, 53, 54, 55, 56, 57, 58, 59] (by decide +kernel) (by decide +kernel)
set_option maxRecDepth 20000 in
theorem gX9_countsOn_X9_useOn : GoodIn wsX9_countsOn (wsV RX9 139 RX9 yX9_useOn wsX9_useOn) := goodIn_app (goodIn_of _ (by decide +kernel)) ggX9_countsOn_X9_useOn
set_option maxRecDepth 20000 in
theorem ggX9_countsOn_X9_counting : GoodIn wsX9_countsOn wsX9_counting := goodIn_r _ [29, 12, 13, 1, 38, 39, 40, 41, 42, 43, 44, 45, 46, 47, 48, 49, 50, 51, 52, 53, 54, 55, 56, 57, 58, 59] (by decide +kernel) (by decide +kernel)
set_option maxRecDepth 20000 in
theorem gX9_countsOn_X9_counting : GoodIn wsX9_countsOn (wsV RX9 120 RX9 yX9_counting wsX9_counting) := goodIn_app (goodIn_of _ (by decide +kernel)) ggX9_countsOn_X9_counting
theorem dX9_countsOn_0 : decode cX9_countsOn 0 = .ok (.aload_n 0, 1) := by decide +kernel
theorem dX9_countsOn_1 : decode cX9_countsOn 1 = .ok (.iload_n 1, 1) := by decide +kernel
theorem dX9_countsOn_2 : decode cX9_countsOn 2 = .ok (.iload_n 2, 1) := by decide +kernel
theorem dX9_countsOn_3 : decode cX9_countsOn 3 = .ok (.invokevirtual 136, 3) := by decide +kernel
theorem dX9_countsOn_6 : decode cX9_countsOn 6 = .ok (.istore_n 3, 1) := by decide +kernel
theorem dX9_countsOn_7 : decode cX9_countsOn 7 = .ok (.aload_n 0, 1) := by decide +kernel
theorem dX9_countsOn_8 : decode cX9_countsOn 8 = .ok (.iload_n 1, 1) := by decide +kernel
theorem dX9_countsOn_9 : decode cX9_countsOn 9 = .ok (.iload_n 2, 1) := by decide +kernel
theorem dX9_countsOn_10 : decode cX9_countsOn 10 = .ok (.invokevirtual 139, 3) := by decide +kernel
theorem dX9_countsOn_13 : decode cX9_countsOn 13 = .ok (.tableswitch 60 0 2 #[27, 29, 56], 27) := by decide +kernel
theorem dX9_countsOn_40 : decode cX9_countsOn 40 = .ok (.iload_n 3, 1) := by decide +kernel
theorem dX9_countsOn_41 : decode cX9_countsOn 41 = .ok (.ireturn, 1) := by decide +kernel
theorem dX9_countsOn_42 : decode cX9_countsOn 42 = .ok (.iload_n 2, 1) := by decide +kernel
theorem dX9_countsOn_43 : decode cX9_countsOn 43 = .ok (.aload_n 0, 1) := by decide +kernel
theorem dX9_countsOn_44 : decode cX9_countsOn 44 = .ok (.getfield 28, 3) := by decide +kernel
theorem dX9_countsOn_47 : decode cX9_countsOn 47 = .ok (.aload_n 0, 1) := by decide +kernel
theorem dX9_countsOn_48 : decode cX9_countsOn 48 = .ok (.iload_n 1, 1) := by decide +kernel
theorem dX9_countsOn_49 : decode cX9_countsOn 49 = .ok (.iload_n 2, 1) := by decide +kernel
theorem dX9_countsOn_50 : decode cX9_countsOn 50 = .ok (.iconst 1, 1) := by decide +kernel
theorem dX9_countsOn_51 : decode cX9_countsOn 51 = .ok (.invokevirtual 120, 3) := by decide +kernel
theorem dX9_countsOn_54 : decode cX9_countsOn 54 = .ok (.iaload, 1) := by decide +kernel
theorem dX9_countsOn_55 : decode cX9_countsOn 55 = .ok (.isub, 1) := by decide +kernel
theorem dX9_countsOn_56 : decode cX9_countsOn 56 = .ok (.bipush 90, 2) := by decide +kernel
theorem dX9_countsOn_58 : decode cX9_countsOn 58 = .ok (.if_icmp .ge 7, 3) := by decide +kernel
theorem dX9_countsOn_61 : decode cX9_countsOn 61 = .ok (.iconst 0, 1) := by decide +kernel
theorem dX9_countsOn_62 : decode cX9_countsOn 62 = .ok (.goto 6, 3) := by decide +kernel
theorem dX9_countsOn_65 : decode cX9_countsOn 65 = .ok (.iload_n 3, 1) := by decide +kernel
theorem dX9_countsOn_66 : decode cX9_countsOn 66 = .ok (.iconst 2, 1) := by decide +kernel
theorem dX9_countsOn_67 : decode cX9_countsOn 67 = .ok (.idiv, 1) := by decide +kernel
theorem dX9_countsOn_68 : decode cX9_countsOn 68 = .ok (.ireturn, 1) := by decide +kernel
theorem dX9_countsOn_69 : decode cX9_countsOn 69 = .ok (.iload_n 3, 1) := by decide +kernel
theorem dX9_countsOn_70 : decode cX9_countsOn 70 = .ok (.iconst 2, 1) := by decide +kernel
theorem dX9_countsOn_71 : decode cX9_countsOn 71 = .ok (.idiv, 1) := by decide +kernel
theorem dX9_countsOn_72 : decode cX9_countsOn 72 = .ok (.ireturn, 1) := by decide +kernel
theorem dX9_countsOn_73 : decode cX9_countsOn 73 = .ok (.iload_n 3, 1) := by decide +kernel
theorem dX9_countsOn_74 : decode cX9_countsOn 74 = .ok (.iconst 5, 1) := by decide +kernel
theorem dX9_countsOn_75 : decode cX9_countsOn 75 = .ok (.idiv, 1) := by decide +kernel
theorem dX9_countsOn_76 : decode cX9_countsOn 76 = .ok (.ireturn, 1) := by decide +kernel
theorem dX9_relieved_0 : decode cX9_relieved 0 = .ok (.iload_n 0, 1) := by decide +kernel
theorem dX9_relieved_1 : decode cX9_relieved 1 = .ok (.sipush 1200, 3) := by decide +kernel
theorem dX9_relieved_4 : decode cX9_relieved 4 = .ok (.if_icmp .gt 7, 3) := by decide +kernel
theorem dX9_relieved_7 : decode cX9_relieved 7 = .ok (.iconst 0, 1) := by decide +kernel
theorem dX9_relieved_8 : decode cX9_relieved 8 = .ok (.goto 21, 3) := by decide +kernel
theorem dX9_relieved_11 : decode cX9_relieved 11 = .ok (.iload_n 0, 1) := by decide +kernel
theorem dX9_relieved_12 : decode cX9_relieved 12 = .ok (.sipush 1500, 3) := by decide +kernel
theorem dX9_relieved_15 : decode cX9_relieved 15 = .ok (.if_icmp .gt 13, 3) := by decide +kernel
theorem dX9_relieved_18 : decode cX9_relieved 18 = .ok (.iconst 5, 1) := by decide +kernel
theorem dX9_relieved_19 : decode cX9_relieved 19 = .ok (.iload_n 0, 1) := by decide +kernel
theorem dX9_relieved_20 : decode cX9_relieved 20 = .ok (.sipush 1200, 3) := by decide +kernel
theorem dX9_relieved_23 : decode cX9_relieved 23 = .ok (.isub, 1) := by decide +kernel
theorem dX9_relieved_24 : decode cX9_relieved 24 = .ok (.imul, 1) := by decide +kernel
theorem dX9_relieved_25 : decode cX9_relieved 25 = .ok (.goto 4, 3) := by decide +kernel
theorem dX9_relieved_28 : decode cX9_relieved 28 = .ok (.iload_n 0, 1) := by decide +kernel
theorem dX9_relieved_29 : decode cX9_relieved 29 = .ok (.ireturn, 1) := by decide +kernel
set_option maxRecDepth 20000 in
theorem ggX9_on_X9_isHouse : GoodIn wsX9_on wsX9_isHouse := goodIn_r _ [5, 6, 7, 8, 4, 9, 56, 57, 58, 59, 60, 61, 62, 63, 64, 65, 66, 67, 68, 69, 70, 71, 72, 73, 74, 75, 76, 77] (by decide +kernel) (by decide +kernel)
set_option maxRecDepth 20000 in
theorem gX9_on_X9_isHouse : GoodIn wsX9_on (wsV RX9 75 RX9 yX9_isHouse wsX9_isHouse) := goodIn_app (goodIn_of _ (by decide +kernel)) ggX9_on_X9_isHouse
set_option maxRecDepth 20000 in
theorem ggX9_on_X9_isDay : GoodIn wsX9_on wsX9_isDay := goodIn_r _ [12, 7, 8, 4, 9] (by decide +kernel) (by decide +kernel)
set_option maxRecDepth 20000 in
theorem gX9_on_X9_isDay : GoodIn wsX9_on (va_wsS RX9 100 yX9_isDay wsX9_isDay) := goodIn_app (goodIn_of _ (by decide +kernel)) ggX9_on_X9_isDay
set_option maxRecDepth 20000 in
theorem ggX9_on_X9_in : GoodIn wsX9_on wsX9_in := goodIn_r _ [9] (by decide +kernel) (by decide +kernel)
set_option maxRecDepth 20000 in
theorem gX9_on_X9_in : GoodIn wsX9_on (va_wsS RX9 70 yX9_in wsX9_in) := goodIn_app (goodIn_of _ (by decide +kernel)) ggX9_on_X9_in
set_option maxRecDepth 20000 in
theorem ggX9_on_X9_sizeOn : GoodIn wsX9_on wsX9_sizeOn := goodIn_r _ [16, 17, 18, 19, 20, 21, 4, 22, 23, 24, 25, 56, 57, 58, 59, 60, 61, 62, 63, 64, 65, 66, 67, 68, 69, 70, 71, 72, 73, 74, 75, 76, 77] (by decide +kernel) (by decide +kernel)
set_option maxRecDepth 20000 in
theorem gX9_on_X9_sizeOn : GoodIn wsX9_on (wsV RX9 127 RX9 yX9_sizeOn wsX9_sizeOn) := goodIn_app (goodIn_of _ (by decide +kernel)) ggX9_on_X9_sizeOn
set_option maxRecDepth 20000 in
theorem ggX9_on_X9_useOn : GoodIn wsX9_on wsX9_useOn := goodIn_r _ [29, 18, 19, 20, 21, 4, 22, 23, 24, 25, 56, 57, 58, 59, 60, 61, 62, 63, 64, 65, 66, 67, 68, 69, 70, 71, 72, 73, 74, 75, 76, 77] (by decide +kernel) (by decide +kernel)
set_option maxRecDepth 20000 in
theorem gX9_on_X9_useOn : GoodIn wsX9_on (wsV RX9 139 RX9 yX9_useOn wsX9_useOn) := goodIn_app (goodIn_of _ (by decide +kernel)) ggX9_on_X9_useOn
set_option maxRecDepth 20000 in
theorem ggX9_on_X9_worthOn : GoodIn wsX9_on wsX9_worthOn := goodIn_r _ [33, 34, 35, 36, 37, 38, 23, 24, 25, 18, 39, 40, 41, 42, 4, 43, 44, 13, 14, 15, 16, 17, 19, 20, 21, 22, 45, 46, 47, 48, 56, 57, 58, 59, 60, 61, 62, 63, 64, 65, 66, 67, 68, 69, 70, 71, 72, 73, 74, 75, 76, 77] (by decide +kernel) (by decide +kernel)
set_option maxRecDepth 20000 in
theorem gX9_on_X9_worthOn : GoodIn wsX9_on (wsV RX9 136 RX9 yX9_worthOn wsX9_worthOn) := goodIn_app (goodIn_of _ (by decide +kernel)) ggX9_on_X9_worthOn
set_option maxRecDepth 20000 in
theorem ggX9_on_X9_countsOn : GoodIn wsX9_on wsX9_countsOn := goodIn_r _ [52, 25, 30, 31, 32, 4, 33, 34, 35, 36, 37, 38, 23, 24, 18, 39, 40, 41, 42, 43, 44, 13, 14, 15, 16, 17, 19, 20, 21, 22, 45, 46, 47, 48, 26, 27, 28, 29, 56, 57, 58, 59, 60, 61, 62, 63, 64, 65, 66, 67, 68, 69, 70, 71, 72, 73, 74, 75, 76, 77] (by decide +kernel) (by decide +kernel)
set_option maxRecDepth 20000 in
theorem gX9_on_X9_countsOn : GoodIn wsX9_on (wsV RX9 142 RX9 yX9_countsOn wsX9_countsOn) := goodIn_app (goodIn_of _ (by decide +kernel)) ggX9_on_X9_countsOn
set_option maxRecDepth 20000 in
theorem ggX9_on_X9_relieved : GoodIn wsX9_on wsX9_relieved := goodIn_r _ [55] (by decide +kernel) (by decide +kernel)
set_option maxRecDepth 20000 in
theorem gX9_on_X9_relieved : GoodIn wsX9_on (va_wsS RX9 145 yX9_relieved wsX9_relieved) := goodIn_app (goodIn_of _ (by decide +kernel)) ggX9_on_X9_relieved
set_option maxRecDepth 20000 in
theorem ggX9_on_X9_listOn : GoodIn wsX9_on wsX9_listOn := goodIn_r _ [43, 44, 38, 56, 57, 58, 59, 60, 61, 62, 63, 64, 65, 66, 67, 68, 69, 70, 71, 72, 73, 74, 75, 76, 77] (by decide +kernel) (by decide +kernel)
set_option maxRecDepth 20000 in
theorem gX9_on_X9_listOn : GoodIn wsX9_on (wsV RX9 123 RX9 yX9_listOn wsX9_listOn) := goodIn_app (goodIn_of _ (by decide +kernel)) ggX9_on_X9_listOn
theorem dX9_on_0 : decode cX9_on 0 = .ok (.aload_n 0, 1) := by decide +kernel
theorem dX9_on_1 : decode cX9_on 1 = .ok (.iload_n 1, 1) := by decide +kernel
theorem dX9_on_2 : decode cX9_on 2 = .ok (.invokevirtual 75, 3) := by decide +kernel
theorem dX9_on_5 : decode cX9_on 5 = .ok (.ifCond .eq 19, 3) := by decide +kernel
theorem dX9_on_8 : decode cX9_on 8 = .ok (.iload_n 2, 1) := by decide +kernel
theorem dX9_on_9 : decode cX9_on 9 = .ok (.invokestatic 100, 3) := by decide +kernel
theorem dX9_on_12 : decode cX9_on 12 = .ok (.ifCond .eq 12, 3) := by decide +kernel
theorem dX9_on_15 : decode cX9_on 15 = .ok (.iload_n 3, 1) := by decide +kernel
theorem dX9_on_16 : decode cX9_on 16 = .ok (.iconst 0, 1) := by decide +kernel
theorem dX9_on_17 : decode cX9_on 17 = .ok (.iconst 5, 1) := by decide +kernel
theorem dX9_on_18 : decode cX9_on 18 = .ok (.invokestatic 70, 3) := by decide +kernel
theorem dX9_on_21 : decode cX9_on 21 = .ok (.ifCond .ne 5, 3) := by decide +kernel
theorem dX9_on_24 : decode cX9_on 24 = .ok (.iconst (-1), 1) := by decide +kernel
theorem dX9_on_25 : decode cX9_on 25 = .ok (.ireturn, 1) := by decide +kernel
theorem dX9_on_26 : decode cX9_on 26 = .ok (.iload_n 3, 1) := by decide +kernel
theorem dX9_on_27 : decode cX9_on 27 = .ok (.tableswitch 71 0 4 #[33, 40, 47, 54, 61], 33) := by decide +kernel
theorem dX9_on_60 : decode cX9_on 60 = .ok (.aload_n 0, 1) := by decide +kernel
theorem dX9_on_61 : decode cX9_on 61 = .ok (.iload_n 1, 1) := by decide +kernel
theorem dX9_on_62 : decode cX9_on 62 = .ok (.iload_n 2, 1) := by decide +kernel
theorem dX9_on_63 : decode cX9_on 63 = .ok (.invokevirtual 127, 3) := by decide +kernel
theorem dX9_on_66 : decode cX9_on 66 = .ok (.ireturn, 1) := by decide +kernel
theorem dX9_on_67 : decode cX9_on 67 = .ok (.aload_n 0, 1) := by decide +kernel
theorem dX9_on_68 : decode cX9_on 68 = .ok (.iload_n 1, 1) := by decide +kernel
theorem dX9_on_69 : decode cX9_on 69 = .ok (.iload_n 2, 1) := by decide +kernel
theorem dX9_on_70 : decode cX9_on 70 = .ok (.invokevirtual 139, 3) := by decide +kernel
theorem dX9_on_73 : decode cX9_on 73 = .ok (.ireturn, 1) := by decide +kernel
theorem dX9_on_74 : decode cX9_on 74 = .ok (.aload_n 0, 1) := by decide +kernel
theorem dX9_on_75 : decode cX9_on 75 = .ok (.iload_n 1, 1) := by decide +kernel
theorem dX9_on_76 : decode cX9_on 76 = .ok (.iload_n 2, 1) := by decide +kernel
theorem dX9_on_77 : decode cX9_on 77 = .ok (.invokevirtual 136, 3) := by decide +kernel
theorem dX9_on_80 : decode cX9_on 80 = .ok (.ireturn, 1) := by decide +kernel
theorem dX9_on_81 : decode cX9_on 81 = .ok (.aload_n 0, 1) := by decide +kernel
theorem dX9_on_82 : decode cX9_on 82 = .ok (.iload_n 1, 1) := by decide +kernel
theorem dX9_on_83 : decode cX9_on 83 = .ok (.iload_n 2, 1) := by decide +kernel
theorem dX9_on_84 : decode cX9_on 84 = .ok (.invokevirtual 142, 3) := by decide +kernel
theorem dX9_on_87 : decode cX9_on 87 = .ok (.ireturn, 1) := by decide +kernel
theorem dX9_on_88 : decode cX9_on 88 = .ok (.aload_n 0, 1) := by decide +kernel
theorem dX9_on_89 : decode cX9_on 89 = .ok (.iload_n 1, 1) := by decide +kernel
theorem dX9_on_90 : decode cX9_on 90 = .ok (.iload_n 2, 1) := by decide +kernel
theorem dX9_on_91 : decode cX9_on 91 = .ok (.invokevirtual 142, 3) := by decide +kernel
theorem dX9_on_94 : decode cX9_on 94 = .ok (.invokestatic 145, 3) := by decide +kernel
theorem dX9_on_97 : decode cX9_on 97 = .ok (.ireturn, 1) := by decide +kernel
theorem dX9_on_98 : decode cX9_on 98 = .ok (.aload_n 0, 1) := by decide +kernel
theorem dX9_on_99 : decode cX9_on 99 = .ok (.iload_n 2, 1) := by decide +kernel
theorem dX9_on_100 : decode cX9_on 100 = .ok (.invokevirtual 123, 3) := by decide +kernel
theorem dX9_on_103 : decode cX9_on 103 = .ok (.ireturn, 1) := by decide +kernel
set_option maxRecDepth 20000 in
theorem ggX9_isYear_X9_in : GoodIn wsX9_isYear wsX9_in := goodIn_r _ [4] (by decide +kernel) (by decide +kernel)
set_option maxRecDepth 20000 in
theorem gX9_isYear_X9_in : GoodIn wsX9_isYear (va_wsS RX9 70 yX9_in wsX9_in) := goodIn_app (goodIn_of _ (by decide +kernel)) ggX9_isYear_X9_in
theorem dX9_isYear_0 : decode cX9_isYear 0 = .ok (.iload_n 0, 1) := by decide +kernel
theorem dX9_isYear_1 : decode cX9_isYear 1 = .ok (.iconst 0, 1) := by decide +kernel
theorem dX9_isYear_2 : decode cX9_isYear 2 = .ok (.bipush 9, 2) := by decide +kernel
theorem dX9_isYear_4 : decode cX9_isYear 4 = .ok (.invokestatic 70, 3) := by decide +kernel
theorem dX9_isYear_7 : decode cX9_isYear 7 = .ok (.ireturn, 1) := by decide +kernel
set_option maxRecDepth 20000 in
theorem ggX9_yearOf_X9_countsOn : GoodIn wsX9_yearOf wsX9_countsOn := goodIn_r _ [5, 6, 7, 8, 9, 4, 10, 11, 12, 13, 14, 15, 16, 17, 18, 19, 20, 21, 22, 23, 24, 25, 26, 27, 28, 29, 30, 31, 32, 33, 34, 35, 36, 37, 38, 39, 40, 41, 45, 46, 47, 48, 49, 50, 51, 52, 53, 54, 55, 56, 57, 58, 59, 60, 61, 62, 63, 64, 65, 66] (by decide +kernel) (by decide +kernel)
set_option maxRecDepth 20000 in
theorem gX9_yearOf_X9_countsOn : GoodIn wsX9_yearOf (wsV RX9 142 RX9 yX9_countsOn wsX9_countsOn) := goodIn_app (goodIn_of _ (by decide +kernel)) ggX9_yearOf_X9_countsOn
set_option maxRecDepth 20000 in
theorem ggX9_yearOf_X9_relieved : GoodIn wsX9_yearOf wsX9_relieved := goodIn_r _ [44] (by decide +kernel) (by decide +kernel)
set_option maxRecDepth 20000 in
theorem gX9_yearOf_X9_relieved : GoodIn wsX9_yearOf (va_wsS RX9 145 yX9_relieved wsX9_relieved) := goodIn_app (goodIn_of _ (by decide +kernel)) ggX9_yearOf_X9_relieved
theorem dX9_yearOf_0 : decode cX9_yearOf 0 = .ok (.lconst 0, 1) := by decide +kernel
theorem dX9_yearOf_1 : decode cX9_yearOf 1 = .ok (.lstore_n 3, 1) := by decide +kernel
theorem dX9_yearOf_2 : decode cX9_yearOf 2 = .ok (.sipush 365, 3) := by decide +kernel
theorem dX9_yearOf_5 : decode cX9_yearOf 5 = .ok (.iload_n 2, 1) := by decide +kernel
theorem dX9_yearOf_6 : decode cX9_yearOf 6 = .ok (.imul, 1) := by decide +kernel
theorem dX9_yearOf_7 : decode cX9_yearOf 7 = .ok (.istore 5, 2) := by decide +kernel
theorem dX9_yearOf_9 : decode cX9_yearOf 9 = .ok (.iload 5, 2) := by decide +kernel
theorem dX9_yearOf_11 : decode cX9_yearOf 11 = .ok (.sipush 365, 3) := by decide +kernel
theorem dX9_yearOf_14 : decode cX9_yearOf 14 = .ok (.iload_n 2, 1) := by decide +kernel
theorem dX9_yearOf_15 : decode cX9_yearOf 15 = .ok (.imul, 1) := by decide +kernel
theorem dX9_yearOf_16 : decode cX9_yearOf 16 = .ok (.sipush 365, 3) := by decide +kernel
theorem dX9_yearOf_19 : decode cX9_yearOf 19 = .ok (.iadd, 1) := by decide +kernel
theorem dX9_yearOf_20 : decode cX9_yearOf 20 = .ok (.if_icmp .ge 23, 3) := by decide +kernel
theorem dX9_yearOf_23 : decode cX9_yearOf 23 = .ok (.lload_n 3, 1) := by decide +kernel
theorem dX9_yearOf_24 : decode cX9_yearOf 24 = .ok (.aload_n 0, 1) := by decide +kernel
theorem dX9_yearOf_25 : decode cX9_yearOf 25 = .ok (.iload_n 1, 1) := by decide +kernel
theorem dX9_yearOf_26 : decode cX9_yearOf 26 = .ok (.iload 5, 2) := by decide +kernel
theorem dX9_yearOf_28 : decode cX9_yearOf 28 = .ok (.invokevirtual 142, 3) := by decide +kernel
theorem dX9_yearOf_31 : decode cX9_yearOf 31 = .ok (.invokestatic 145, 3) := by decide +kernel
theorem dX9_yearOf_34 : decode cX9_yearOf 34 = .ok (.i2l, 1) := by decide +kernel
theorem dX9_yearOf_35 : decode cX9_yearOf 35 = .ok (.ladd, 1) := by decide +kernel
theorem dX9_yearOf_36 : decode cX9_yearOf 36 = .ok (.lstore_n 3, 1) := by decide +kernel
theorem dX9_yearOf_37 : decode cX9_yearOf 37 = .ok (.iinc 5 1, 3) := by decide +kernel
theorem dX9_yearOf_40 : decode cX9_yearOf 40 = .ok (.goto (-31), 3) := by decide +kernel
theorem dX9_yearOf_43 : decode cX9_yearOf 43 = .ok (.lload_n 3, 1) := by decide +kernel
theorem dX9_yearOf_44 : decode cX9_yearOf 44 = .ok (.lreturn, 1) := by decide +kernel
