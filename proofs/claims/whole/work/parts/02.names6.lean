theorem dX9_isLess_0 : decode cX9_isLess 0 = .ok (.aload_n 0, 1) := by decide +kernel
theorem dX9_isLess_1 : decode cX9_isLess 1 = .ok (.getfield 22, 3) := by decide +kernel
theorem dX9_isLess_4 : decode cX9_isLess 4 = .ok (.iload_n 1, 1) := by decide +kernel
theorem dX9_isLess_5 : decode cX9_isLess 5 = .ok (.iaload, 1) := by decide +kernel
theorem dX9_isLess_6 : decode cX9_isLess 6 = .ok (.aload_n 0, 1) := by decide +kernel
theorem dX9_isLess_7 : decode cX9_isLess 7 = .ok (.getfield 19, 3) := by decide +kernel
theorem dX9_isLess_10 : decode cX9_isLess 10 = .ok (.iload_n 2, 1) := by decide +kernel
theorem dX9_isLess_11 : decode cX9_isLess 11 = .ok (.iaload, 1) := by decide +kernel
theorem dX9_isLess_12 : decode cX9_isLess 12 = .ok (.imul, 1) := by decide +kernel
theorem dX9_isLess_13 : decode cX9_isLess 13 = .ok (.istore_n 3, 1) := by decide +kernel
theorem dX9_isLess_14 : decode cX9_isLess 14 = .ok (.aload_n 0, 1) := by decide +kernel
theorem dX9_isLess_15 : decode cX9_isLess 15 = .ok (.getfield 22, 3) := by decide +kernel
theorem dX9_isLess_18 : decode cX9_isLess 18 = .ok (.iload_n 2, 1) := by decide +kernel
theorem dX9_isLess_19 : decode cX9_isLess 19 = .ok (.iaload, 1) := by decide +kernel
theorem dX9_isLess_20 : decode cX9_isLess 20 = .ok (.aload_n 0, 1) := by decide +kernel
theorem dX9_isLess_21 : decode cX9_isLess 21 = .ok (.getfield 19, 3) := by decide +kernel
theorem dX9_isLess_24 : decode cX9_isLess 24 = .ok (.iload_n 1, 1) := by decide +kernel
theorem dX9_isLess_25 : decode cX9_isLess 25 = .ok (.iaload, 1) := by decide +kernel
theorem dX9_isLess_26 : decode cX9_isLess 26 = .ok (.imul, 1) := by decide +kernel
theorem dX9_isLess_27 : decode cX9_isLess 27 = .ok (.istore 4, 2) := by decide +kernel
theorem dX9_isLess_29 : decode cX9_isLess 29 = .ok (.iload_n 3, 1) := by decide +kernel
theorem dX9_isLess_30 : decode cX9_isLess 30 = .ok (.iload 4, 2) := by decide +kernel
theorem dX9_isLess_32 : decode cX9_isLess 32 = .ok (.if_icmp .lt 14, 3) := by decide +kernel
theorem dX9_isLess_35 : decode cX9_isLess 35 = .ok (.iload_n 3, 1) := by decide +kernel
theorem dX9_isLess_36 : decode cX9_isLess 36 = .ok (.iload 4, 2) := by decide +kernel
theorem dX9_isLess_38 : decode cX9_isLess 38 = .ok (.if_icmp .ne 12, 3) := by decide +kernel
theorem dX9_isLess_41 : decode cX9_isLess 41 = .ok (.iload_n 1, 1) := by decide +kernel
theorem dX9_isLess_42 : decode cX9_isLess 42 = .ok (.iload_n 2, 1) := by decide +kernel
theorem dX9_isLess_43 : decode cX9_isLess 43 = .ok (.if_icmp .ge 7, 3) := by decide +kernel
theorem dX9_isLess_46 : decode cX9_isLess 46 = .ok (.iconst 1, 1) := by decide +kernel
theorem dX9_isLess_47 : decode cX9_isLess 47 = .ok (.goto 4, 3) := by decide +kernel
theorem dX9_isLess_50 : decode cX9_isLess 50 = .ok (.iconst 0, 1) := by decide +kernel
theorem dX9_isLess_51 : decode cX9_isLess 51 = .ok (.ireturn, 1) := by decide +kernel
set_option maxRecDepth 20000 in
theorem ggX9_middle_X9_isAsked : GoodIn wsX9_middle wsX9_isAsked := goodIn_r _ [8, 9, 10, 11, 17, 18, 19, 20, 21, 22, 23, 24, 25, 26, 27, 28, 29, 30, 31, 32, 33, 34, 35, 36, 37, 38] (by decide +kernel) (by decide +kernel)
set_option maxRecDepth 20000 in
theorem gX9_middle_X9_isAsked : GoodIn wsX9_middle (wsV RX9 85 RX9 yX9_isAsked wsX9_isAsked) := goodIn_app (goodIn_of _ (by decide +kernel)) ggX9_middle_X9_isAsked
set_option maxRecDepth 20000 in
theorem ggX9_middle_X9_isLess : GoodIn wsX9_middle wsX9_isLess := goodIn_r _ [15, 11, 16, 17, 18, 19, 20, 21, 22, 23, 24, 25, 26, 27, 28, 29, 30, 31, 32, 33, 34, 35, 36, 37, 38] (by decide +kernel) (by decide +kernel)
set_option maxRecDepth 20000 in
theorem gX9_middle_X9_isLess : GoodIn wsX9_middle (wsV RX9 89 RX9 yX9_isLess wsX9_isLess) := goodIn_app (goodIn_of _ (by decide +kernel)) ggX9_middle_X9_isLess
theorem dX9_middle_0 : decode cX9_middle 0 = .ok (.aload_n 0, 1) := by decide +kernel
theorem dX9_middle_1 : decode cX9_middle 1 = .ok (.iconst (-1), 1) := by decide +kernel
theorem dX9_middle_2 : decode cX9_middle 2 = .ok (.putfield 79, 3) := by decide +kernel
theorem dX9_middle_5 : decode cX9_middle 5 = .ok (.aload_n 0, 1) := by decide +kernel
theorem dX9_middle_6 : decode cX9_middle 6 = .ok (.iconst 0, 1) := by decide +kernel
theorem dX9_middle_7 : decode cX9_middle 7 = .ok (.putfield 82, 3) := by decide +kernel
theorem dX9_middle_10 : decode cX9_middle 10 = .ok (.iconst 0, 1) := by decide +kernel
theorem dX9_middle_11 : decode cX9_middle 11 = .ok (.istore 4, 2) := by decide +kernel
theorem dX9_middle_13 : decode cX9_middle 13 = .ok (.iload 4, 2) := by decide +kernel
theorem dX9_middle_15 : decode cX9_middle 15 = .ok (.aload_n 0, 1) := by decide +kernel
theorem dX9_middle_16 : decode cX9_middle 16 = .ok (.getfield 66, 3) := by decide +kernel
theorem dX9_middle_19 : decode cX9_middle 19 = .ok (.if_icmp .ge 35, 3) := by decide +kernel
theorem dX9_middle_22 : decode cX9_middle 22 = .ok (.aload_n 0, 1) := by decide +kernel
theorem dX9_middle_23 : decode cX9_middle 23 = .ok (.dup, 1) := by decide +kernel
theorem dX9_middle_24 : decode cX9_middle 24 = .ok (.getfield 82, 3) := by decide +kernel
theorem dX9_middle_27 : decode cX9_middle 27 = .ok (.aload_n 0, 1) := by decide +kernel
theorem dX9_middle_28 : decode cX9_middle 28 = .ok (.iload 4, 2) := by decide +kernel
theorem dX9_middle_30 : decode cX9_middle 30 = .ok (.iload_n 1, 1) := by decide +kernel
theorem dX9_middle_31 : decode cX9_middle 31 = .ok (.iload_n 2, 1) := by decide +kernel
theorem dX9_middle_32 : decode cX9_middle 32 = .ok (.iload_n 3, 1) := by decide +kernel
theorem dX9_middle_33 : decode cX9_middle 33 = .ok (.invokevirtual 85, 3) := by decide +kernel
theorem dX9_middle_36 : decode cX9_middle 36 = .ok (.ifCond .eq 7, 3) := by decide +kernel
theorem dX9_middle_39 : decode cX9_middle 39 = .ok (.iconst 1, 1) := by decide +kernel
theorem dX9_middle_40 : decode cX9_middle 40 = .ok (.goto 4, 3) := by decide +kernel
theorem dX9_middle_43 : decode cX9_middle 43 = .ok (.iconst 0, 1) := by decide +kernel
theorem dX9_middle_44 : decode cX9_middle 44 = .ok (.iadd, 1) := by decide +kernel
theorem dX9_middle_45 : decode cX9_middle 45 = .ok (.putfield 82, 3) := by decide +kernel
theorem dX9_middle_48 : decode cX9_middle 48 = .ok (.iinc 4 1, 3) := by decide +kernel
theorem dX9_middle_51 : decode cX9_middle 51 = .ok (.goto (-38), 3) := by decide +kernel
theorem dX9_middle_54 : decode cX9_middle 54 = .ok (.iconst 0, 1) := by decide +kernel
theorem dX9_middle_55 : decode cX9_middle 55 = .ok (.istore 4, 2) := by decide +kernel
theorem dX9_middle_57 : decode cX9_middle 57 = .ok (.iload 4, 2) := by decide +kernel
theorem dX9_middle_59 : decode cX9_middle 59 = .ok (.aload_n 0, 1) := by decide +kernel
theorem dX9_middle_60 : decode cX9_middle 60 = .ok (.getfield 66, 3) := by decide +kernel
theorem dX9_middle_63 : decode cX9_middle 63 = .ok (.if_icmp .ge 101, 3) := by decide +kernel
theorem dX9_middle_66 : decode cX9_middle 66 = .ok (.iconst 0, 1) := by decide +kernel
theorem dX9_middle_67 : decode cX9_middle 67 = .ok (.istore 5, 2) := by decide +kernel
theorem dX9_middle_69 : decode cX9_middle 69 = .ok (.iconst 0, 1) := by decide +kernel
theorem dX9_middle_70 : decode cX9_middle 70 = .ok (.istore 6, 2) := by decide +kernel
theorem dX9_middle_72 : decode cX9_middle 72 = .ok (.iload 6, 2) := by decide +kernel
theorem dX9_middle_74 : decode cX9_middle 74 = .ok (.aload_n 0, 1) := by decide +kernel
theorem dX9_middle_75 : decode cX9_middle 75 = .ok (.getfield 66, 3) := by decide +kernel
theorem dX9_middle_78 : decode cX9_middle 78 = .ok (.if_icmp .ge 42, 3) := by decide +kernel
theorem dX9_middle_81 : decode cX9_middle 81 = .ok (.iload 5, 2) := by decide +kernel
theorem dX9_middle_83 : decode cX9_middle 83 = .ok (.aload_n 0, 1) := by decide +kernel
theorem dX9_middle_84 : decode cX9_middle 84 = .ok (.iload 6, 2) := by decide +kernel
theorem dX9_middle_86 : decode cX9_middle 86 = .ok (.iload_n 1, 1) := by decide +kernel
theorem dX9_middle_87 : decode cX9_middle 87 = .ok (.iload_n 2, 1) := by decide +kernel
theorem dX9_middle_88 : decode cX9_middle 88 = .ok (.iload_n 3, 1) := by decide +kernel
theorem dX9_middle_89 : decode cX9_middle 89 = .ok (.invokevirtual 85, 3) := by decide +kernel
theorem dX9_middle_92 : decode cX9_middle 92 = .ok (.ifCond .eq 18, 3) := by decide +kernel
theorem dX9_middle_95 : decode cX9_middle 95 = .ok (.aload_n 0, 1) := by decide +kernel
theorem dX9_middle_96 : decode cX9_middle 96 = .ok (.iload 6, 2) := by decide +kernel
theorem dX9_middle_98 : decode cX9_middle 98 = .ok (.iload 4, 2) := by decide +kernel
theorem dX9_middle_100 : decode cX9_middle 100 = .ok (.invokevirtual 89, 3) := by decide +kernel
theorem dX9_middle_103 : decode cX9_middle 103 = .ok (.ifCond .eq 7, 3) := by decide +kernel
theorem dX9_middle_106 : decode cX9_middle 106 = .ok (.iconst 1, 1) := by decide +kernel
theorem dX9_middle_107 : decode cX9_middle 107 = .ok (.goto 4, 3) := by decide +kernel
theorem dX9_middle_110 : decode cX9_middle 110 = .ok (.iconst 0, 1) := by decide +kernel
theorem dX9_middle_111 : decode cX9_middle 111 = .ok (.iadd, 1) := by decide +kernel
theorem dX9_middle_112 : decode cX9_middle 112 = .ok (.istore 5, 2) := by decide +kernel
theorem dX9_middle_114 : decode cX9_middle 114 = .ok (.iinc 6 1, 3) := by decide +kernel
theorem dX9_middle_117 : decode cX9_middle 117 = .ok (.goto (-45), 3) := by decide +kernel
theorem dX9_middle_120 : decode cX9_middle 120 = .ok (.aload_n 0, 1) := by decide +kernel
theorem dX9_middle_121 : decode cX9_middle 121 = .ok (.aload_n 0, 1) := by decide +kernel
theorem dX9_middle_122 : decode cX9_middle 122 = .ok (.iload 4, 2) := by decide +kernel
theorem dX9_middle_124 : decode cX9_middle 124 = .ok (.iload_n 1, 1) := by decide +kernel
theorem dX9_middle_125 : decode cX9_middle 125 = .ok (.iload_n 2, 1) := by decide +kernel
theorem dX9_middle_126 : decode cX9_middle 126 = .ok (.iload_n 3, 1) := by decide +kernel
theorem dX9_middle_127 : decode cX9_middle 127 = .ok (.invokevirtual 85, 3) := by decide +kernel
theorem dX9_middle_130 : decode cX9_middle 130 = .ok (.ifCond .eq 21, 3) := by decide +kernel
theorem dX9_middle_133 : decode cX9_middle 133 = .ok (.iload 5, 2) := by decide +kernel
theorem dX9_middle_135 : decode cX9_middle 135 = .ok (.aload_n 0, 1) := by decide +kernel
theorem dX9_middle_136 : decode cX9_middle 136 = .ok (.getfield 82, 3) := by decide +kernel
theorem dX9_middle_139 : decode cX9_middle 139 = .ok (.iconst 1, 1) := by decide +kernel
theorem dX9_middle_140 : decode cX9_middle 140 = .ok (.isub, 1) := by decide +kernel
theorem dX9_middle_141 : decode cX9_middle 141 = .ok (.iconst 2, 1) := by decide +kernel
theorem dX9_middle_142 : decode cX9_middle 142 = .ok (.idiv, 1) := by decide +kernel
theorem dX9_middle_143 : decode cX9_middle 143 = .ok (.if_icmp .ne 8, 3) := by decide +kernel
theorem dX9_middle_146 : decode cX9_middle 146 = .ok (.iload 4, 2) := by decide +kernel
theorem dX9_middle_148 : decode cX9_middle 148 = .ok (.goto 7, 3) := by decide +kernel
theorem dX9_middle_151 : decode cX9_middle 151 = .ok (.aload_n 0, 1) := by decide +kernel
theorem dX9_middle_152 : decode cX9_middle 152 = .ok (.getfield 79, 3) := by decide +kernel
theorem dX9_middle_155 : decode cX9_middle 155 = .ok (.putfield 79, 3) := by decide +kernel
theorem dX9_middle_158 : decode cX9_middle 158 = .ok (.iinc 4 1, 3) := by decide +kernel
theorem dX9_middle_161 : decode cX9_middle 161 = .ok (.goto (-104), 3) := by decide +kernel
theorem dX9_middle_164 : decode cX9_middle 164 = .ok (.return_, 1) := by decide +kernel
set_option maxRecDepth 20000 in
theorem ggX9_finds_X9_middle : GoodIn wsX9_finds wsX9_middle := goodIn_r _ [6, 1, 7, 8, 9, 10, 11, 5, 12, 13, 14, 15, 16, 17, 18, 19, 20, 21, 22, 23, 24, 25, 26, 27, 28, 29, 30, 31, 32, 33, 34, 35, 36, 37, 38, 39, 40, 41, 42] (by decide +kernel) (by decide +kernel)
set_option maxRecDepth 20000 in
theorem gX9_finds_X9_middle : GoodIn wsX9_finds (wsV RX9 93 RX9 yX9_middle wsX9_middle) := goodIn_app (goodIn_of _ (by decide +kernel)) ggX9_finds_X9_middle
theorem dX9_finds_0 : decode cX9_finds 0 = .ok (.aload_n 0, 1) := by decide +kernel
theorem dX9_finds_1 : decode cX9_finds 1 = .ok (.iload_n 1, 1) := by decide +kernel
theorem dX9_finds_2 : decode cX9_finds 2 = .ok (.iload_n 2, 1) := by decide +kernel
theorem dX9_finds_3 : decode cX9_finds 3 = .ok (.iload_n 3, 1) := by decide +kernel
theorem dX9_finds_4 : decode cX9_finds 4 = .ok (.invokevirtual 93, 3) := by decide +kernel
theorem dX9_finds_7 : decode cX9_finds 7 = .ok (.aload_n 0, 1) := by decide +kernel
theorem dX9_finds_8 : decode cX9_finds 8 = .ok (.getfield 79, 3) := by decide +kernel
theorem dX9_finds_11 : decode cX9_finds 11 = .ok (.ifCond .ge 10, 3) := by decide +kernel
theorem dX9_finds_14 : decode cX9_finds 14 = .ok (.aload_n 0, 1) := by decide +kernel
theorem dX9_finds_15 : decode cX9_finds 15 = .ok (.iload_n 1, 1) := by decide +kernel
theorem dX9_finds_16 : decode cX9_finds 16 = .ok (.iconst (-1), 1) := by decide +kernel
theorem dX9_finds_17 : decode cX9_finds 17 = .ok (.iload_n 3, 1) := by decide +kernel
theorem dX9_finds_18 : decode cX9_finds 18 = .ok (.invokevirtual 93, 3) := by decide +kernel
theorem dX9_finds_21 : decode cX9_finds 21 = .ok (.return_, 1) := by decide +kernel
set_option maxRecDepth 20000 in
theorem ggX9_unit_X9_in : GoodIn wsX9_unit wsX9_in := goodIn_r _ [8] (by decide +kernel) (by decide +kernel)
set_option maxRecDepth 20000 in
theorem gX9_unit_X9_in : GoodIn wsX9_unit (va_wsS RX9 70 yX9_in wsX9_in) := goodIn_app (goodIn_of _ (by decide +kernel)) ggX9_unit_X9_in
set_option maxRecDepth 20000 in
theorem ggX9_unit_X9_finds : GoodIn wsX9_unit wsX9_finds := goodIn_r _ [12, 1, 13, 14, 15, 7, 16, 4, 17, 18, 19, 20, 21, 22, 23, 2, 24, 25, 26, 27, 3, 28, 29, 30, 31, 32, 33, 34, 35, 36, 37, 38, 39, 40, 41, 42, 43, 44, 45, 46, 47, 48, 49] (by decide +kernel) (by decide +kernel)
set_option maxRecDepth 20000 in
theorem gX9_unit_X9_finds : GoodIn wsX9_unit (wsV RX9 97 RX9 yX9_finds wsX9_finds) := goodIn_app (goodIn_of _ (by decide +kernel)) ggX9_unit_X9_finds
theorem dX9_unit_0 : decode cX9_unit 0 = .ok (.iload_n 1, 1) := by decide +kernel
theorem dX9_unit_1 : decode cX9_unit 1 = .ok (.iconst 0, 1) := by decide +kernel
theorem dX9_unit_2 : decode cX9_unit 2 = .ok (.iconst 2, 1) := by decide +kernel
theorem dX9_unit_3 : decode cX9_unit 3 = .ok (.invokestatic 70, 3) := by decide +kernel
theorem dX9_unit_6 : decode cX9_unit 6 = .ok (.ifCond .eq 21, 3) := by decide +kernel
theorem dX9_unit_9 : decode cX9_unit 9 = .ok (.iload_n 2, 1) := by decide +kernel
theorem dX9_unit_10 : decode cX9_unit 10 = .ok (.iconst 0, 1) := by decide +kernel
theorem dX9_unit_11 : decode cX9_unit 11 = .ok (.iconst 5, 1) := by decide +kernel
theorem dX9_unit_12 : decode cX9_unit 12 = .ok (.invokestatic 70, 3) := by decide +kernel
theorem dX9_unit_15 : decode cX9_unit 15 = .ok (.ifCond .eq 12, 3) := by decide +kernel
theorem dX9_unit_18 : decode cX9_unit 18 = .ok (.iload_n 3, 1) := by decide +kernel
theorem dX9_unit_19 : decode cX9_unit 19 = .ok (.iconst 0, 1) := by decide +kernel
theorem dX9_unit_20 : decode cX9_unit 20 = .ok (.iconst 3, 1) := by decide +kernel
theorem dX9_unit_21 : decode cX9_unit 21 = .ok (.invokestatic 70, 3) := by decide +kernel
theorem dX9_unit_24 : decode cX9_unit 24 = .ok (.ifCond .ne 5, 3) := by decide +kernel
theorem dX9_unit_27 : decode cX9_unit 27 = .ok (.iconst (-1), 1) := by decide +kernel
theorem dX9_unit_28 : decode cX9_unit 28 = .ok (.ireturn, 1) := by decide +kernel
theorem dX9_unit_29 : decode cX9_unit 29 = .ok (.aload_n 0, 1) := by decide +kernel
theorem dX9_unit_30 : decode cX9_unit 30 = .ok (.iload_n 1, 1) := by decide +kernel
theorem dX9_unit_31 : decode cX9_unit 31 = .ok (.iload_n 2, 1) := by decide +kernel
theorem dX9_unit_32 : decode cX9_unit 32 = .ok (.iconst (-1), 1) := by decide +kernel
theorem dX9_unit_33 : decode cX9_unit 33 = .ok (.invokevirtual 97, 3) := by decide +kernel
theorem dX9_unit_36 : decode cX9_unit 36 = .ok (.iload_n 3, 1) := by decide +kernel
theorem dX9_unit_37 : decode cX9_unit 37 = .ok (.tableswitch 75 0 2 #[27, 49, 70], 27) := by decide +kernel
theorem dX9_unit_64 : decode cX9_unit 64 = .ok (.aload_n 0, 1) := by decide +kernel
theorem dX9_unit_65 : decode cX9_unit 65 = .ok (.getfield 79, 3) := by decide +kernel
theorem dX9_unit_68 : decode cX9_unit 68 = .ok (.ifCond .ge 8, 3) := by decide +kernel
theorem dX9_unit_71 : decode cX9_unit 71 = .ok (.bipush 10, 2) := by decide +kernel
theorem dX9_unit_73 : decode cX9_unit 73 = .ok (.goto 12, 3) := by decide +kernel
theorem dX9_unit_76 : decode cX9_unit 76 = .ok (.aload_n 0, 1) := by decide +kernel
theorem dX9_unit_77 : decode cX9_unit 77 = .ok (.getfield 22, 3) := by decide +kernel
theorem dX9_unit_80 : decode cX9_unit 80 = .ok (.aload_n 0, 1) := by decide +kernel
theorem dX9_unit_81 : decode cX9_unit 81 = .ok (.getfield 79, 3) := by decide +kernel
theorem dX9_unit_84 : decode cX9_unit 84 = .ok (.iaload, 1) := by decide +kernel
theorem dX9_unit_85 : decode cX9_unit 85 = .ok (.ireturn, 1) := by decide +kernel
theorem dX9_unit_86 : decode cX9_unit 86 = .ok (.aload_n 0, 1) := by decide +kernel
theorem dX9_unit_87 : decode cX9_unit 87 = .ok (.getfield 79, 3) := by decide +kernel
theorem dX9_unit_90 : decode cX9_unit 90 = .ok (.ifCond .ge 7, 3) := by decide +kernel
theorem dX9_unit_93 : decode cX9_unit 93 = .ok (.iconst 1, 1) := by decide +kernel
theorem dX9_unit_94 : decode cX9_unit 94 = .ok (.goto 12, 3) := by decide +kernel
theorem dX9_unit_97 : decode cX9_unit 97 = .ok (.aload_n 0, 1) := by decide +kernel
theorem dX9_unit_98 : decode cX9_unit 98 = .ok (.getfield 19, 3) := by decide +kernel
theorem dX9_unit_101 : decode cX9_unit 101 = .ok (.aload_n 0, 1) := by decide +kernel
theorem dX9_unit_102 : decode cX9_unit 102 = .ok (.getfield 79, 3) := by decide +kernel
theorem dX9_unit_105 : decode cX9_unit 105 = .ok (.iaload, 1) := by decide +kernel
theorem dX9_unit_106 : decode cX9_unit 106 = .ok (.ireturn, 1) := by decide +kernel
theorem dX9_unit_107 : decode cX9_unit 107 = .ok (.aload_n 0, 1) := by decide +kernel
theorem dX9_unit_108 : decode cX9_unit 108 = .ok (.getfield 82, 3) := by decide +kernel
theorem dX9_unit_111 : decode cX9_unit 111 = .ok (.ireturn, 1) := by decide +kernel
theorem dX9_unit_112 : decode cX9_unit 112 = .ok (.aload_n 0, 1) := by decide +kernel
theorem dX9_unit_113 : decode cX9_unit 113 = .ok (.getfield 79, 3) := by decide +kernel
theorem dX9_unit_116 : decode cX9_unit 116 = .ok (.ifCond .ge 8, 3) := by decide +kernel
theorem dX9_unit_119 : decode cX9_unit 119 = .ok (.bipush (-4), 2) := by decide +kernel
theorem dX9_unit_121 : decode cX9_unit 121 = .ok (.goto 7, 3) := by decide +kernel
theorem dX9_unit_124 : decode cX9_unit 124 = .ok (.aload_n 0, 1) := by decide +kernel
theorem dX9_unit_125 : decode cX9_unit 125 = .ok (.getfield 79, 3) := by decide +kernel
theorem dX9_unit_128 : decode cX9_unit 128 = .ok (.ireturn, 1) := by decide +kernel
set_option maxRecDepth 20000 in
theorem ggX9_tested_X9_isHouse : GoodIn wsX9_tested wsX9_isHouse := goodIn_r _ [10, 11, 12, 13, 9, 14, 32, 33, 34, 35, 36, 37, 38, 39, 40, 41, 42, 43, 44, 45, 46, 47, 48, 49, 50, 51, 52, 53] (by decide +kernel) (by decide +kernel)
set_option maxRecDepth 20000 in
theorem gX9_tested_X9_isHouse : GoodIn wsX9_tested (wsV RX9 75 RX9 yX9_isHouse wsX9_isHouse) := goodIn_app (goodIn_of _ (by decide +kernel)) ggX9_tested_X9_isHouse
set_option maxRecDepth 20000 in
theorem ggX9_tested_X9_finds : GoodIn wsX9_tested wsX9_finds := goodIn_r _ [18, 3, 19, 20, 21, 9, 22, 23, 11, 24, 25, 26, 27, 1, 2, 5, 28, 29, 30, 31, 4, 32, 33, 34, 35, 36, 37, 38, 39, 40, 41, 42, 43, 44, 45, 46, 47, 48, 49, 50, 51, 52, 53] (by decide +kernel) (by decide +kernel)
set_option maxRecDepth 20000 in
theorem gX9_tested_X9_finds : GoodIn wsX9_tested (wsV RX9 97 RX9 yX9_finds wsX9_finds) := goodIn_app (goodIn_of _ (by decide +kernel)) ggX9_tested_X9_finds
theorem dX9_tested_0 : decode cX9_tested 0 = .ok (.aload_n 0, 1) := by decide +kernel
theorem dX9_tested_1 : decode cX9_tested 1 = .ok (.iload_n 1, 1) := by decide +kernel
theorem dX9_tested_2 : decode cX9_tested 2 = .ok (.invokevirtual 75, 3) := by decide +kernel
theorem dX9_tested_5 : decode cX9_tested 5 = .ok (.ifCond .ne 5, 3) := by decide +kernel
theorem dX9_tested_8 : decode cX9_tested 8 = .ok (.iconst (-1), 1) := by decide +kernel
theorem dX9_tested_9 : decode cX9_tested 9 = .ok (.ireturn, 1) := by decide +kernel
theorem dX9_tested_10 : decode cX9_tested 10 = .ok (.aload_n 0, 1) := by decide +kernel
theorem dX9_tested_11 : decode cX9_tested 11 = .ok (.aload_n 0, 1) := by decide +kernel
theorem dX9_tested_12 : decode cX9_tested 12 = .ok (.getfield 13, 3) := by decide +kernel
theorem dX9_tested_15 : decode cX9_tested 15 = .ok (.iload_n 1, 1) := by decide +kernel
theorem dX9_tested_16 : decode cX9_tested 16 = .ok (.iaload, 1) := by decide +kernel
theorem dX9_tested_17 : decode cX9_tested 17 = .ok (.aload_n 0, 1) := by decide +kernel
theorem dX9_tested_18 : decode cX9_tested 18 = .ok (.getfield 16, 3) := by decide +kernel
theorem dX9_tested_21 : decode cX9_tested 21 = .ok (.iload_n 1, 1) := by decide +kernel
theorem dX9_tested_22 : decode cX9_tested 22 = .ok (.iaload, 1) := by decide +kernel
theorem dX9_tested_23 : decode cX9_tested 23 = .ok (.iload_n 1, 1) := by decide +kernel
theorem dX9_tested_24 : decode cX9_tested 24 = .ok (.invokevirtual 97, 3) := by decide +kernel
theorem dX9_tested_27 : decode cX9_tested 27 = .ok (.aload_n 0, 1) := by decide +kernel
theorem dX9_tested_28 : decode cX9_tested 28 = .ok (.getfield 79, 3) := by decide +kernel
theorem dX9_tested_31 : decode cX9_tested 31 = .ok (.ifCond .ge 15, 3) := by decide +kernel
theorem dX9_tested_34 : decode cX9_tested 34 = .ok (.bipush 10, 2) := by decide +kernel
theorem dX9_tested_36 : decode cX9_tested 36 = .ok (.aload_n 0, 1) := by decide +kernel
theorem dX9_tested_37 : decode cX9_tested 37 = .ok (.getfield 19, 3) := by decide +kernel
theorem dX9_tested_40 : decode cX9_tested 40 = .ok (.iload_n 1, 1) := by decide +kernel
theorem dX9_tested_41 : decode cX9_tested 41 = .ok (.iaload, 1) := by decide +kernel
theorem dX9_tested_42 : decode cX9_tested 42 = .ok (.imul, 1) := by decide +kernel
theorem dX9_tested_43 : decode cX9_tested 43 = .ok (.goto 29, 3) := by decide +kernel
theorem dX9_tested_46 : decode cX9_tested 46 = .ok (.aload_n 0, 1) := by decide +kernel
theorem dX9_tested_47 : decode cX9_tested 47 = .ok (.getfield 19, 3) := by decide +kernel
theorem dX9_tested_50 : decode cX9_tested 50 = .ok (.iload_n 1, 1) := by decide +kernel
theorem dX9_tested_51 : decode cX9_tested 51 = .ok (.iaload, 1) := by decide +kernel
theorem dX9_tested_52 : decode cX9_tested 52 = .ok (.aload_n 0, 1) := by decide +kernel
theorem dX9_tested_53 : decode cX9_tested 53 = .ok (.getfield 22, 3) := by decide +kernel
theorem dX9_tested_56 : decode cX9_tested 56 = .ok (.aload_n 0, 1) := by decide +kernel
theorem dX9_tested_57 : decode cX9_tested 57 = .ok (.getfield 79, 3) := by decide +kernel
theorem dX9_tested_60 : decode cX9_tested 60 = .ok (.iaload, 1) := by decide +kernel
theorem dX9_tested_61 : decode cX9_tested 61 = .ok (.imul, 1) := by decide +kernel
theorem dX9_tested_62 : decode cX9_tested 62 = .ok (.aload_n 0, 1) := by decide +kernel
theorem dX9_tested_63 : decode cX9_tested 63 = .ok (.getfield 19, 3) := by decide +kernel
theorem dX9_tested_66 : decode cX9_tested 66 = .ok (.aload_n 0, 1) := by decide +kernel
theorem dX9_tested_67 : decode cX9_tested 67 = .ok (.getfield 79, 3) := by decide +kernel
theorem dX9_tested_70 : decode cX9_tested 70 = .ok (.iaload, 1) := by decide +kernel
theorem dX9_tested_71 : decode cX9_tested 71 = .ok (.idiv, 1) := by decide +kernel
theorem dX9_tested_72 : decode cX9_tested 72 = .ok (.ireturn, 1) := by decide +kernel
set_option maxRecDepth 20000 in
theorem ggX9_list_X9_isDay : GoodIn wsX9_list wsX9_isDay := goodIn_r _ [8, 9, 10, 7, 11] (by decide +kernel) (by decide +kernel)
set_option maxRecDepth 20000 in
theorem gX9_list_X9_isDay : GoodIn wsX9_list (va_wsS RX9 100 yX9_isDay wsX9_isDay) := goodIn_app (goodIn_of _ (by decide +kernel)) ggX9_list_X9_isDay
set_option maxRecDepth 20000 in
theorem ggX9_list_X9_unit : GoodIn wsX9_list wsX9_unit := goodIn_r _ [15, 16, 17, 18, 19, 9, 10, 7, 11, 20, 21, 22, 23, 24, 25, 26, 27, 28, 29, 30, 31, 32, 33, 34, 35, 36, 37, 38, 39, 40, 41, 42, 43, 44, 45, 46, 47, 48, 49, 50, 51, 52, 53, 54, 55, 56, 57, 58, 59, 60] (by decide +kernel) (by decide +kernel)
set_option maxRecDepth 20000 in
theorem gX9_list_X9_unit : GoodIn wsX9_list (wsV RX9 106 RX9 yX9_unit wsX9_unit) := goodIn_app (goodIn_of _ (by decide +kernel)) ggX9_list_X9_unit
theorem dX9_list_0 : decode cX9_list 0 = .ok (.iload_n 1, 1) := by decide +kernel
theorem dX9_list_1 : decode cX9_list 1 = .ok (.invokestatic 100, 3) := by decide +kernel
theorem dX9_list_4 : decode cX9_list 4 = .ok (.ifCond .ne 5, 3) := by decide +kernel
theorem dX9_list_7 : decode cX9_list 7 = .ok (.iconst (-1), 1) := by decide +kernel
theorem dX9_list_8 : decode cX9_list 8 = .ok (.ireturn, 1) := by decide +kernel
theorem dX9_list_9 : decode cX9_list 9 = .ok (.aload_n 0, 1) := by decide +kernel
theorem dX9_list_10 : decode cX9_list 10 = .ok (.getfield 103, 3) := by decide +kernel
theorem dX9_list_13 : decode cX9_list 13 = .ok (.ifCond .le 21, 3) := by decide +kernel
theorem dX9_list_16 : decode cX9_list 16 = .ok (.aload_n 0, 1) := by decide +kernel
theorem dX9_list_17 : decode cX9_list 17 = .ok (.getfield 37, 3) := by decide +kernel
theorem dX9_list_20 : decode cX9_list 20 = .ok (.aload_n 0, 1) := by decide +kernel
theorem dX9_list_21 : decode cX9_list 21 = .ok (.getfield 103, 3) := by decide +kernel
theorem dX9_list_24 : decode cX9_list 24 = .ok (.iconst 1, 1) := by decide +kernel
theorem dX9_list_25 : decode cX9_list 25 = .ok (.isub, 1) := by decide +kernel
theorem dX9_list_26 : decode cX9_list 26 = .ok (.iaload, 1) := by decide +kernel
theorem dX9_list_27 : decode cX9_list 27 = .ok (.iload_n 1, 1) := by decide +kernel
theorem dX9_list_28 : decode cX9_list 28 = .ok (.if_icmp .lt 6, 3) := by decide +kernel
theorem dX9_list_31 : decode cX9_list 31 = .ok (.bipush (-2), 2) := by decide +kernel
theorem dX9_list_33 : decode cX9_list 33 = .ok (.ireturn, 1) := by decide +kernel
theorem dX9_list_34 : decode cX9_list 34 = .ok (.aload_n 0, 1) := by decide +kernel
theorem dX9_list_35 : decode cX9_list 35 = .ok (.getfield 103, 3) := by decide +kernel
theorem dX9_list_38 : decode cX9_list 38 = .ok (.bipush 10, 2) := by decide +kernel
theorem dX9_list_40 : decode cX9_list 40 = .ok (.if_icmp .ne 6, 3) := by decide +kernel
theorem dX9_list_43 : decode cX9_list 43 = .ok (.bipush (-3), 2) := by decide +kernel
theorem dX9_list_45 : decode cX9_list 45 = .ok (.ireturn, 1) := by decide +kernel
theorem dX9_list_46 : decode cX9_list 46 = .ok (.iconst 0, 1) := by decide +kernel
theorem dX9_list_47 : decode cX9_list 47 = .ok (.istore_n 2, 1) := by decide +kernel
theorem dX9_list_48 : decode cX9_list 48 = .ok (.iload_n 2, 1) := by decide +kernel
theorem dX9_list_49 : decode cX9_list 49 = .ok (.iconst 3, 1) := by decide +kernel
theorem dX9_list_50 : decode cX9_list 50 = .ok (.if_icmp .ge 75, 3) := by decide +kernel
theorem dX9_list_53 : decode cX9_list 53 = .ok (.iconst 0, 1) := by decide +kernel
theorem dX9_list_54 : decode cX9_list 54 = .ok (.istore_n 3, 1) := by decide +kernel
theorem dX9_list_55 : decode cX9_list 55 = .ok (.iload_n 3, 1) := by decide +kernel
theorem dX9_list_56 : decode cX9_list 56 = .ok (.bipush 6, 2) := by decide +kernel
theorem dX9_list_58 : decode cX9_list 58 = .ok (.if_icmp .ge 61, 3) := by decide +kernel
theorem dX9_list_61 : decode cX9_list 61 = .ok (.aload_n 0, 1) := by decide +kernel
theorem dX9_list_62 : decode cX9_list 62 = .ok (.getfield 40, 3) := by decide +kernel
theorem dX9_list_65 : decode cX9_list 65 = .ok (.bipush 18, 2) := by decide +kernel
theorem dX9_list_67 : decode cX9_list 67 = .ok (.aload_n 0, 1) := by decide +kernel
theorem dX9_list_68 : decode cX9_list 68 = .ok (.getfield 103, 3) := by decide +kernel
theorem dX9_list_71 : decode cX9_list 71 = .ok (.imul, 1) := by decide +kernel
theorem dX9_list_72 : decode cX9_list 72 = .ok (.bipush 6, 2) := by decide +kernel
theorem dX9_list_74 : decode cX9_list 74 = .ok (.iload_n 2, 1) := by decide +kernel
theorem dX9_list_75 : decode cX9_list 75 = .ok (.imul, 1) := by decide +kernel
theorem dX9_list_76 : decode cX9_list 76 = .ok (.iadd, 1) := by decide +kernel
theorem dX9_list_77 : decode cX9_list 77 = .ok (.iload_n 3, 1) := by decide +kernel
theorem dX9_list_78 : decode cX9_list 78 = .ok (.iadd, 1) := by decide +kernel
theorem dX9_list_79 : decode cX9_list 79 = .ok (.aload_n 0, 1) := by decide +kernel
theorem dX9_list_80 : decode cX9_list 80 = .ok (.iload_n 2, 1) := by decide +kernel
theorem dX9_list_81 : decode cX9_list 81 = .ok (.iload_n 3, 1) := by decide +kernel
theorem dX9_list_82 : decode cX9_list 82 = .ok (.iconst 0, 1) := by decide +kernel
theorem dX9_list_83 : decode cX9_list 83 = .ok (.invokevirtual 106, 3) := by decide +kernel
theorem dX9_list_86 : decode cX9_list 86 = .ok (.iastore, 1) := by decide +kernel
theorem dX9_list_87 : decode cX9_list 87 = .ok (.aload_n 0, 1) := by decide +kernel
theorem dX9_list_88 : decode cX9_list 88 = .ok (.getfield 43, 3) := by decide +kernel
theorem dX9_list_91 : decode cX9_list 91 = .ok (.bipush 18, 2) := by decide +kernel
theorem dX9_list_93 : decode cX9_list 93 = .ok (.aload_n 0, 1) := by decide +kernel
theorem dX9_list_94 : decode cX9_list 94 = .ok (.getfield 103, 3) := by decide +kernel
theorem dX9_list_97 : decode cX9_list 97 = .ok (.imul, 1) := by decide +kernel
theorem dX9_list_98 : decode cX9_list 98 = .ok (.bipush 6, 2) := by decide +kernel
theorem dX9_list_100 : decode cX9_list 100 = .ok (.iload_n 2, 1) := by decide +kernel
theorem dX9_list_101 : decode cX9_list 101 = .ok (.imul, 1) := by decide +kernel
theorem dX9_list_102 : decode cX9_list 102 = .ok (.iadd, 1) := by decide +kernel
theorem dX9_list_103 : decode cX9_list 103 = .ok (.iload_n 3, 1) := by decide +kernel
theorem dX9_list_104 : decode cX9_list 104 = .ok (.iadd, 1) := by decide +kernel
theorem dX9_list_105 : decode cX9_list 105 = .ok (.aload_n 0, 1) := by decide +kernel
theorem dX9_list_106 : decode cX9_list 106 = .ok (.iload_n 2, 1) := by decide +kernel
theorem dX9_list_107 : decode cX9_list 107 = .ok (.iload_n 3, 1) := by decide +kernel
theorem dX9_list_108 : decode cX9_list 108 = .ok (.iconst 1, 1) := by decide +kernel
theorem dX9_list_109 : decode cX9_list 109 = .ok (.invokevirtual 106, 3) := by decide +kernel
theorem dX9_list_112 : decode cX9_list 112 = .ok (.iastore, 1) := by decide +kernel
theorem dX9_list_113 : decode cX9_list 113 = .ok (.iinc 3 1, 3) := by decide +kernel
theorem dX9_list_116 : decode cX9_list 116 = .ok (.goto (-61), 3) := by decide +kernel
theorem dX9_list_119 : decode cX9_list 119 = .ok (.iinc 2 1, 3) := by decide +kernel
theorem dX9_list_122 : decode cX9_list 122 = .ok (.goto (-74), 3) := by decide +kernel
theorem dX9_list_125 : decode cX9_list 125 = .ok (.aload_n 0, 1) := by decide +kernel
theorem dX9_list_126 : decode cX9_list 126 = .ok (.getfield 37, 3) := by decide +kernel
theorem dX9_list_129 : decode cX9_list 129 = .ok (.aload_n 0, 1) := by decide +kernel
theorem dX9_list_130 : decode cX9_list 130 = .ok (.getfield 103, 3) := by decide +kernel
theorem dX9_list_133 : decode cX9_list 133 = .ok (.iload_n 1, 1) := by decide +kernel
theorem dX9_list_134 : decode cX9_list 134 = .ok (.iastore, 1) := by decide +kernel
theorem dX9_list_135 : decode cX9_list 135 = .ok (.aload_n 0, 1) := by decide +kernel
theorem dX9_list_136 : decode cX9_list 136 = .ok (.dup, 1) := by decide +kernel
theorem dX9_list_137 : decode cX9_list 137 = .ok (.getfield 103, 3) := by decide +kernel
theorem dX9_list_140 : decode cX9_list 140 = .ok (.iconst 1, 1) := by decide +kernel
theorem dX9_list_141 : decode cX9_list 141 = .ok (.iadd, 1) := by decide +kernel
theorem dX9_list_142 : decode cX9_list 142 = .ok (.putfield 103, 3) := by decide +kernel
theorem dX9_list_145 : decode cX9_list 145 = .ok (.aload_n 0, 1) := by decide +kernel
theorem dX9_list_146 : decode cX9_list 146 = .ok (.getfield 103, 3) := by decide +kernel
theorem dX9_list_149 : decode cX9_list 149 = .ok (.iconst 1, 1) := by decide +kernel
theorem dX9_list_150 : decode cX9_list 150 = .ok (.isub, 1) := by decide +kernel
theorem dX9_list_151 : decode cX9_list 151 = .ok (.ireturn, 1) := by decide +kernel
set_option maxRecDepth 20000 in
theorem ggX9_isValue_X9_in : GoodIn wsX9_isValue wsX9_in := goodIn_r _ [4] (by decide +kernel) (by decide +kernel)
set_option maxRecDepth 20000 in
theorem gX9_isValue_X9_in : GoodIn wsX9_isValue (va_wsS RX9 70 yX9_in wsX9_in) := goodIn_app (goodIn_of _ (by decide +kernel)) ggX9_isValue_X9_in
theorem dX9_isValue_0 : decode cX9_isValue 0 = .ok (.iload_n 0, 1) := by decide +kernel
theorem dX9_isValue_1 : decode cX9_isValue 1 = .ok (.ifCond .ne 14, 3) := by decide +kernel
theorem dX9_isValue_4 : decode cX9_isValue 4 = .ok (.iload_n 1, 1) := by decide +kernel
theorem dX9_isValue_5 : decode cX9_isValue 5 = .ok (.iconst 1, 1) := by decide +kernel
theorem dX9_isValue_6 : decode cX9_isValue 6 = .ok (.sipush 500, 3) := by decide +kernel
theorem dX9_isValue_9 : decode cX9_isValue 9 = .ok (.invokestatic 70, 3) := by decide +kernel
theorem dX9_isValue_12 : decode cX9_isValue 12 = .ok (.goto 38, 3) := by decide +kernel
theorem dX9_isValue_15 : decode cX9_isValue 15 = .ok (.iload_n 0, 1) := by decide +kernel
theorem dX9_isValue_16 : decode cX9_isValue 16 = .ok (.iconst 1, 1) := by decide +kernel
theorem dX9_isValue_17 : decode cX9_isValue 17 = .ok (.if_icmp .ne 12, 3) := by decide +kernel
theorem dX9_isValue_20 : decode cX9_isValue 20 = .ok (.iload_n 1, 1) := by decide +kernel
theorem dX9_isValue_21 : decode cX9_isValue 21 = .ok (.iconst 0, 1) := by decide +kernel
theorem dX9_isValue_22 : decode cX9_isValue 22 = .ok (.iconst 3, 1) := by decide +kernel
theorem dX9_isValue_23 : decode cX9_isValue 23 = .ok (.invokestatic 70, 3) := by decide +kernel
theorem dX9_isValue_26 : decode cX9_isValue 26 = .ok (.goto 24, 3) := by decide +kernel
theorem dX9_isValue_29 : decode cX9_isValue 29 = .ok (.iload_n 0, 1) := by decide +kernel
theorem dX9_isValue_30 : decode cX9_isValue 30 = .ok (.iconst 2, 1) := by decide +kernel
theorem dX9_isValue_31 : decode cX9_isValue 31 = .ok (.if_icmp .ne 18, 3) := by decide +kernel
theorem dX9_isValue_34 : decode cX9_isValue 34 = .ok (.iload_n 1, 1) := by decide +kernel
theorem dX9_isValue_35 : decode cX9_isValue 35 = .ok (.iconst 1, 1) := by decide +kernel
theorem dX9_isValue_36 : decode cX9_isValue 36 = .ok (.sipush 900, 3) := by decide +kernel
theorem dX9_isValue_39 : decode cX9_isValue 39 = .ok (.invokestatic 70, 3) := by decide +kernel
theorem dX9_isValue_42 : decode cX9_isValue 42 = .ok (.ifCond .eq 7, 3) := by decide +kernel
theorem dX9_isValue_45 : decode cX9_isValue 45 = .ok (.iconst 1, 1) := by decide +kernel
theorem dX9_isValue_46 : decode cX9_isValue 46 = .ok (.goto 4, 3) := by decide +kernel
theorem dX9_isValue_49 : decode cX9_isValue 49 = .ok (.iconst 0, 1) := by decide +kernel
theorem dX9_isValue_50 : decode cX9_isValue 50 = .ok (.ireturn, 1) := by decide +kernel
theorem dX9_adds_0 : decode cX9_adds 0 = .ok (.bipush 12, 2) := by decide +kernel
theorem dX9_adds_2 : decode cX9_adds 2 = .ok (.iload_n 1, 1) := by decide +kernel
theorem dX9_adds_3 : decode cX9_adds 3 = .ok (.imul, 1) := by decide +kernel
theorem dX9_adds_4 : decode cX9_adds 4 = .ok (.aload_n 0, 1) := by decide +kernel
theorem dX9_adds_5 : decode cX9_adds 5 = .ok (.getfield 25, 3) := by decide +kernel
theorem dX9_adds_8 : decode cX9_adds 8 = .ok (.iload_n 1, 1) := by decide +kernel
theorem dX9_adds_9 : decode cX9_adds 9 = .ok (.iaload, 1) := by decide +kernel
theorem dX9_adds_10 : decode cX9_adds 10 = .ok (.iadd, 1) := by decide +kernel
theorem dX9_adds_11 : decode cX9_adds 11 = .ok (.istore 5, 2) := by decide +kernel
theorem dX9_adds_13 : decode cX9_adds 13 = .ok (.aload_n 0, 1) := by decide +kernel
theorem dX9_adds_14 : decode cX9_adds 14 = .ok (.getfield 28, 3) := by decide +kernel
theorem dX9_adds_17 : decode cX9_adds 17 = .ok (.iload 5, 2) := by decide +kernel
theorem dX9_adds_19 : decode cX9_adds 19 = .ok (.iload_n 2, 1) := by decide +kernel
theorem dX9_adds_20 : decode cX9_adds 20 = .ok (.iastore, 1) := by decide +kernel
theorem dX9_adds_21 : decode cX9_adds 21 = .ok (.aload_n 0, 1) := by decide +kernel
theorem dX9_adds_22 : decode cX9_adds 22 = .ok (.getfield 31, 3) := by decide +kernel
theorem dX9_adds_25 : decode cX9_adds 25 = .ok (.iload 5, 2) := by decide +kernel
theorem dX9_adds_27 : decode cX9_adds 27 = .ok (.iload_n 3, 1) := by decide +kernel
theorem dX9_adds_28 : decode cX9_adds 28 = .ok (.iastore, 1) := by decide +kernel
theorem dX9_adds_29 : decode cX9_adds 29 = .ok (.aload_n 0, 1) := by decide +kernel
theorem dX9_adds_30 : decode cX9_adds 30 = .ok (.getfield 34, 3) := by decide +kernel
theorem dX9_adds_33 : decode cX9_adds 33 = .ok (.iload 5, 2) := by decide +kernel
theorem dX9_adds_35 : decode cX9_adds 35 = .ok (.iload 4, 2) := by decide +kernel
theorem dX9_adds_37 : decode cX9_adds 37 = .ok (.iastore, 1) := by decide +kernel
theorem dX9_adds_38 : decode cX9_adds 38 = .ok (.aload_n 0, 1) := by decide +kernel
theorem dX9_adds_39 : decode cX9_adds 39 = .ok (.getfield 25, 3) := by decide +kernel
theorem dX9_adds_42 : decode cX9_adds 42 = .ok (.iload_n 1, 1) := by decide +kernel
theorem dX9_adds_43 : decode cX9_adds 43 = .ok (.dup2, 1) := by decide +kernel
theorem dX9_adds_44 : decode cX9_adds 44 = .ok (.iaload, 1) := by decide +kernel
theorem dX9_adds_45 : decode cX9_adds 45 = .ok (.iconst 1, 1) := by decide +kernel
theorem dX9_adds_46 : decode cX9_adds 46 = .ok (.iadd, 1) := by decide +kernel
theorem dX9_adds_47 : decode cX9_adds 47 = .ok (.iastore, 1) := by decide +kernel
theorem dX9_adds_48 : decode cX9_adds 48 = .ok (.return_, 1) := by decide +kernel
set_option maxRecDepth 20000 in
theorem ggX9_event_X9_isHouse : GoodIn wsX9_event wsX9_isHouse := goodIn_r _ [6, 7, 8, 9, 5, 10, 24, 25, 26, 27, 28, 29, 30, 31, 32, 33, 34, 35, 36, 37, 38, 39, 40, 41, 42, 43, 44, 45] (by decide +kernel) (by decide +kernel)
set_option maxRecDepth 20000 in
theorem gX9_event_X9_isHouse : GoodIn wsX9_event (wsV RX9 75 RX9 yX9_isHouse wsX9_isHouse) := goodIn_app (goodIn_of _ (by decide +kernel)) ggX9_event_X9_isHouse
set_option maxRecDepth 20000 in
theorem ggX9_event_X9_isDay : GoodIn wsX9_event wsX9_isDay := goodIn_r _ [13, 8, 9, 5, 10] (by decide +kernel) (by decide +kernel)
set_option maxRecDepth 20000 in
theorem gX9_event_X9_isDay : GoodIn wsX9_event (va_wsS RX9 100 yX9_isDay wsX9_isDay) := goodIn_app (goodIn_of _ (by decide +kernel)) ggX9_event_X9_isDay
set_option maxRecDepth 20000 in
theorem ggX9_event_X9_isValue : GoodIn wsX9_event wsX9_isValue := goodIn_r _ [16, 8, 9, 5, 10] (by decide +kernel) (by decide +kernel)
set_option maxRecDepth 20000 in
theorem gX9_event_X9_isValue : GoodIn wsX9_event (va_wsS RX9 110 yX9_isValue wsX9_isValue) := goodIn_app (goodIn_of _ (by decide +kernel)) ggX9_event_X9_isValue
set_option maxRecDepth 20000 in
theorem ggX9_event_X9_adds : GoodIn wsX9_event wsX9_adds := goodIn_r _ [20, 1, 21, 22, 23, 24, 25, 26, 27, 28, 29, 30, 31, 32, 33, 34, 35, 36, 37, 38, 39, 40, 41, 42, 43, 44, 45] (by decide +kernel) (by decide +kernel)
set_option maxRecDepth 20000 in
theorem gX9_event_X9_adds : GoodIn wsX9_event (wsV RX9 113 RX9 yX9_adds wsX9_adds) := goodIn_app (goodIn_of _ (by decide +kernel)) ggX9_event_X9_adds
theorem dX9_event_0 : decode cX9_event 0 = .ok (.aload_n 0, 1) := by decide +kernel
theorem dX9_event_1 : decode cX9_event 1 = .ok (.iload_n 1, 1) := by decide +kernel
theorem dX9_event_2 : decode cX9_event 2 = .ok (.invokevirtual 75, 3) := by decide +kernel
theorem dX9_event_5 : decode cX9_event 5 = .ok (.ifCond .eq 19, 3) := by decide +kernel
theorem dX9_event_8 : decode cX9_event 8 = .ok (.iload_n 2, 1) := by decide +kernel
theorem dX9_event_9 : decode cX9_event 9 = .ok (.invokestatic 100, 3) := by decide +kernel
theorem dX9_event_12 : decode cX9_event 12 = .ok (.ifCond .eq 12, 3) := by decide +kernel
theorem dX9_event_15 : decode cX9_event 15 = .ok (.iload_n 3, 1) := by decide +kernel
theorem dX9_event_16 : decode cX9_event 16 = .ok (.iload 4, 2) := by decide +kernel
theorem dX9_event_18 : decode cX9_event 18 = .ok (.invokestatic 110, 3) := by decide +kernel
theorem dX9_event_21 : decode cX9_event 21 = .ok (.ifCond .ne 5, 3) := by decide +kernel
theorem dX9_event_24 : decode cX9_event 24 = .ok (.iconst (-1), 1) := by decide +kernel
theorem dX9_event_25 : decode cX9_event 25 = .ok (.ireturn, 1) := by decide +kernel
theorem dX9_event_26 : decode cX9_event 26 = .ok (.aload_n 0, 1) := by decide +kernel
theorem dX9_event_27 : decode cX9_event 27 = .ok (.getfield 25, 3) := by decide +kernel
theorem dX9_event_30 : decode cX9_event 30 = .ok (.iload_n 1, 1) := by decide +kernel
theorem dX9_event_31 : decode cX9_event 31 = .ok (.iaload, 1) := by decide +kernel
theorem dX9_event_32 : decode cX9_event 32 = .ok (.bipush 12, 2) := by decide +kernel
theorem dX9_event_34 : decode cX9_event 34 = .ok (.if_icmp .ne 6, 3) := by decide +kernel
theorem dX9_event_37 : decode cX9_event 37 = .ok (.bipush (-3), 2) := by decide +kernel
theorem dX9_event_39 : decode cX9_event 39 = .ok (.ireturn, 1) := by decide +kernel
theorem dX9_event_40 : decode cX9_event 40 = .ok (.aload_n 0, 1) := by decide +kernel
theorem dX9_event_41 : decode cX9_event 41 = .ok (.iload_n 1, 1) := by decide +kernel
theorem dX9_event_42 : decode cX9_event 42 = .ok (.iload_n 2, 1) := by decide +kernel
theorem dX9_event_43 : decode cX9_event 43 = .ok (.iload_n 3, 1) := by decide +kernel
theorem dX9_event_44 : decode cX9_event 44 = .ok (.iload 4, 2) := by decide +kernel
theorem dX9_event_46 : decode cX9_event 46 = .ok (.invokevirtual 113, 3) := by decide +kernel
theorem dX9_event_49 : decode cX9_event 49 = .ok (.aload_n 0, 1) := by decide +kernel
theorem dX9_event_50 : decode cX9_event 50 = .ok (.getfield 25, 3) := by decide +kernel
theorem dX9_event_53 : decode cX9_event 53 = .ok (.iload_n 1, 1) := by decide +kernel
theorem dX9_event_54 : decode cX9_event 54 = .ok (.iaload, 1) := by decide +kernel
theorem dX9_event_55 : decode cX9_event 55 = .ok (.ireturn, 1) := by decide +kernel
theorem dX9_isLike_0 : decode cX9_isLike 0 = .ok (.aload_n 0, 1) := by decide +kernel
theorem dX9_isLike_1 : decode cX9_isLike 1 = .ok (.getfield 13, 3) := by decide +kernel
theorem dX9_isLike_4 : decode cX9_isLike 4 = .ok (.iload_n 1, 1) := by decide +kernel
theorem dX9_isLike_5 : decode cX9_isLike 5 = .ok (.iaload, 1) := by decide +kernel
theorem dX9_isLike_6 : decode cX9_isLike 6 = .ok (.aload_n 0, 1) := by decide +kernel
theorem dX9_isLike_7 : decode cX9_isLike 7 = .ok (.getfield 13, 3) := by decide +kernel
theorem dX9_isLike_10 : decode cX9_isLike 10 = .ok (.iload_n 2, 1) := by decide +kernel
theorem dX9_isLike_11 : decode cX9_isLike 11 = .ok (.iaload, 1) := by decide +kernel
theorem dX9_isLike_12 : decode cX9_isLike 12 = .ok (.if_icmp .ne 22, 3) := by decide +kernel
theorem dX9_isLike_15 : decode cX9_isLike 15 = .ok (.aload_n 0, 1) := by decide +kernel
theorem dX9_isLike_16 : decode cX9_isLike 16 = .ok (.getfield 16, 3) := by decide +kernel
theorem dX9_isLike_19 : decode cX9_isLike 19 = .ok (.iload_n 1, 1) := by decide +kernel
theorem dX9_isLike_20 : decode cX9_isLike 20 = .ok (.iaload, 1) := by decide +kernel
theorem dX9_isLike_21 : decode cX9_isLike 21 = .ok (.aload_n 0, 1) := by decide +kernel
theorem dX9_isLike_22 : decode cX9_isLike 22 = .ok (.getfield 16, 3) := by decide +kernel
theorem dX9_isLike_25 : decode cX9_isLike 25 = .ok (.iload_n 2, 1) := by decide +kernel
theorem dX9_isLike_26 : decode cX9_isLike 26 = .ok (.iaload, 1) := by decide +kernel
theorem dX9_isLike_27 : decode cX9_isLike 27 = .ok (.if_icmp .ne 7, 3) := by decide +kernel
theorem dX9_isLike_30 : decode cX9_isLike 30 = .ok (.iconst 1, 1) := by decide +kernel
theorem dX9_isLike_31 : decode cX9_isLike 31 = .ok (.goto 4, 3) := by decide +kernel
theorem dX9_isLike_34 : decode cX9_isLike 34 = .ok (.iconst 0, 1) := by decide +kernel
theorem dX9_isLike_35 : decode cX9_isLike 35 = .ok (.ireturn, 1) := by decide +kernel
