set_option maxRecDepth 20000 in
theorem ggX8_pay_X8_bookOf : GoodIn wsX8_pay wsX8_bookOf := goodIn_r _ [7, 8, 28, 29, 30, 31] (by decide +kernel) (by decide +kernel)
set_option maxRecDepth 20000 in
theorem gX8_pay_X8_bookOf : GoodIn wsX8_pay (wsV RX8 166 RX8 yX8_bookOf wsX8_bookOf) := goodIn_app (goodIn_of _ (by decide +kernel)) ggX8_pay_X8_bookOf
set_option maxRecDepth 20000 in
theorem ggX8_pay_X5_at : GoodIn wsX8_pay wsX5_at := goodIn_r _ [13, 14, 32, 33] (by decide +kernel) (by decide +kernel)
set_option maxRecDepth 20000 in
theorem gX8_pay_X5_at : GoodIn wsX8_pay (wsV RX8 47 RX5 yX5_at wsX5_at) := goodIn_app (goodIn_of _ (by decide +kernel)) ggX8_pay_X5_at
set_option maxRecDepth 20000 in
theorem ggX8_pay_X8_isWithin : GoodIn wsX8_pay wsX8_isWithin := goodIn_r _ [17] (by decide +kernel) (by decide +kernel)
set_option maxRecDepth 20000 in
theorem gX8_pay_X8_isWithin : GoodIn wsX8_pay (va_wsS RX8 38 yX8_isWithin wsX8_isWithin) := goodIn_app (goodIn_of _ (by decide +kernel)) ggX8_pay_X8_isWithin
set_option maxRecDepth 20000 in
theorem ggX8_pay_X7_paidBy : GoodIn wsX8_pay wsX7_paidBy := goodIn_r _ [22, 23, 34, 35, 36, 37, 38] (by decide +kernel) (by decide +kernel)
set_option maxRecDepth 20000 in
theorem gX8_pay_X7_paidBy : GoodIn wsX8_pay (wsV RX8 186 RX7 yX7_paidBy wsX7_paidBy) := goodIn_app (goodIn_of _ (by decide +kernel)) ggX8_pay_X7_paidBy
set_option maxRecDepth 20000 in
theorem ggX8_pay_X7_putPaid : GoodIn wsX8_pay wsX7_putPaid := goodIn_r _ [27, 23, 34, 35, 36, 37, 38] (by decide +kernel) (by decide +kernel)
set_option maxRecDepth 20000 in
theorem gX8_pay_X7_putPaid : GoodIn wsX8_pay (wsV RX8 189 RX7 yX7_putPaid wsX7_putPaid) := goodIn_app (goodIn_of _ (by decide +kernel)) ggX8_pay_X7_putPaid
theorem dX8_pay_0 : decode cX8_pay 0 = .ok (.aload_n 0, 1) := by decide +kernel
theorem dX8_pay_1 : decode cX8_pay 1 = .ok (.iload_n 2, 1) := by decide +kernel
theorem dX8_pay_2 : decode cX8_pay 2 = .ok (.invokevirtual 166, 3) := by decide +kernel
theorem dX8_pay_5 : decode cX8_pay 5 = .ok (.astore 4, 2) := by decide +kernel
theorem dX8_pay_7 : decode cX8_pay 7 = .ok (.aload_n 0, 1) := by decide +kernel
theorem dX8_pay_8 : decode cX8_pay 8 = .ok (.getfield 12, 3) := by decide +kernel
theorem dX8_pay_11 : decode cX8_pay 11 = .ok (.iload_n 1, 1) := by decide +kernel
theorem dX8_pay_12 : decode cX8_pay 12 = .ok (.invokevirtual 47, 3) := by decide +kernel
theorem dX8_pay_15 : decode cX8_pay 15 = .ok (.ifnull 18, 3) := by decide +kernel
theorem dX8_pay_18 : decode cX8_pay 18 = .ok (.aload 4, 2) := by decide +kernel
theorem dX8_pay_20 : decode cX8_pay 20 = .ok (.ifnull 13, 3) := by decide +kernel
theorem dX8_pay_23 : decode cX8_pay 23 = .ok (.iload_n 3, 1) := by decide +kernel
theorem dX8_pay_24 : decode cX8_pay 24 = .ok (.iconst 1, 1) := by decide +kernel
theorem dX8_pay_25 : decode cX8_pay 25 = .ok (.ldc 185, 2) := by decide +kernel
theorem dX8_pay_27 : decode cX8_pay 27 = .ok (.invokestatic 38, 3) := by decide +kernel
theorem dX8_pay_30 : decode cX8_pay 30 = .ok (.ifCond .ne 5, 3) := by decide +kernel
theorem dX8_pay_33 : decode cX8_pay 33 = .ok (.iconst (-1), 1) := by decide +kernel
theorem dX8_pay_34 : decode cX8_pay 34 = .ok (.ireturn, 1) := by decide +kernel
theorem dX8_pay_35 : decode cX8_pay 35 = .ok (.aload 4, 2) := by decide +kernel
theorem dX8_pay_37 : decode cX8_pay 37 = .ok (.iload_n 1, 1) := by decide +kernel
theorem dX8_pay_38 : decode cX8_pay 38 = .ok (.invokevirtual 186, 3) := by decide +kernel
theorem dX8_pay_41 : decode cX8_pay 41 = .ok (.iload_n 3, 1) := by decide +kernel
theorem dX8_pay_42 : decode cX8_pay 42 = .ok (.iadd, 1) := by decide +kernel
theorem dX8_pay_43 : decode cX8_pay 43 = .ok (.istore 5, 2) := by decide +kernel
theorem dX8_pay_45 : decode cX8_pay 45 = .ok (.iload 5, 2) := by decide +kernel
theorem dX8_pay_47 : decode cX8_pay 47 = .ok (.ldc 185, 2) := by decide +kernel
theorem dX8_pay_49 : decode cX8_pay 49 = .ok (.if_icmp .le 6, 3) := by decide +kernel
theorem dX8_pay_52 : decode cX8_pay 52 = .ok (.bipush (-3), 2) := by decide +kernel
theorem dX8_pay_54 : decode cX8_pay 54 = .ok (.ireturn, 1) := by decide +kernel
theorem dX8_pay_55 : decode cX8_pay 55 = .ok (.aload 4, 2) := by decide +kernel
theorem dX8_pay_57 : decode cX8_pay 57 = .ok (.iload_n 1, 1) := by decide +kernel
theorem dX8_pay_58 : decode cX8_pay 58 = .ok (.iload 5, 2) := by decide +kernel
theorem dX8_pay_60 : decode cX8_pay 60 = .ok (.invokevirtual 189, 3) := by decide +kernel
theorem dX8_pay_63 : decode cX8_pay 63 = .ok (.iload 5, 2) := by decide +kernel
theorem dX8_pay_65 : decode cX8_pay 65 = .ok (.ireturn, 1) := by decide +kernel
set_option maxRecDepth 20000 in
theorem ggX8_paid_X8_bookOf : GoodIn wsX8_paid wsX8_bookOf := goodIn_r _ [6, 7, 28, 29, 30, 31] (by decide +kernel) (by decide +kernel)
set_option maxRecDepth 20000 in
theorem gX8_paid_X8_bookOf : GoodIn wsX8_paid (wsV RX8 166 RX8 yX8_bookOf wsX8_bookOf) := goodIn_app (goodIn_of _ (by decide +kernel)) ggX8_paid_X8_bookOf
set_option maxRecDepth 20000 in
theorem ggX8_paid_X5_at : GoodIn wsX8_paid wsX5_at := goodIn_r _ [12, 13, 32, 33] (by decide +kernel) (by decide +kernel)
set_option maxRecDepth 20000 in
theorem gX8_paid_X5_at : GoodIn wsX8_paid (wsV RX8 47 RX5 yX5_at wsX5_at) := goodIn_app (goodIn_of _ (by decide +kernel)) ggX8_paid_X5_at
set_option maxRecDepth 20000 in
theorem ggX8_paid_X8_isOf : GoodIn wsX8_paid wsX8_isOf := goodIn_r _ [16] (by decide +kernel) (by decide +kernel)
set_option maxRecDepth 20000 in
theorem gX8_paid_X8_isOf : GoodIn wsX8_paid (va_wsS RX8 34 yX8_isOf wsX8_isOf) := goodIn_app (goodIn_of _ (by decide +kernel)) ggX8_paid_X8_isOf
set_option maxRecDepth 20000 in
theorem ggX8_paid_X7_billedTo : GoodIn wsX8_paid wsX7_billedTo := goodIn_r _ [21, 22, 34, 35, 36, 37, 38] (by decide +kernel) (by decide +kernel)
set_option maxRecDepth 20000 in
theorem gX8_paid_X7_billedTo : GoodIn wsX8_paid (wsV RX8 192 RX7 yX7_billedTo wsX7_billedTo) := goodIn_app (goodIn_of _ (by decide +kernel)) ggX8_paid_X7_billedTo
set_option maxRecDepth 20000 in
theorem ggX8_paid_X7_paidBy : GoodIn wsX8_paid wsX7_paidBy := goodIn_r _ [26, 27, 34, 35, 36, 37, 38] (by decide +kernel) (by decide +kernel)
set_option maxRecDepth 20000 in
theorem gX8_paid_X7_paidBy : GoodIn wsX8_paid (wsV RX8 186 RX7 yX7_paidBy wsX7_paidBy) := goodIn_app (goodIn_of _ (by decide +kernel)) ggX8_paid_X7_paidBy
theorem dX8_paid_0 : decode cX8_paid 0 = .ok (.aload_n 0, 1) := by decide +kernel
theorem dX8_paid_1 : decode cX8_paid 1 = .ok (.iload_n 2, 1) := by decide +kernel
theorem dX8_paid_2 : decode cX8_paid 2 = .ok (.invokevirtual 166, 3) := by decide +kernel
theorem dX8_paid_5 : decode cX8_paid 5 = .ok (.astore 4, 2) := by decide +kernel
theorem dX8_paid_7 : decode cX8_paid 7 = .ok (.aload_n 0, 1) := by decide +kernel
theorem dX8_paid_8 : decode cX8_paid 8 = .ok (.getfield 12, 3) := by decide +kernel
theorem dX8_paid_11 : decode cX8_paid 11 = .ok (.iload_n 1, 1) := by decide +kernel
theorem dX8_paid_12 : decode cX8_paid 12 = .ok (.invokevirtual 47, 3) := by decide +kernel
theorem dX8_paid_15 : decode cX8_paid 15 = .ok (.ifnull 16, 3) := by decide +kernel
theorem dX8_paid_18 : decode cX8_paid 18 = .ok (.aload 4, 2) := by decide +kernel
theorem dX8_paid_20 : decode cX8_paid 20 = .ok (.ifnull 11, 3) := by decide +kernel
theorem dX8_paid_23 : decode cX8_paid 23 = .ok (.iload_n 3, 1) := by decide +kernel
theorem dX8_paid_24 : decode cX8_paid 24 = .ok (.iconst 2, 1) := by decide +kernel
theorem dX8_paid_25 : decode cX8_paid 25 = .ok (.invokestatic 34, 3) := by decide +kernel
theorem dX8_paid_28 : decode cX8_paid 28 = .ok (.ifCond .ne 5, 3) := by decide +kernel
theorem dX8_paid_31 : decode cX8_paid 31 = .ok (.iconst (-1), 1) := by decide +kernel
theorem dX8_paid_32 : decode cX8_paid 32 = .ok (.ireturn, 1) := by decide +kernel
theorem dX8_paid_33 : decode cX8_paid 33 = .ok (.iload_n 3, 1) := by decide +kernel
theorem dX8_paid_34 : decode cX8_paid 34 = .ok (.ifCond .ne 12, 3) := by decide +kernel
theorem dX8_paid_37 : decode cX8_paid 37 = .ok (.aload 4, 2) := by decide +kernel
theorem dX8_paid_39 : decode cX8_paid 39 = .ok (.iload_n 1, 1) := by decide +kernel
theorem dX8_paid_40 : decode cX8_paid 40 = .ok (.invokevirtual 192, 3) := by decide +kernel
theorem dX8_paid_43 : decode cX8_paid 43 = .ok (.goto 9, 3) := by decide +kernel
theorem dX8_paid_46 : decode cX8_paid 46 = .ok (.aload 4, 2) := by decide +kernel
theorem dX8_paid_48 : decode cX8_paid 48 = .ok (.iload_n 1, 1) := by decide +kernel
theorem dX8_paid_49 : decode cX8_paid 49 = .ok (.invokevirtual 186, 3) := by decide +kernel
theorem dX8_paid_52 : decode cX8_paid 52 = .ok (.ireturn, 1) := by decide +kernel
set_option maxRecDepth 20000 in
theorem ggX8_owed_X5_at : GoodIn wsX8_owed wsX5_at := goodIn_r _ [10, 11, 40, 41] (by decide +kernel) (by decide +kernel)
set_option maxRecDepth 20000 in
theorem gX8_owed_X5_at : GoodIn wsX8_owed (wsV RX8 47 RX5 yX5_at wsX5_at) := goodIn_app (goodIn_of _ (by decide +kernel)) ggX8_owed_X5_at
set_option maxRecDepth 20000 in
theorem ggX8_owed_X8_isOf : GoodIn wsX8_owed wsX8_isOf := goodIn_r _ [15] (by decide +kernel) (by decide +kernel)
set_option maxRecDepth 20000 in
theorem gX8_owed_X8_isOf : GoodIn wsX8_owed (va_wsS RX8 34 yX8_isOf wsX8_isOf) := goodIn_app (goodIn_of _ (by decide +kernel)) ggX8_owed_X8_isOf
set_option maxRecDepth 20000 in
theorem ggX8_owed_X8_openOf : GoodIn wsX8_owed wsX8_openOf := goodIn_r _ [19, 20, 21, 22, 14, 23, 24, 25, 26, 27, 28, 29, 30, 31, 32, 33, 34, 35, 36, 37, 38, 39, 42, 43, 44, 45, 46] (by decide +kernel) (by decide +kernel)
set_option maxRecDepth 20000 in
theorem gX8_owed_X8_openOf : GoodIn wsX8_owed (wsV RX8 195 RX8 yX8_openOf wsX8_openOf) := goodIn_app (goodIn_of _ (by decide +kernel)) ggX8_owed_X8_openOf
theorem dX8_owed_0 : decode cX8_owed 0 = .ok (.aload_n 0, 1) := by decide +kernel
theorem dX8_owed_1 : decode cX8_owed 1 = .ok (.getfield 12, 3) := by decide +kernel
theorem dX8_owed_4 : decode cX8_owed 4 = .ok (.iload_n 1, 1) := by decide +kernel
theorem dX8_owed_5 : decode cX8_owed 5 = .ok (.invokevirtual 47, 3) := by decide +kernel
theorem dX8_owed_8 : decode cX8_owed 8 = .ok (.ifnull 11, 3) := by decide +kernel
theorem dX8_owed_11 : decode cX8_owed 11 = .ok (.iload_n 2, 1) := by decide +kernel
theorem dX8_owed_12 : decode cX8_owed 12 = .ok (.iconst 2, 1) := by decide +kernel
theorem dX8_owed_13 : decode cX8_owed 13 = .ok (.invokestatic 34, 3) := by decide +kernel
theorem dX8_owed_16 : decode cX8_owed 16 = .ok (.ifCond .ne 5, 3) := by decide +kernel
theorem dX8_owed_19 : decode cX8_owed 19 = .ok (.iconst (-1), 1) := by decide +kernel
theorem dX8_owed_20 : decode cX8_owed 20 = .ok (.ireturn, 1) := by decide +kernel
theorem dX8_owed_21 : decode cX8_owed 21 = .ok (.iconst 0, 1) := by decide +kernel
theorem dX8_owed_22 : decode cX8_owed 22 = .ok (.istore_n 3, 1) := by decide +kernel
theorem dX8_owed_23 : decode cX8_owed 23 = .ok (.iconst 0, 1) := by decide +kernel
theorem dX8_owed_24 : decode cX8_owed 24 = .ok (.istore 4, 2) := by decide +kernel
theorem dX8_owed_26 : decode cX8_owed 26 = .ok (.iload 4, 2) := by decide +kernel
theorem dX8_owed_28 : decode cX8_owed 28 = .ok (.bipush 10, 2) := by decide +kernel
theorem dX8_owed_30 : decode cX8_owed 30 = .ok (.if_icmp .ge 37, 3) := by decide +kernel
theorem dX8_owed_33 : decode cX8_owed 33 = .ok (.aload_n 0, 1) := by decide +kernel
theorem dX8_owed_34 : decode cX8_owed 34 = .ok (.iload_n 1, 1) := by decide +kernel
theorem dX8_owed_35 : decode cX8_owed 35 = .ok (.iload 4, 2) := by decide +kernel
theorem dX8_owed_37 : decode cX8_owed 37 = .ok (.invokevirtual 195, 3) := by decide +kernel
theorem dX8_owed_40 : decode cX8_owed 40 = .ok (.istore 5, 2) := by decide +kernel
theorem dX8_owed_42 : decode cX8_owed 42 = .ok (.iload_n 3, 1) := by decide +kernel
theorem dX8_owed_43 : decode cX8_owed 43 = .ok (.iconst 0, 1) := by decide +kernel
theorem dX8_owed_44 : decode cX8_owed 44 = .ok (.iload_n 2, 1) := by decide +kernel
theorem dX8_owed_45 : decode cX8_owed 45 = .ok (.ifCond .ne 8, 3) := by decide +kernel
theorem dX8_owed_48 : decode cX8_owed 48 = .ok (.iload 5, 2) := by decide +kernel
theorem dX8_owed_50 : decode cX8_owed 50 = .ok (.goto 6, 3) := by decide +kernel
theorem dX8_owed_53 : decode cX8_owed 53 = .ok (.iload 5, 2) := by decide +kernel
theorem dX8_owed_55 : decode cX8_owed 55 = .ok (.ineg, 1) := by decide +kernel
theorem dX8_owed_56 : decode cX8_owed 56 = .ok (.invokestatic 199, 3) := by decide +kernel
theorem dX8_owed_59 : decode cX8_owed 59 = .ok (.iadd, 1) := by decide +kernel
theorem dX8_owed_60 : decode cX8_owed 60 = .ok (.istore_n 3, 1) := by decide +kernel
theorem dX8_owed_61 : decode cX8_owed 61 = .ok (.iinc 4 1, 3) := by decide +kernel
theorem dX8_owed_64 : decode cX8_owed 64 = .ok (.goto (-38), 3) := by decide +kernel
theorem dX8_owed_67 : decode cX8_owed 67 = .ok (.iload_n 3, 1) := by decide +kernel
theorem dX8_owed_68 : decode cX8_owed 68 = .ok (.ireturn, 1) := by decide +kernel
set_option maxRecDepth 20000 in
theorem ggX8_ward_X8_bookOf : GoodIn wsX8_ward wsX8_bookOf := goodIn_r _ [8, 9, 56, 57, 58, 59] (by decide +kernel) (by decide +kernel)
set_option maxRecDepth 20000 in
theorem gX8_ward_X8_bookOf : GoodIn wsX8_ward (wsV RX8 166 RX8 yX8_bookOf wsX8_bookOf) := goodIn_app (goodIn_of _ (by decide +kernel)) ggX8_ward_X8_bookOf
set_option maxRecDepth 20000 in
theorem ggX8_ward_X8_isWithin : GoodIn wsX8_ward wsX8_isWithin := goodIn_r _ [12] (by decide +kernel) (by decide +kernel)
set_option maxRecDepth 20000 in
theorem gX8_ward_X8_isWithin : GoodIn wsX8_ward (va_wsS RX8 38 yX8_isWithin wsX8_isWithin) := goodIn_app (goodIn_of _ (by decide +kernel)) ggX8_ward_X8_isWithin
set_option maxRecDepth 20000 in
theorem ggX8_ward_X8_isOf : GoodIn wsX8_ward wsX8_isOf := goodIn_r _ [15] (by decide +kernel) (by decide +kernel)
set_option maxRecDepth 20000 in
theorem gX8_ward_X8_isOf : GoodIn wsX8_ward (va_wsS RX8 34 yX8_isOf wsX8_isOf) := goodIn_app (goodIn_of _ (by decide +kernel)) ggX8_ward_X8_isOf
set_option maxRecDepth 20000 in
theorem ggX8_ward_X8_billedIn : GoodIn wsX8_ward wsX8_billedIn := goodIn_r _ [19, 20, 21, 22, 23, 24, 25, 26, 27, 28, 29, 30, 31, 32, 33, 34, 35, 36, 37, 38, 39, 40, 41, 56, 57, 58, 59, 60, 61, 62, 63, 64, 65, 66, 67, 68, 51, 52, 53, 54, 55] (by decide +kernel) (by decide +kernel)
set_option maxRecDepth 20000 in
theorem gX8_ward_X8_billedIn : GoodIn wsX8_ward (wsV RX8 204 RX8 yX8_billedIn wsX8_billedIn) := goodIn_app (goodIn_of _ (by decide +kernel)) ggX8_ward_X8_billedIn
set_option maxRecDepth 20000 in
theorem ggX8_ward_X8_paidIn : GoodIn wsX8_ward wsX8_paidIn := goodIn_r _ [45, 20, 25, 26, 27, 28, 29, 30, 31, 32, 33, 34, 35, 46, 47, 48, 39, 49, 50, 56, 57, 58, 59, 60, 61, 62, 63, 64, 65, 66, 67, 68, 51, 52, 53, 54, 55] (by decide +kernel) (by decide +kernel)
set_option maxRecDepth 20000 in
theorem gX8_ward_X8_paidIn : GoodIn wsX8_ward (wsV RX8 208 RX8 yX8_paidIn wsX8_paidIn) := goodIn_app (goodIn_of _ (by decide +kernel)) ggX8_ward_X8_paidIn
theorem dX8_ward_0 : decode cX8_ward 0 = .ok (.aload_n 0, 1) := by decide +kernel
theorem dX8_ward_1 : decode cX8_ward 1 = .ok (.iload_n 2, 1) := by decide +kernel
theorem dX8_ward_2 : decode cX8_ward 2 = .ok (.invokevirtual 166, 3) := by decide +kernel
theorem dX8_ward_5 : decode cX8_ward 5 = .ok (.astore 4, 2) := by decide +kernel
theorem dX8_ward_7 : decode cX8_ward 7 = .ok (.iload_n 1, 1) := by decide +kernel
theorem dX8_ward_8 : decode cX8_ward 8 = .ok (.iconst (-1), 1) := by decide +kernel
theorem dX8_ward_9 : decode cX8_ward 9 = .ok (.iconst 3, 1) := by decide +kernel
theorem dX8_ward_10 : decode cX8_ward 10 = .ok (.invokestatic 38, 3) := by decide +kernel
theorem dX8_ward_13 : decode cX8_ward 13 = .ok (.ifCond .eq 16, 3) := by decide +kernel
theorem dX8_ward_16 : decode cX8_ward 16 = .ok (.aload 4, 2) := by decide +kernel
theorem dX8_ward_18 : decode cX8_ward 18 = .ok (.ifnull 11, 3) := by decide +kernel
theorem dX8_ward_21 : decode cX8_ward 21 = .ok (.iload_n 3, 1) := by decide +kernel
theorem dX8_ward_22 : decode cX8_ward 22 = .ok (.iconst 4, 1) := by decide +kernel
theorem dX8_ward_23 : decode cX8_ward 23 = .ok (.invokestatic 34, 3) := by decide +kernel
theorem dX8_ward_26 : decode cX8_ward 26 = .ok (.ifCond .ne 5, 3) := by decide +kernel
theorem dX8_ward_29 : decode cX8_ward 29 = .ok (.iconst (-1), 1) := by decide +kernel
theorem dX8_ward_30 : decode cX8_ward 30 = .ok (.ireturn, 1) := by decide +kernel
theorem dX8_ward_31 : decode cX8_ward 31 = .ok (.aload 4, 2) := by decide +kernel
theorem dX8_ward_33 : decode cX8_ward 33 = .ok (.getfield 170, 3) := by decide +kernel
theorem dX8_ward_36 : decode cX8_ward 36 = .ok (.ifCond .ne 6, 3) := by decide +kernel
theorem dX8_ward_39 : decode cX8_ward 39 = .ok (.bipush (-2), 2) := by decide +kernel
theorem dX8_ward_41 : decode cX8_ward 41 = .ok (.ireturn, 1) := by decide +kernel
theorem dX8_ward_42 : decode cX8_ward 42 = .ok (.iload_n 3, 1) := by decide +kernel
theorem dX8_ward_43 : decode cX8_ward 43 = .ok (.tableswitch 47 0 2 #[25, 33, 41], 25) := by decide +kernel
theorem dX8_ward_68 : decode cX8_ward 68 = .ok (.aload_n 0, 1) := by decide +kernel
theorem dX8_ward_69 : decode cX8_ward 69 = .ok (.iload_n 1, 1) := by decide +kernel
theorem dX8_ward_70 : decode cX8_ward 70 = .ok (.aload 4, 2) := by decide +kernel
theorem dX8_ward_72 : decode cX8_ward 72 = .ok (.invokevirtual 204, 3) := by decide +kernel
theorem dX8_ward_75 : decode cX8_ward 75 = .ok (.ireturn, 1) := by decide +kernel
theorem dX8_ward_76 : decode cX8_ward 76 = .ok (.aload_n 0, 1) := by decide +kernel
theorem dX8_ward_77 : decode cX8_ward 77 = .ok (.iload_n 1, 1) := by decide +kernel
theorem dX8_ward_78 : decode cX8_ward 78 = .ok (.aload 4, 2) := by decide +kernel
theorem dX8_ward_80 : decode cX8_ward 80 = .ok (.invokevirtual 208, 3) := by decide +kernel
theorem dX8_ward_83 : decode cX8_ward 83 = .ok (.ireturn, 1) := by decide +kernel
theorem dX8_ward_84 : decode cX8_ward 84 = .ok (.aload 4, 2) := by decide +kernel
theorem dX8_ward_86 : decode cX8_ward 86 = .ok (.getfield 177, 3) := by decide +kernel
theorem dX8_ward_89 : decode cX8_ward 89 = .ok (.ireturn, 1) := by decide +kernel
theorem dX8_ward_90 : decode cX8_ward 90 = .ok (.aload 4, 2) := by decide +kernel
theorem dX8_ward_92 : decode cX8_ward 92 = .ok (.getfield 174, 3) := by decide +kernel
theorem dX8_ward_95 : decode cX8_ward 95 = .ok (.ireturn, 1) := by decide +kernel
set_option maxRecDepth 20000 in
theorem ggX8_count_X5_eventsTold : GoodIn wsX8_count wsX5_eventsTold := goodIn_r _ [7, 8, 9, 26, 27, 30, 31, 32, 33, 34, 35, 36, 37, 38] (by decide +kernel) (by decide +kernel)
set_option maxRecDepth 20000 in
theorem gX8_count_X5_eventsTold : GoodIn wsX8_count (wsV RX8 214 RX5 yX5_eventsTold wsX5_eventsTold) := goodIn_app (goodIn_of _ (by decide +kernel)) ggX8_count_X5_eventsTold
set_option maxRecDepth 20000 in
theorem ggX8_count_X8_struckYears : GoodIn wsX8_count wsX8_struckYears := goodIn_r _ [14, 15, 16, 22, 23, 24, 25, 39, 40, 41, 42, 43] (by decide +kernel) (by decide +kernel)
set_option maxRecDepth 20000 in
theorem gX8_count_X8_struckYears : GoodIn wsX8_count (wsV RX8 218 RX8 yX8_struckYears wsX8_struckYears) := goodIn_app (goodIn_of _ (by decide +kernel)) ggX8_count_X8_struckYears
set_option maxRecDepth 20000 in
theorem ggX8_count_X5_rentsKnown : GoodIn wsX8_count wsX5_rentsKnown := goodIn_r _ [20, 8, 21, 26, 27, 30, 31, 32, 33, 34, 35, 36] (by decide +kernel) (by decide +kernel)
set_option maxRecDepth 20000 in
theorem gX8_count_X5_rentsKnown : GoodIn wsX8_count (wsV RX8 221 RX5 yX5_rentsKnown wsX5_rentsKnown) := goodIn_app (goodIn_of _ (by decide +kernel)) ggX8_count_X5_rentsKnown
theorem dX8_count_0 : decode cX8_count 0 = .ok (.iload_n 1, 1) := by decide +kernel
theorem dX8_count_1 : decode cX8_count 1 = .ok (.tableswitch 72 0 4 #[35, 43, 51, 59, 64], 35) := by decide +kernel
theorem dX8_count_36 : decode cX8_count 36 = .ok (.aload_n 0, 1) := by decide +kernel
theorem dX8_count_37 : decode cX8_count 37 = .ok (.getfield 12, 3) := by decide +kernel
theorem dX8_count_40 : decode cX8_count 40 = .ok (.getfield 180, 3) := by decide +kernel
theorem dX8_count_43 : decode cX8_count 43 = .ok (.ireturn, 1) := by decide +kernel
theorem dX8_count_44 : decode cX8_count 44 = .ok (.aload_n 0, 1) := by decide +kernel
theorem dX8_count_45 : decode cX8_count 45 = .ok (.getfield 19, 3) := by decide +kernel
theorem dX8_count_48 : decode cX8_count 48 = .ok (.getfield 211, 3) := by decide +kernel
theorem dX8_count_51 : decode cX8_count 51 = .ok (.ireturn, 1) := by decide +kernel
theorem dX8_count_52 : decode cX8_count 52 = .ok (.aload_n 0, 1) := by decide +kernel
theorem dX8_count_53 : decode cX8_count 53 = .ok (.getfield 12, 3) := by decide +kernel
theorem dX8_count_56 : decode cX8_count 56 = .ok (.invokevirtual 214, 3) := by decide +kernel
theorem dX8_count_59 : decode cX8_count 59 = .ok (.ireturn, 1) := by decide +kernel
theorem dX8_count_60 : decode cX8_count 60 = .ok (.aload_n 0, 1) := by decide +kernel
theorem dX8_count_61 : decode cX8_count 61 = .ok (.invokevirtual 218, 3) := by decide +kernel
theorem dX8_count_64 : decode cX8_count 64 = .ok (.ireturn, 1) := by decide +kernel
theorem dX8_count_65 : decode cX8_count 65 = .ok (.aload_n 0, 1) := by decide +kernel
theorem dX8_count_66 : decode cX8_count 66 = .ok (.getfield 12, 3) := by decide +kernel
theorem dX8_count_69 : decode cX8_count 69 = .ok (.invokevirtual 221, 3) := by decide +kernel
theorem dX8_count_72 : decode cX8_count 72 = .ok (.ireturn, 1) := by decide +kernel
theorem dX8_count_73 : decode cX8_count 73 = .ok (.iconst (-1), 1) := by decide +kernel
theorem dX8_count_74 : decode cX8_count 74 = .ok (.ireturn, 1) := by decide +kernel
theorem dX8_isWithin_0 : decode cX8_isWithin 0 = .ok (.iload_n 0, 1) := by decide +kernel
theorem dX8_isWithin_1 : decode cX8_isWithin 1 = .ok (.iload_n 1, 1) := by decide +kernel
theorem dX8_isWithin_2 : decode cX8_isWithin 2 = .ok (.if_icmp .lt 12, 3) := by decide +kernel
theorem dX8_isWithin_5 : decode cX8_isWithin 5 = .ok (.iload_n 0, 1) := by decide +kernel
theorem dX8_isWithin_6 : decode cX8_isWithin 6 = .ok (.iload_n 2, 1) := by decide +kernel
theorem dX8_isWithin_7 : decode cX8_isWithin 7 = .ok (.if_icmp .gt 7, 3) := by decide +kernel
theorem dX8_isWithin_10 : decode cX8_isWithin 10 = .ok (.iconst 1, 1) := by decide +kernel
theorem dX8_isWithin_11 : decode cX8_isWithin 11 = .ok (.goto 4, 3) := by decide +kernel
theorem dX8_isWithin_14 : decode cX8_isWithin 14 = .ok (.iconst 0, 1) := by decide +kernel
theorem dX8_isWithin_15 : decode cX8_isWithin 15 = .ok (.ireturn, 1) := by decide +kernel
theorem dX8_isOf_0 : decode cX8_isOf 0 = .ok (.iload_n 0, 1) := by decide +kernel
theorem dX8_isOf_1 : decode cX8_isOf 1 = .ok (.ifCond .lt 12, 3) := by decide +kernel
theorem dX8_isOf_4 : decode cX8_isOf 4 = .ok (.iload_n 0, 1) := by decide +kernel
theorem dX8_isOf_5 : decode cX8_isOf 5 = .ok (.iload_n 1, 1) := by decide +kernel
theorem dX8_isOf_6 : decode cX8_isOf 6 = .ok (.if_icmp .ge 7, 3) := by decide +kernel
theorem dX8_isOf_9 : decode cX8_isOf 9 = .ok (.iconst 1, 1) := by decide +kernel
theorem dX8_isOf_10 : decode cX8_isOf 10 = .ok (.goto 4, 3) := by decide +kernel
theorem dX8_isOf_13 : decode cX8_isOf 13 = .ok (.iconst 0, 1) := by decide +kernel
theorem dX8_isOf_14 : decode cX8_isOf 14 = .ok (.ireturn, 1) := by decide +kernel
theorem dX8_sooner_0 : decode cX8_sooner 0 = .ok (.iload_n 0, 1) := by decide +kernel
theorem dX8_sooner_1 : decode cX8_sooner 1 = .ok (.iload_n 1, 1) := by decide +kernel
theorem dX8_sooner_2 : decode cX8_sooner 2 = .ok (.if_icmp .le 12, 3) := by decide +kernel
theorem dX8_sooner_5 : decode cX8_sooner 5 = .ok (.iload_n 0, 1) := by decide +kernel
theorem dX8_sooner_6 : decode cX8_sooner 6 = .ok (.iload_n 2, 1) := by decide +kernel
theorem dX8_sooner_7 : decode cX8_sooner 7 = .ok (.if_icmp .ge 7, 3) := by decide +kernel
theorem dX8_sooner_10 : decode cX8_sooner 10 = .ok (.iload_n 0, 1) := by decide +kernel
theorem dX8_sooner_11 : decode cX8_sooner 11 = .ok (.goto 4, 3) := by decide +kernel
theorem dX8_sooner_14 : decode cX8_sooner 14 = .ok (.iload_n 2, 1) := by decide +kernel
theorem dX8_sooner_15 : decode cX8_sooner 15 = .ok (.ireturn, 1) := by decide +kernel
set_option maxRecDepth 20000 in
theorem ggX8_isEvent_X8_isWithin : GoodIn wsX8_isEvent wsX8_isWithin := goodIn_r _ [4] (by decide +kernel) (by decide +kernel)
set_option maxRecDepth 20000 in
theorem gX8_isEvent_X8_isWithin : GoodIn wsX8_isEvent (va_wsS RX8 38 yX8_isWithin wsX8_isWithin) := goodIn_app (goodIn_of _ (by decide +kernel)) ggX8_isEvent_X8_isWithin
theorem dX8_isEvent_0 : decode cX8_isEvent 0 = .ok (.iload_n 0, 1) := by decide +kernel
theorem dX8_isEvent_1 : decode cX8_isEvent 1 = .ok (.tableswitch 52 0 2 #[27, 36, 43], 27) := by decide +kernel
theorem dX8_isEvent_28 : decode cX8_isEvent 28 = .ok (.iload_n 1, 1) := by decide +kernel
theorem dX8_isEvent_29 : decode cX8_isEvent 29 = .ok (.iconst 1, 1) := by decide +kernel
theorem dX8_isEvent_30 : decode cX8_isEvent 30 = .ok (.sipush 500, 3) := by decide +kernel
theorem dX8_isEvent_33 : decode cX8_isEvent 33 = .ok (.invokestatic 38, 3) := by decide +kernel
theorem dX8_isEvent_36 : decode cX8_isEvent 36 = .ok (.ireturn, 1) := by decide +kernel
theorem dX8_isEvent_37 : decode cX8_isEvent 37 = .ok (.iload_n 1, 1) := by decide +kernel
theorem dX8_isEvent_38 : decode cX8_isEvent 38 = .ok (.iconst 0, 1) := by decide +kernel
theorem dX8_isEvent_39 : decode cX8_isEvent 39 = .ok (.iconst 3, 1) := by decide +kernel
theorem dX8_isEvent_40 : decode cX8_isEvent 40 = .ok (.invokestatic 38, 3) := by decide +kernel
theorem dX8_isEvent_43 : decode cX8_isEvent 43 = .ok (.ireturn, 1) := by decide +kernel
theorem dX8_isEvent_44 : decode cX8_isEvent 44 = .ok (.iload_n 1, 1) := by decide +kernel
theorem dX8_isEvent_45 : decode cX8_isEvent 45 = .ok (.iconst 1, 1) := by decide +kernel
theorem dX8_isEvent_46 : decode cX8_isEvent 46 = .ok (.sipush 900, 3) := by decide +kernel
theorem dX8_isEvent_49 : decode cX8_isEvent 49 = .ok (.invokestatic 38, 3) := by decide +kernel
theorem dX8_isEvent_52 : decode cX8_isEvent 52 = .ok (.ireturn, 1) := by decide +kernel
theorem dX8_isEvent_53 : decode cX8_isEvent 53 = .ok (.iconst 0, 1) := by decide +kernel
theorem dX8_isEvent_54 : decode cX8_isEvent 54 = .ok (.ireturn, 1) := by decide +kernel
set_option maxRecDepth 20000 in
theorem ggX8_cutOne_X1_isFull : GoodIn wsX8_cutOne wsX1_isFull := goodIn_r _ [6, 7, 8, 34, 35] (by decide +kernel) (by decide +kernel)
set_option maxRecDepth 20000 in
theorem gX8_cutOne_X1_isFull : GoodIn wsX8_cutOne (wsV RX8 109 RX1 yX1_isFull wsX1_isFull) := goodIn_app (goodIn_of _ (by decide +kernel)) ggX8_cutOne_X1_isFull
set_option maxRecDepth 20000 in
theorem ggX8_cutOne_X1_add : GoodIn wsX8_cutOne wsX1_add := goodIn_r _ [12, 7, 8, 13, 14, 15, 16, 17, 18, 19, 20, 21, 22, 23, 24, 25, 26, 34, 35, 36, 37, 38, 39] (by decide +kernel) (by decide +kernel)
set_option maxRecDepth 20000 in
theorem gX8_cutOne_X1_add : GoodIn wsX8_cutOne (wsV RX8 112 RX1 yX1_add wsX1_add) := goodIn_app (goodIn_of _ (by decide +kernel)) ggX8_cutOne_X1_add
theorem dX8_cutOne_0 : decode cX8_cutOne 0 = .ok (.aload_n 0, 1) := by decide +kernel
theorem dX8_cutOne_1 : decode cX8_cutOne 1 = .ok (.getfield 105, 3) := by decide +kernel
theorem dX8_cutOne_4 : decode cX8_cutOne 4 = .ok (.invokevirtual 109, 3) := by decide +kernel
theorem dX8_cutOne_7 : decode cX8_cutOne 7 = .ok (.ifCond .eq 6, 3) := by decide +kernel
theorem dX8_cutOne_10 : decode cX8_cutOne 10 = .ok (.bipush (-3), 2) := by decide +kernel
theorem dX8_cutOne_12 : decode cX8_cutOne 12 = .ok (.ireturn, 1) := by decide +kernel
theorem dX8_cutOne_13 : decode cX8_cutOne 13 = .ok (.aload_n 0, 1) := by decide +kernel
theorem dX8_cutOne_14 : decode cX8_cutOne 14 = .ok (.getfield 105, 3) := by decide +kernel
theorem dX8_cutOne_17 : decode cX8_cutOne 17 = .ok (.iload_n 1, 1) := by decide +kernel
theorem dX8_cutOne_18 : decode cX8_cutOne 18 = .ok (.iconst 2, 1) := by decide +kernel
theorem dX8_cutOne_19 : decode cX8_cutOne 19 = .ok (.iload_n 2, 1) := by decide +kernel
theorem dX8_cutOne_20 : decode cX8_cutOne 20 = .ok (.invokevirtual 112, 3) := by decide +kernel
theorem dX8_cutOne_23 : decode cX8_cutOne 23 = .ok (.iconst 1, 1) := by decide +kernel
theorem dX8_cutOne_24 : decode cX8_cutOne 24 = .ok (.ireturn, 1) := by decide +kernel
set_option maxRecDepth 20000 in
theorem ggX8_cutLike_X5_at : GoodIn wsX8_cutLike wsX5_at := goodIn_r _ [7, 8, 45, 46] (by decide +kernel) (by decide +kernel)
set_option maxRecDepth 20000 in
theorem gX8_cutLike_X5_at : GoodIn wsX8_cutLike (wsV RX8 47 RX5 yX5_at wsX5_at) := goodIn_app (goodIn_of _ (by decide +kernel)) ggX8_cutLike_X5_at
set_option maxRecDepth 20000 in
theorem ggX8_cutLike_X2_isLike : GoodIn wsX8_cutLike wsX2_isLike := goodIn_r _ [13, 14, 15, 47, 48, 49, 50, 51, 52, 53] (by decide +kernel) (by decide +kernel)
set_option maxRecDepth 20000 in
theorem gX8_cutLike_X2_isLike : GoodIn wsX8_cutLike (wsV RX8 224 RX2 yX2_isLike wsX2_isLike) := goodIn_app (goodIn_of _ (by decide +kernel)) ggX8_cutLike_X2_isLike
set_option maxRecDepth 20000 in
theorem ggX8_cutLike_X1_isFull : GoodIn wsX8_cutLike wsX1_isFull := goodIn_r _ [20, 21, 22, 54, 55] (by decide +kernel) (by decide +kernel)
set_option maxRecDepth 20000 in
theorem gX8_cutLike_X1_isFull : GoodIn wsX8_cutLike (wsV RX8 109 RX1 yX1_isFull wsX1_isFull) := goodIn_app (goodIn_of _ (by decide +kernel)) ggX8_cutLike_X1_isFull
set_option maxRecDepth 20000 in
theorem ggX8_cutLike_X1_add : GoodIn wsX8_cutLike wsX1_add := goodIn_r _ [26, 21, 22, 27, 28, 29, 30, 31, 32, 33, 34, 35, 36, 37, 38, 39, 40, 54, 55, 56, 57, 58, 59] (by decide +kernel) (by decide +kernel)
set_option maxRecDepth 20000 in
theorem gX8_cutLike_X1_add : GoodIn wsX8_cutLike (wsV RX8 112 RX1 yX1_add wsX1_add) := goodIn_app (goodIn_of _ (by decide +kernel)) ggX8_cutLike_X1_add
theorem dX8_cutLike_0 : decode cX8_cutLike 0 = .ok (.iconst 0, 1) := by decide +kernel
theorem dX8_cutLike_1 : decode cX8_cutLike 1 = .ok (.istore 4, 2) := by decide +kernel
theorem dX8_cutLike_3 : decode cX8_cutLike 3 = .ok (.iload 4, 2) := by decide +kernel
theorem dX8_cutLike_5 : decode cX8_cutLike 5 = .ok (.aload_n 0, 1) := by decide +kernel
theorem dX8_cutLike_6 : decode cX8_cutLike 6 = .ok (.getfield 12, 3) := by decide +kernel
theorem dX8_cutLike_9 : decode cX8_cutLike 9 = .ok (.getfield 180, 3) := by decide +kernel
theorem dX8_cutLike_12 : decode cX8_cutLike 12 = .ok (.if_icmp .ge 48, 3) := by decide +kernel
theorem dX8_cutLike_15 : decode cX8_cutLike 15 = .ok (.aload_n 0, 1) := by decide +kernel
theorem dX8_cutLike_16 : decode cX8_cutLike 16 = .ok (.getfield 12, 3) := by decide +kernel
theorem dX8_cutLike_19 : decode cX8_cutLike 19 = .ok (.iload 4, 2) := by decide +kernel
theorem dX8_cutLike_21 : decode cX8_cutLike 21 = .ok (.invokevirtual 47, 3) := by decide +kernel
theorem dX8_cutLike_24 : decode cX8_cutLike 24 = .ok (.astore 5, 2) := by decide +kernel
theorem dX8_cutLike_26 : decode cX8_cutLike 26 = .ok (.aload 5, 2) := by decide +kernel
theorem dX8_cutLike_28 : decode cX8_cutLike 28 = .ok (.ifnull 26, 3) := by decide +kernel
theorem dX8_cutLike_31 : decode cX8_cutLike 31 = .ok (.aload 5, 2) := by decide +kernel
theorem dX8_cutLike_33 : decode cX8_cutLike 33 = .ok (.aload_n 1, 1) := by decide +kernel
theorem dX8_cutLike_34 : decode cX8_cutLike 34 = .ok (.invokevirtual 224, 3) := by decide +kernel
theorem dX8_cutLike_37 : decode cX8_cutLike 37 = .ok (.ifCond .eq 17, 3) := by decide +kernel
theorem dX8_cutLike_40 : decode cX8_cutLike 40 = .ok (.aload 5, 2) := by decide +kernel
theorem dX8_cutLike_42 : decode cX8_cutLike 42 = .ok (.getfield 105, 3) := by decide +kernel
theorem dX8_cutLike_45 : decode cX8_cutLike 45 = .ok (.invokevirtual 109, 3) := by decide +kernel
theorem dX8_cutLike_48 : decode cX8_cutLike 48 = .ok (.ifCond .eq 6, 3) := by decide +kernel
theorem dX8_cutLike_51 : decode cX8_cutLike 51 = .ok (.bipush (-3), 2) := by decide +kernel
theorem dX8_cutLike_53 : decode cX8_cutLike 53 = .ok (.ireturn, 1) := by decide +kernel
theorem dX8_cutLike_54 : decode cX8_cutLike 54 = .ok (.iinc 4 1, 3) := by decide +kernel
theorem dX8_cutLike_57 : decode cX8_cutLike 57 = .ok (.goto (-54), 3) := by decide +kernel
theorem dX8_cutLike_60 : decode cX8_cutLike 60 = .ok (.iconst 0, 1) := by decide +kernel
theorem dX8_cutLike_61 : decode cX8_cutLike 61 = .ok (.istore 4, 2) := by decide +kernel
theorem dX8_cutLike_63 : decode cX8_cutLike 63 = .ok (.iconst 0, 1) := by decide +kernel
theorem dX8_cutLike_64 : decode cX8_cutLike 64 = .ok (.istore 5, 2) := by decide +kernel
theorem dX8_cutLike_66 : decode cX8_cutLike 66 = .ok (.iload 5, 2) := by decide +kernel
theorem dX8_cutLike_68 : decode cX8_cutLike 68 = .ok (.aload_n 0, 1) := by decide +kernel
theorem dX8_cutLike_69 : decode cX8_cutLike 69 = .ok (.getfield 12, 3) := by decide +kernel
theorem dX8_cutLike_72 : decode cX8_cutLike 72 = .ok (.getfield 180, 3) := by decide +kernel
theorem dX8_cutLike_75 : decode cX8_cutLike 75 = .ok (.if_icmp .ge 48, 3) := by decide +kernel
theorem dX8_cutLike_78 : decode cX8_cutLike 78 = .ok (.aload_n 0, 1) := by decide +kernel
theorem dX8_cutLike_79 : decode cX8_cutLike 79 = .ok (.getfield 12, 3) := by decide +kernel
theorem dX8_cutLike_82 : decode cX8_cutLike 82 = .ok (.iload 5, 2) := by decide +kernel
theorem dX8_cutLike_84 : decode cX8_cutLike 84 = .ok (.invokevirtual 47, 3) := by decide +kernel
theorem dX8_cutLike_87 : decode cX8_cutLike 87 = .ok (.astore 6, 2) := by decide +kernel
theorem dX8_cutLike_89 : decode cX8_cutLike 89 = .ok (.aload 6, 2) := by decide +kernel
theorem dX8_cutLike_91 : decode cX8_cutLike 91 = .ok (.ifnull 26, 3) := by decide +kernel
theorem dX8_cutLike_94 : decode cX8_cutLike 94 = .ok (.aload 6, 2) := by decide +kernel
theorem dX8_cutLike_96 : decode cX8_cutLike 96 = .ok (.aload_n 1, 1) := by decide +kernel
theorem dX8_cutLike_97 : decode cX8_cutLike 97 = .ok (.invokevirtual 224, 3) := by decide +kernel
theorem dX8_cutLike_100 : decode cX8_cutLike 100 = .ok (.ifCond .eq 17, 3) := by decide +kernel
theorem dX8_cutLike_103 : decode cX8_cutLike 103 = .ok (.aload 6, 2) := by decide +kernel
theorem dX8_cutLike_105 : decode cX8_cutLike 105 = .ok (.getfield 105, 3) := by decide +kernel
theorem dX8_cutLike_108 : decode cX8_cutLike 108 = .ok (.iload_n 2, 1) := by decide +kernel
theorem dX8_cutLike_109 : decode cX8_cutLike 109 = .ok (.iconst 2, 1) := by decide +kernel
theorem dX8_cutLike_110 : decode cX8_cutLike 110 = .ok (.iload_n 3, 1) := by decide +kernel
theorem dX8_cutLike_111 : decode cX8_cutLike 111 = .ok (.invokevirtual 112, 3) := by decide +kernel
theorem dX8_cutLike_114 : decode cX8_cutLike 114 = .ok (.iinc 4 1, 3) := by decide +kernel
theorem dX8_cutLike_117 : decode cX8_cutLike 117 = .ok (.iinc 5 1, 3) := by decide +kernel
theorem dX8_cutLike_120 : decode cX8_cutLike 120 = .ok (.goto (-54), 3) := by decide +kernel
theorem dX8_cutLike_123 : decode cX8_cutLike 123 = .ok (.iload 4, 2) := by decide +kernel
theorem dX8_cutLike_125 : decode cX8_cutLike 125 = .ok (.ireturn, 1) := by decide +kernel
set_option maxRecDepth 20000 in
theorem ggX8_worthOn_X3_standingOn : GoodIn wsX8_worthOn wsX3_standingOn := goodIn_r _ [10, 11, 12, 65, 66, 63, 64] (by decide +kernel) (by decide +kernel)
set_option maxRecDepth 20000 in
theorem gX8_worthOn_X3_standingOn : GoodIn wsX8_worthOn (wsV RX8 145 RX3 yX3_standingOn wsX3_standingOn) := goodIn_app (goodIn_of _ (by decide +kernel)) ggX8_worthOn_X3_standingOn
set_option maxRecDepth 20000 in
theorem ggX8_worthOn_X3_at : GoodIn wsX8_worthOn wsX3_at := goodIn_r _ [16, 11, 65, 66] (by decide +kernel) (by decide +kernel)
set_option maxRecDepth 20000 in
theorem gX8_worthOn_X3_at : GoodIn wsX8_worthOn (wsV RX8 228 RX3 yX3_at wsX3_at) := goodIn_app (goodIn_of _ (by decide +kernel)) ggX8_worthOn_X3_at
set_option maxRecDepth 20000 in
theorem ggX8_worthOn_X4_unitFor : GoodIn wsX8_worthOn wsX4_unitFor := goodIn_r _ [21, 22, 63, 64] (by decide +kernel) (by decide +kernel)
set_option maxRecDepth 20000 in
theorem gX8_worthOn_X4_unitFor : GoodIn wsX8_worthOn (wsV RX8 231 RX4 yX4_unitFor wsX4_unitFor) := goodIn_app (goodIn_of _ (by decide +kernel)) ggX8_worthOn_X4_unitFor
set_option maxRecDepth 20000 in
theorem ggX8_worthOn_X2_sizeOn : GoodIn wsX8_worthOn wsX2_sizeOn := goodIn_r _ [27, 28, 29, 30, 31, 32, 33, 34, 35, 36, 37, 38, 56, 57, 58, 59, 60, 61, 62, 67, 68, 69, 70, 71, 72] (by decide +kernel) (by decide +kernel)
set_option maxRecDepth 20000 in
theorem gX8_worthOn_X2_sizeOn : GoodIn wsX8_worthOn (wsV RX8 128 RX2 yX2_sizeOn wsX2_sizeOn) := goodIn_app (goodIn_of _ (by decide +kernel)) ggX8_worthOn_X2_sizeOn
set_option maxRecDepth 20000 in
theorem ggX8_worthOn_X6_times : GoodIn wsX8_worthOn wsX6_times := goodIn_r _ [43, 44, 45, 73, 74, 75, 76] (by decide +kernel) (by decide +kernel)
set_option maxRecDepth 20000 in
theorem gX8_worthOn_X6_times : GoodIn wsX8_worthOn (wsV RX8 87 RX6 yX6_times wsX6_times) := goodIn_app (goodIn_of _ (by decide +kernel)) ggX8_worthOn_X6_times
set_option maxRecDepth 20000 in
theorem ggX8_worthOn_X1_cutDown : GoodIn wsX8_worthOn wsX1_cutDown := goodIn_r _ [49, 36, 37, 38, 50, 51, 71, 72, 67, 68, 69, 70] (by decide +kernel) (by decide +kernel)
set_option maxRecDepth 20000 in
theorem gX8_worthOn_X1_cutDown : GoodIn wsX8_worthOn (wsV RX8 240 RX1 yX1_cutDown wsX1_cutDown) := goodIn_app (goodIn_of _ (by decide +kernel)) ggX8_worthOn_X1_cutDown
theorem dX8_worthOn_0 : decode cX8_worthOn 0 = .ok (.aload_n 0, 1) := by decide +kernel
theorem dX8_worthOn_1 : decode cX8_worthOn 1 = .ok (.getfield 19, 3) := by decide +kernel
theorem dX8_worthOn_4 : decode cX8_worthOn 4 = .ok (.aload_n 0, 1) := by decide +kernel
theorem dX8_worthOn_5 : decode cX8_worthOn 5 = .ok (.getfield 19, 3) := by decide +kernel
theorem dX8_worthOn_8 : decode cX8_worthOn 8 = .ok (.iload_n 2, 1) := by decide +kernel
theorem dX8_worthOn_9 : decode cX8_worthOn 9 = .ok (.invokevirtual 145, 3) := by decide +kernel
theorem dX8_worthOn_12 : decode cX8_worthOn 12 = .ok (.invokevirtual 228, 3) := by decide +kernel
theorem dX8_worthOn_15 : decode cX8_worthOn 15 = .ok (.astore_n 3, 1) := by decide +kernel
theorem dX8_worthOn_16 : decode cX8_worthOn 16 = .ok (.aload_n 3, 1) := by decide +kernel
theorem dX8_worthOn_17 : decode cX8_worthOn 17 = .ok (.ifnonnull 5, 3) := by decide +kernel
theorem dX8_worthOn_20 : decode cX8_worthOn 20 = .ok (.iconst 0, 1) := by decide +kernel
theorem dX8_worthOn_21 : decode cX8_worthOn 21 = .ok (.ireturn, 1) := by decide +kernel
theorem dX8_worthOn_22 : decode cX8_worthOn 22 = .ok (.aload_n 3, 1) := by decide +kernel
theorem dX8_worthOn_23 : decode cX8_worthOn 23 = .ok (.aload_n 1, 1) := by decide +kernel
theorem dX8_worthOn_24 : decode cX8_worthOn 24 = .ok (.getfield 75, 3) := by decide +kernel
theorem dX8_worthOn_27 : decode cX8_worthOn 27 = .ok (.aload_n 1, 1) := by decide +kernel
theorem dX8_worthOn_28 : decode cX8_worthOn 28 = .ok (.getfield 78, 3) := by decide +kernel
theorem dX8_worthOn_31 : decode cX8_worthOn 31 = .ok (.invokevirtual 231, 3) := by decide +kernel
theorem dX8_worthOn_34 : decode cX8_worthOn 34 = .ok (.astore 4, 2) := by decide +kernel
theorem dX8_worthOn_36 : decode cX8_worthOn 36 = .ok (.aload 4, 2) := by decide +kernel
theorem dX8_worthOn_38 : decode cX8_worthOn 38 = .ok (.ifnonnull 5, 3) := by decide +kernel
theorem dX8_worthOn_41 : decode cX8_worthOn 41 = .ok (.iconst 0, 1) := by decide +kernel
theorem dX8_worthOn_42 : decode cX8_worthOn 42 = .ok (.ireturn, 1) := by decide +kernel
theorem dX8_worthOn_43 : decode cX8_worthOn 43 = .ok (.aload_n 1, 1) := by decide +kernel
theorem dX8_worthOn_44 : decode cX8_worthOn 44 = .ok (.getfield 105, 3) := by decide +kernel
theorem dX8_worthOn_47 : decode cX8_worthOn 47 = .ok (.aload 4, 2) := by decide +kernel
theorem dX8_worthOn_49 : decode cX8_worthOn 49 = .ok (.aload_n 1, 1) := by decide +kernel
theorem dX8_worthOn_50 : decode cX8_worthOn 50 = .ok (.iload_n 2, 1) := by decide +kernel
theorem dX8_worthOn_51 : decode cX8_worthOn 51 = .ok (.invokevirtual 128, 3) := by decide +kernel
theorem dX8_worthOn_54 : decode cX8_worthOn 54 = .ok (.invokevirtual 87, 3) := by decide +kernel
theorem dX8_worthOn_57 : decode cX8_worthOn 57 = .ok (.aload_n 3, 1) := by decide +kernel
theorem dX8_worthOn_58 : decode cX8_worthOn 58 = .ok (.getfield 237, 3) := by decide +kernel
theorem dX8_worthOn_61 : decode cX8_worthOn 61 = .ok (.iload_n 2, 1) := by decide +kernel
theorem dX8_worthOn_62 : decode cX8_worthOn 62 = .ok (.invokevirtual 240, 3) := by decide +kernel
theorem dX8_worthOn_65 : decode cX8_worthOn 65 = .ok (.l2i, 1) := by decide +kernel
theorem dX8_worthOn_66 : decode cX8_worthOn 66 = .ok (.ireturn, 1) := by decide +kernel
set_option maxRecDepth 20000 in
theorem ggX8_countedOn_X8_worthOn : GoodIn wsX8_countedOn wsX8_worthOn := goodIn_r _ [8, 9, 10, 11, 1, 12, 13, 14, 15, 16, 17, 18, 19, 20, 21, 22, 23, 24, 25, 26, 27, 28, 29, 30, 31, 32, 33, 34, 35, 36, 37, 38, 39, 40, 41, 42, 43, 44, 45, 46, 47, 48, 49, 50, 51, 52, 53, 54, 55, 56, 57, 58, 71, 72, 73, 74, 60, 61, 62, 63, 64, 65, 66, 75, 76, 77, 78, 67, 68, 69, 70, 79, 80, 81, 82, 83, 84] (by decide +kernel) (by decide +kernel)
set_option maxRecDepth 20000 in
theorem gX8_countedOn_X8_worthOn : GoodIn wsX8_countedOn (wsV RX8 135 RX8 yX8_worthOn wsX8_worthOn) := goodIn_app (goodIn_of _ (by decide +kernel)) ggX8_countedOn_X8_worthOn
set_option maxRecDepth 20000 in
theorem ggX8_countedOn_X1_latestOf : GoodIn wsX8_countedOn wsX1_latestOf := goodIn_r _ [42, 43, 44, 45, 79, 80, 67, 68, 69, 70] (by decide +kernel) (by decide +kernel)
set_option maxRecDepth 20000 in
theorem gX8_countedOn_X1_latestOf : GoodIn wsX8_countedOn (wsV RX8 244 RX1 yX1_latestOf wsX1_latestOf) := goodIn_app (goodIn_of _ (by decide +kernel)) ggX8_countedOn_X1_latestOf
theorem dX8_countedOn_0 : decode cX8_countedOn 0 = .ok (.aload_n 0, 1) := by decide +kernel
theorem dX8_countedOn_1 : decode cX8_countedOn 1 = .ok (.aload_n 1, 1) := by decide +kernel
theorem dX8_countedOn_2 : decode cX8_countedOn 2 = .ok (.iload_n 2, 1) := by decide +kernel
theorem dX8_countedOn_3 : decode cX8_countedOn 3 = .ok (.invokevirtual 135, 3) := by decide +kernel
theorem dX8_countedOn_6 : decode cX8_countedOn 6 = .ok (.istore_n 3, 1) := by decide +kernel
theorem dX8_countedOn_7 : decode cX8_countedOn 7 = .ok (.aload_n 1, 1) := by decide +kernel
theorem dX8_countedOn_8 : decode cX8_countedOn 8 = .ok (.getfield 105, 3) := by decide +kernel
theorem dX8_countedOn_11 : decode cX8_countedOn 11 = .ok (.iconst 1, 1) := by decide +kernel
theorem dX8_countedOn_12 : decode cX8_countedOn 12 = .ok (.iload_n 2, 1) := by decide +kernel
theorem dX8_countedOn_13 : decode cX8_countedOn 13 = .ok (.invokevirtual 244, 3) := by decide +kernel
theorem dX8_countedOn_16 : decode cX8_countedOn 16 = .ok (.astore 4, 2) := by decide +kernel
theorem dX8_countedOn_18 : decode cX8_countedOn 18 = .ok (.aload 4, 2) := by decide +kernel
theorem dX8_countedOn_20 : decode cX8_countedOn 20 = .ok (.ifnonnull 5, 3) := by decide +kernel
theorem dX8_countedOn_23 : decode cX8_countedOn 23 = .ok (.iload_n 3, 1) := by decide +kernel
theorem dX8_countedOn_24 : decode cX8_countedOn 24 = .ok (.ireturn, 1) := by decide +kernel
theorem dX8_countedOn_25 : decode cX8_countedOn 25 = .ok (.aload 4, 2) := by decide +kernel
theorem dX8_countedOn_27 : decode cX8_countedOn 27 = .ok (.getfield 248, 3) := by decide +kernel
theorem dX8_countedOn_30 : decode cX8_countedOn 30 = .ok (.tableswitch 54 1 3 #[26, 46, 50], 26) := by decide +kernel
theorem dX8_countedOn_56 : decode cX8_countedOn 56 = .ok (.iload_n 2, 1) := by decide +kernel
theorem dX8_countedOn_57 : decode cX8_countedOn 57 = .ok (.aload 4, 2) := by decide +kernel
theorem dX8_countedOn_59 : decode cX8_countedOn 59 = .ok (.getfield 253, 3) := by decide +kernel
theorem dX8_countedOn_62 : decode cX8_countedOn 62 = .ok (.isub, 1) := by decide +kernel
theorem dX8_countedOn_63 : decode cX8_countedOn 63 = .ok (.bipush 90, 2) := by decide +kernel
theorem dX8_countedOn_65 : decode cX8_countedOn 65 = .ok (.if_icmp .ge 7, 3) := by decide +kernel
theorem dX8_countedOn_68 : decode cX8_countedOn 68 = .ok (.iconst 0, 1) := by decide +kernel
theorem dX8_countedOn_69 : decode cX8_countedOn 69 = .ok (.goto 6, 3) := by decide +kernel
theorem dX8_countedOn_72 : decode cX8_countedOn 72 = .ok (.iload_n 3, 1) := by decide +kernel
theorem dX8_countedOn_73 : decode cX8_countedOn 73 = .ok (.iconst 2, 1) := by decide +kernel
theorem dX8_countedOn_74 : decode cX8_countedOn 74 = .ok (.idiv, 1) := by decide +kernel
theorem dX8_countedOn_75 : decode cX8_countedOn 75 = .ok (.ireturn, 1) := by decide +kernel
theorem dX8_countedOn_76 : decode cX8_countedOn 76 = .ok (.iload_n 3, 1) := by decide +kernel
theorem dX8_countedOn_77 : decode cX8_countedOn 77 = .ok (.iconst 2, 1) := by decide +kernel
theorem dX8_countedOn_78 : decode cX8_countedOn 78 = .ok (.idiv, 1) := by decide +kernel
theorem dX8_countedOn_79 : decode cX8_countedOn 79 = .ok (.ireturn, 1) := by decide +kernel
theorem dX8_countedOn_80 : decode cX8_countedOn 80 = .ok (.iload_n 3, 1) := by decide +kernel
theorem dX8_countedOn_81 : decode cX8_countedOn 81 = .ok (.iconst 5, 1) := by decide +kernel
theorem dX8_countedOn_82 : decode cX8_countedOn 82 = .ok (.idiv, 1) := by decide +kernel
theorem dX8_countedOn_83 : decode cX8_countedOn 83 = .ok (.ireturn, 1) := by decide +kernel
theorem dX8_countedOn_84 : decode cX8_countedOn 84 = .ok (.iload_n 3, 1) := by decide +kernel
theorem dX8_countedOn_85 : decode cX8_countedOn 85 = .ok (.ireturn, 1) := by decide +kernel
theorem dX8_relieved_0 : decode cX8_relieved 0 = .ok (.iload_n 0, 1) := by decide +kernel
theorem dX8_relieved_1 : decode cX8_relieved 1 = .ok (.sipush 1200, 3) := by decide +kernel
theorem dX8_relieved_4 : decode cX8_relieved 4 = .ok (.if_icmp .gt 5, 3) := by decide +kernel
theorem dX8_relieved_7 : decode cX8_relieved 7 = .ok (.iconst 0, 1) := by decide +kernel
theorem dX8_relieved_8 : decode cX8_relieved 8 = .ok (.ireturn, 1) := by decide +kernel
theorem dX8_relieved_9 : decode cX8_relieved 9 = .ok (.iload_n 0, 1) := by decide +kernel
theorem dX8_relieved_10 : decode cX8_relieved 10 = .ok (.sipush 1500, 3) := by decide +kernel
theorem dX8_relieved_13 : decode cX8_relieved 13 = .ok (.if_icmp .gt 13, 3) := by decide +kernel
theorem dX8_relieved_16 : decode cX8_relieved 16 = .ok (.iconst 5, 1) := by decide +kernel
theorem dX8_relieved_17 : decode cX8_relieved 17 = .ok (.iload_n 0, 1) := by decide +kernel
theorem dX8_relieved_18 : decode cX8_relieved 18 = .ok (.sipush 1200, 3) := by decide +kernel
theorem dX8_relieved_21 : decode cX8_relieved 21 = .ok (.isub, 1) := by decide +kernel
theorem dX8_relieved_22 : decode cX8_relieved 22 = .ok (.imul, 1) := by decide +kernel
theorem dX8_relieved_23 : decode cX8_relieved 23 = .ok (.goto 4, 3) := by decide +kernel
theorem dX8_relieved_26 : decode cX8_relieved 26 = .ok (.iload_n 0, 1) := by decide +kernel
theorem dX8_relieved_27 : decode cX8_relieved 27 = .ok (.ireturn, 1) := by decide +kernel
