set_option maxRecDepth 20000 in
theorem ggX8_rent_X5_at : GoodIn wsX8_rent wsX5_at := goodIn_r _ [8, 9, 25, 26] (by decide +kernel) (by decide +kernel)
set_option maxRecDepth 20000 in
theorem gX8_rent_X5_at : GoodIn wsX8_rent (wsV RX8 47 RX5 yX5_at wsX5_at) := goodIn_app (goodIn_of _ (by decide +kernel)) ggX8_rent_X5_at
set_option maxRecDepth 20000 in
theorem ggX8_rent_X8_isWithin : GoodIn wsX8_rent wsX8_isWithin := goodIn_r _ [13] (by decide +kernel) (by decide +kernel)
set_option maxRecDepth 20000 in
theorem gX8_rent_X8_isWithin : GoodIn wsX8_rent (va_wsS RX8 38 yX8_isWithin wsX8_isWithin) := goodIn_app (goodIn_of _ (by decide +kernel)) ggX8_rent_X8_isWithin
theorem dX8_rent_0 : decode cX8_rent 0 = .ok (.aload_n 0, 1) := by decide +kernel
theorem dX8_rent_1 : decode cX8_rent 1 = .ok (.getfield 12, 3) := by decide +kernel
theorem dX8_rent_4 : decode cX8_rent 4 = .ok (.iload_n 1, 1) := by decide +kernel
theorem dX8_rent_5 : decode cX8_rent 5 = .ok (.invokevirtual 47, 3) := by decide +kernel
theorem dX8_rent_8 : decode cX8_rent 8 = .ok (.astore_n 3, 1) := by decide +kernel
theorem dX8_rent_9 : decode cX8_rent 9 = .ok (.aload_n 3, 1) := by decide +kernel
theorem dX8_rent_10 : decode cX8_rent 10 = .ok (.ifnull 13, 3) := by decide +kernel
theorem dX8_rent_13 : decode cX8_rent 13 = .ok (.iload_n 2, 1) := by decide +kernel
theorem dX8_rent_14 : decode cX8_rent 14 = .ok (.iconst 0, 1) := by decide +kernel
theorem dX8_rent_15 : decode cX8_rent 15 = .ok (.ldc 42, 2) := by decide +kernel
theorem dX8_rent_17 : decode cX8_rent 17 = .ok (.invokestatic 38, 3) := by decide +kernel
theorem dX8_rent_20 : decode cX8_rent 20 = .ok (.ifCond .ne 5, 3) := by decide +kernel
theorem dX8_rent_23 : decode cX8_rent 23 = .ok (.iconst (-1), 1) := by decide +kernel
theorem dX8_rent_24 : decode cX8_rent 24 = .ok (.ireturn, 1) := by decide +kernel
theorem dX8_rent_25 : decode cX8_rent 25 = .ok (.aload_n 3, 1) := by decide +kernel
theorem dX8_rent_26 : decode cX8_rent 26 = .ok (.getfield 51, 3) := by decide +kernel
theorem dX8_rent_29 : decode cX8_rent 29 = .ok (.istore 4, 2) := by decide +kernel
theorem dX8_rent_31 : decode cX8_rent 31 = .ok (.aload_n 3, 1) := by decide +kernel
theorem dX8_rent_32 : decode cX8_rent 32 = .ok (.iload_n 2, 1) := by decide +kernel
theorem dX8_rent_33 : decode cX8_rent 33 = .ok (.putfield 51, 3) := by decide +kernel
theorem dX8_rent_36 : decode cX8_rent 36 = .ok (.iload 4, 2) := by decide +kernel
theorem dX8_rent_38 : decode cX8_rent 38 = .ok (.ireturn, 1) := by decide +kernel
set_option maxRecDepth 20000 in
theorem ggX8_unit_X8_isOf : GoodIn wsX8_unit wsX8_isOf := goodIn_r _ [9] (by decide +kernel) (by decide +kernel)
set_option maxRecDepth 20000 in
theorem gX8_unit_X8_isOf : GoodIn wsX8_unit (va_wsS RX8 34 yX8_isOf wsX8_isOf) := goodIn_app (goodIn_of _ (by decide +kernel)) ggX8_unit_X8_isOf
set_option maxRecDepth 20000 in
theorem ggX8_unit_X5_unitOf : GoodIn wsX8_unit wsX5_unitOf := goodIn_r _ [14, 15, 16, 17, 18, 19, 20, 21, 22, 23, 13, 24, 25, 26, 27, 28, 29, 30, 31, 32, 33, 34, 35, 36, 37, 38, 39, 40, 41, 42, 43, 44, 45, 46, 47, 48, 49, 50, 51, 52, 53, 54, 55, 56, 57, 62, 63, 64, 65, 66, 67, 68, 69, 70, 71, 72, 73, 74] (by decide +kernel) (by decide +kernel)
set_option maxRecDepth 20000 in
theorem gX8_unit_X5_unitOf : GoodIn wsX8_unit (wsV RX8 57 RX5 yX5_unitOf wsX5_unitOf) := goodIn_app (goodIn_of _ (by decide +kernel)) ggX8_unit_X5_unitOf
theorem dX8_unit_0 : decode cX8_unit 0 = .ok (.iload_n 1, 1) := by decide +kernel
theorem dX8_unit_1 : decode cX8_unit 1 = .ok (.iconst 3, 1) := by decide +kernel
theorem dX8_unit_2 : decode cX8_unit 2 = .ok (.invokestatic 34, 3) := by decide +kernel
theorem dX8_unit_5 : decode cX8_unit 5 = .ok (.ifCond .eq 12, 3) := by decide +kernel
theorem dX8_unit_8 : decode cX8_unit 8 = .ok (.iload_n 2, 1) := by decide +kernel
theorem dX8_unit_9 : decode cX8_unit 9 = .ok (.bipush 6, 2) := by decide +kernel
theorem dX8_unit_11 : decode cX8_unit 11 = .ok (.invokestatic 34, 3) := by decide +kernel
theorem dX8_unit_14 : decode cX8_unit 14 = .ok (.ifCond .ne 5, 3) := by decide +kernel
theorem dX8_unit_17 : decode cX8_unit 17 = .ok (.iconst (-1), 1) := by decide +kernel
theorem dX8_unit_18 : decode cX8_unit 18 = .ok (.ireturn, 1) := by decide +kernel
theorem dX8_unit_19 : decode cX8_unit 19 = .ok (.aload_n 0, 1) := by decide +kernel
theorem dX8_unit_20 : decode cX8_unit 20 = .ok (.getfield 12, 3) := by decide +kernel
theorem dX8_unit_23 : decode cX8_unit 23 = .ok (.iload_n 1, 1) := by decide +kernel
theorem dX8_unit_24 : decode cX8_unit 24 = .ok (.iload_n 2, 1) := by decide +kernel
theorem dX8_unit_25 : decode cX8_unit 25 = .ok (.iconst (-1), 1) := by decide +kernel
theorem dX8_unit_26 : decode cX8_unit 26 = .ok (.invokevirtual 57, 3) := by decide +kernel
theorem dX8_unit_29 : decode cX8_unit 29 = .ok (.astore 4, 2) := by decide +kernel
theorem dX8_unit_31 : decode cX8_unit 31 = .ok (.iload_n 3, 1) := by decide +kernel
theorem dX8_unit_32 : decode cX8_unit 32 = .ok (.tableswitch 56 0 3 #[32, 38, 44, 50], 32) := by decide +kernel
theorem dX8_unit_64 : decode cX8_unit 64 = .ok (.aload 4, 2) := by decide +kernel
theorem dX8_unit_66 : decode cX8_unit 66 = .ok (.getfield 61, 3) := by decide +kernel
theorem dX8_unit_69 : decode cX8_unit 69 = .ok (.ireturn, 1) := by decide +kernel
theorem dX8_unit_70 : decode cX8_unit 70 = .ok (.aload 4, 2) := by decide +kernel
theorem dX8_unit_72 : decode cX8_unit 72 = .ok (.getfield 66, 3) := by decide +kernel
theorem dX8_unit_75 : decode cX8_unit 75 = .ok (.ireturn, 1) := by decide +kernel
theorem dX8_unit_76 : decode cX8_unit 76 = .ok (.aload 4, 2) := by decide +kernel
theorem dX8_unit_78 : decode cX8_unit 78 = .ok (.getfield 69, 3) := by decide +kernel
theorem dX8_unit_81 : decode cX8_unit 81 = .ok (.ireturn, 1) := by decide +kernel
theorem dX8_unit_82 : decode cX8_unit 82 = .ok (.aload 4, 2) := by decide +kernel
theorem dX8_unit_84 : decode cX8_unit 84 = .ok (.getfield 72, 3) := by decide +kernel
theorem dX8_unit_87 : decode cX8_unit 87 = .ok (.ireturn, 1) := by decide +kernel
theorem dX8_unit_88 : decode cX8_unit 88 = .ok (.iconst (-1), 1) := by decide +kernel
theorem dX8_unit_89 : decode cX8_unit 89 = .ok (.ireturn, 1) := by decide +kernel
set_option maxRecDepth 20000 in
theorem ggX8_tested_X5_at : GoodIn wsX8_tested wsX5_at := goodIn_r _ [10, 11, 73, 74] (by decide +kernel) (by decide +kernel)
set_option maxRecDepth 20000 in
theorem gX8_tested_X5_at : GoodIn wsX8_tested (wsV RX8 47 RX5 yX5_at wsX5_at) := goodIn_app (goodIn_of _ (by decide +kernel)) ggX8_tested_X5_at
set_option maxRecDepth 20000 in
theorem ggX8_tested_X5_unitOf : GoodIn wsX8_tested wsX5_unitOf := goodIn_r _ [15, 16, 17, 18, 19, 20, 21, 22, 23, 24, 9, 25, 11, 26, 27, 28, 29, 30, 31, 32, 33, 34, 35, 36, 37, 38, 39, 40, 41, 42, 43, 44, 45, 46, 47, 48, 49, 50, 51, 52, 53, 54, 55, 56, 57, 75, 76, 77, 78, 66, 67, 68, 69, 70, 71, 72, 73, 74] (by decide +kernel) (by decide +kernel)
set_option maxRecDepth 20000 in
theorem gX8_tested_X5_unitOf : GoodIn wsX8_tested (wsV RX8 57 RX5 yX5_unitOf wsX5_unitOf) := goodIn_app (goodIn_of _ (by decide +kernel)) ggX8_tested_X5_unitOf
set_option maxRecDepth 20000 in
theorem ggX8_tested_X6_times : GoodIn wsX8_tested wsX6_times := goodIn_r _ [61, 55, 54, 75, 76, 77, 78] (by decide +kernel) (by decide +kernel)
set_option maxRecDepth 20000 in
theorem gX8_tested_X6_times : GoodIn wsX8_tested (wsV RX8 87 RX6 yX6_times wsX6_times) := goodIn_app (goodIn_of _ (by decide +kernel)) ggX8_tested_X6_times
theorem dX8_tested_0 : decode cX8_tested 0 = .ok (.aload_n 0, 1) := by decide +kernel
theorem dX8_tested_1 : decode cX8_tested 1 = .ok (.getfield 12, 3) := by decide +kernel
theorem dX8_tested_4 : decode cX8_tested 4 = .ok (.iload_n 1, 1) := by decide +kernel
theorem dX8_tested_5 : decode cX8_tested 5 = .ok (.invokevirtual 47, 3) := by decide +kernel
theorem dX8_tested_8 : decode cX8_tested 8 = .ok (.astore_n 2, 1) := by decide +kernel
theorem dX8_tested_9 : decode cX8_tested 9 = .ok (.aload_n 2, 1) := by decide +kernel
theorem dX8_tested_10 : decode cX8_tested 10 = .ok (.ifnonnull 5, 3) := by decide +kernel
theorem dX8_tested_13 : decode cX8_tested 13 = .ok (.iconst (-1), 1) := by decide +kernel
theorem dX8_tested_14 : decode cX8_tested 14 = .ok (.ireturn, 1) := by decide +kernel
theorem dX8_tested_15 : decode cX8_tested 15 = .ok (.aload_n 0, 1) := by decide +kernel
theorem dX8_tested_16 : decode cX8_tested 16 = .ok (.getfield 12, 3) := by decide +kernel
theorem dX8_tested_19 : decode cX8_tested 19 = .ok (.aload_n 2, 1) := by decide +kernel
theorem dX8_tested_20 : decode cX8_tested 20 = .ok (.getfield 75, 3) := by decide +kernel
theorem dX8_tested_23 : decode cX8_tested 23 = .ok (.aload_n 2, 1) := by decide +kernel
theorem dX8_tested_24 : decode cX8_tested 24 = .ok (.getfield 78, 3) := by decide +kernel
theorem dX8_tested_27 : decode cX8_tested 27 = .ok (.aload_n 2, 1) := by decide +kernel
theorem dX8_tested_28 : decode cX8_tested 28 = .ok (.getfield 81, 3) := by decide +kernel
theorem dX8_tested_31 : decode cX8_tested 31 = .ok (.invokevirtual 57, 3) := by decide +kernel
theorem dX8_tested_34 : decode cX8_tested 34 = .ok (.aload_n 2, 1) := by decide +kernel
theorem dX8_tested_35 : decode cX8_tested 35 = .ok (.getfield 84, 3) := by decide +kernel
theorem dX8_tested_38 : decode cX8_tested 38 = .ok (.invokevirtual 87, 3) := by decide +kernel
theorem dX8_tested_41 : decode cX8_tested 41 = .ok (.l2i, 1) := by decide +kernel
theorem dX8_tested_42 : decode cX8_tested 42 = .ok (.ireturn, 1) := by decide +kernel
set_option maxRecDepth 20000 in
theorem ggX8_list_X8_isOf : GoodIn wsX8_list wsX8_isOf := goodIn_r _ [6] (by decide +kernel) (by decide +kernel)
set_option maxRecDepth 20000 in
theorem gX8_list_X8_isOf : GoodIn wsX8_list (va_wsS RX8 34 yX8_isOf wsX8_isOf) := goodIn_app (goodIn_of _ (by decide +kernel)) ggX8_list_X8_isOf
set_option maxRecDepth 20000 in
theorem ggX8_list_X3_reach : GoodIn wsX8_list wsX3_reach := goodIn_r _ [11, 12, 13, 14, 15, 16, 10, 17, 18, 89, 90, 91, 92] (by decide +kernel) (by decide +kernel)
set_option maxRecDepth 20000 in
theorem gX8_list_X3_reach : GoodIn wsX8_list (wsV RX8 91 RX3 yX3_reach wsX3_reach) := goodIn_app (goodIn_of _ (by decide +kernel)) ggX8_list_X3_reach
set_option maxRecDepth 20000 in
theorem ggX8_list_X3_isFull : GoodIn wsX8_list wsX3_isFull := goodIn_r _ [22, 12, 18, 89, 90] (by decide +kernel) (by decide +kernel)
set_option maxRecDepth 20000 in
theorem gX8_list_X3_isFull : GoodIn wsX8_list (wsV RX8 95 RX3 yX3_isFull wsX3_isFull) := goodIn_app (goodIn_of _ (by decide +kernel)) ggX8_list_X3_isFull
set_option maxRecDepth 20000 in
theorem ggX8_list_X3_add : GoodIn wsX8_list wsX3_add := goodIn_r _ [26, 12, 18, 27, 28, 29, 30, 31, 32, 33, 34, 35, 36, 37, 38, 39, 40, 41, 42, 43, 44, 45, 46, 47, 48, 49, 50, 51, 52, 53, 54, 55, 56, 57, 58, 59, 60, 61, 62, 63, 64, 65, 66, 67, 68, 69, 70, 71, 72, 73, 74, 75, 76, 77, 78, 79, 80, 81, 82, 83, 84, 89, 90, 91, 92, 93, 94, 95, 96, 97, 98, 99, 100, 101, 102, 103, 104, 105] (by decide +kernel) (by decide +kernel)
set_option maxRecDepth 20000 in
theorem gX8_list_X3_add : GoodIn wsX8_list (wsV RX8 99 RX3 yX3_add wsX3_add) := goodIn_app (goodIn_of _ (by decide +kernel)) ggX8_list_X3_add
theorem dX8_list_0 : decode cX8_list 0 = .ok (.iload_n 1, 1) := by decide +kernel
theorem dX8_list_1 : decode cX8_list 1 = .ok (.sipush 3650, 3) := by decide +kernel
theorem dX8_list_4 : decode cX8_list 4 = .ok (.invokestatic 34, 3) := by decide +kernel
theorem dX8_list_7 : decode cX8_list 7 = .ok (.ifCond .ne 5, 3) := by decide +kernel
theorem dX8_list_10 : decode cX8_list 10 = .ok (.iconst (-1), 1) := by decide +kernel
theorem dX8_list_11 : decode cX8_list 11 = .ok (.ireturn, 1) := by decide +kernel
theorem dX8_list_12 : decode cX8_list 12 = .ok (.aload_n 0, 1) := by decide +kernel
theorem dX8_list_13 : decode cX8_list 13 = .ok (.getfield 19, 3) := by decide +kernel
theorem dX8_list_16 : decode cX8_list 16 = .ok (.iload_n 1, 1) := by decide +kernel
theorem dX8_list_17 : decode cX8_list 17 = .ok (.invokevirtual 91, 3) := by decide +kernel
theorem dX8_list_20 : decode cX8_list 20 = .ok (.ifCond .eq 6, 3) := by decide +kernel
theorem dX8_list_23 : decode cX8_list 23 = .ok (.bipush (-2), 2) := by decide +kernel
theorem dX8_list_25 : decode cX8_list 25 = .ok (.ireturn, 1) := by decide +kernel
theorem dX8_list_26 : decode cX8_list 26 = .ok (.aload_n 0, 1) := by decide +kernel
theorem dX8_list_27 : decode cX8_list 27 = .ok (.getfield 19, 3) := by decide +kernel
theorem dX8_list_30 : decode cX8_list 30 = .ok (.invokevirtual 95, 3) := by decide +kernel
theorem dX8_list_33 : decode cX8_list 33 = .ok (.ifCond .eq 8, 3) := by decide +kernel
theorem dX8_list_36 : decode cX8_list 36 = .ok (.bipush (-3), 2) := by decide +kernel
theorem dX8_list_38 : decode cX8_list 38 = .ok (.goto 15, 3) := by decide +kernel
theorem dX8_list_41 : decode cX8_list 41 = .ok (.aload_n 0, 1) := by decide +kernel
theorem dX8_list_42 : decode cX8_list 42 = .ok (.getfield 19, 3) := by decide +kernel
theorem dX8_list_45 : decode cX8_list 45 = .ok (.iload_n 1, 1) := by decide +kernel
theorem dX8_list_46 : decode cX8_list 46 = .ok (.aload_n 0, 1) := by decide +kernel
theorem dX8_list_47 : decode cX8_list 47 = .ok (.getfield 12, 3) := by decide +kernel
theorem dX8_list_50 : decode cX8_list 50 = .ok (.invokevirtual 99, 3) := by decide +kernel
theorem dX8_list_53 : decode cX8_list 53 = .ok (.ireturn, 1) := by decide +kernel
set_option maxRecDepth 20000 in
theorem ggX8_event_X5_at : GoodIn wsX8_event wsX5_at := goodIn_r _ [7, 8, 57, 58] (by decide +kernel) (by decide +kernel)
set_option maxRecDepth 20000 in
theorem gX8_event_X5_at : GoodIn wsX8_event (wsV RX8 47 RX5 yX5_at wsX5_at) := goodIn_app (goodIn_of _ (by decide +kernel)) ggX8_event_X5_at
set_option maxRecDepth 20000 in
theorem ggX8_event_X8_isOf : GoodIn wsX8_event wsX8_isOf := goodIn_r _ [12] (by decide +kernel) (by decide +kernel)
set_option maxRecDepth 20000 in
theorem gX8_event_X8_isOf : GoodIn wsX8_event (va_wsS RX8 34 yX8_isOf wsX8_isOf) := goodIn_app (goodIn_of _ (by decide +kernel)) ggX8_event_X8_isOf
set_option maxRecDepth 20000 in
theorem ggX8_event_X8_isEvent : GoodIn wsX8_event wsX8_isEvent := goodIn_r _ [15, 16, 17, 11, 18] (by decide +kernel) (by decide +kernel)
set_option maxRecDepth 20000 in
theorem gX8_event_X8_isEvent : GoodIn wsX8_event (va_wsS RX8 102 yX8_isEvent wsX8_isEvent) := goodIn_app (goodIn_of _ (by decide +kernel)) ggX8_event_X8_isEvent
set_option maxRecDepth 20000 in
theorem ggX8_event_X1_isFull : GoodIn wsX8_event wsX1_isFull := goodIn_r _ [23, 24, 25, 55, 56] (by decide +kernel) (by decide +kernel)
set_option maxRecDepth 20000 in
theorem gX8_event_X1_isFull : GoodIn wsX8_event (wsV RX8 109 RX1 yX1_isFull wsX1_isFull) := goodIn_app (goodIn_of _ (by decide +kernel)) ggX8_event_X1_isFull
set_option maxRecDepth 20000 in
theorem ggX8_event_X1_add : GoodIn wsX8_event wsX1_add := goodIn_r _ [29, 24, 25, 30, 31, 32, 33, 34, 35, 36, 37, 38, 39, 40, 41, 42, 43, 55, 56, 59, 60, 61, 62] (by decide +kernel) (by decide +kernel)
set_option maxRecDepth 20000 in
theorem gX8_event_X1_add : GoodIn wsX8_event (wsV RX8 112 RX1 yX1_add wsX1_add) := goodIn_app (goodIn_of _ (by decide +kernel)) ggX8_event_X1_add
theorem dX8_event_0 : decode cX8_event 0 = .ok (.aload_n 0, 1) := by decide +kernel
theorem dX8_event_1 : decode cX8_event 1 = .ok (.getfield 12, 3) := by decide +kernel
theorem dX8_event_4 : decode cX8_event 4 = .ok (.iload_n 1, 1) := by decide +kernel
theorem dX8_event_5 : decode cX8_event 5 = .ok (.invokevirtual 47, 3) := by decide +kernel
theorem dX8_event_8 : decode cX8_event 8 = .ok (.astore 5, 2) := by decide +kernel
theorem dX8_event_10 : decode cX8_event 10 = .ok (.aload 5, 2) := by decide +kernel
theorem dX8_event_12 : decode cX8_event 12 = .ok (.ifnull 22, 3) := by decide +kernel
theorem dX8_event_15 : decode cX8_event 15 = .ok (.iload_n 2, 1) := by decide +kernel
theorem dX8_event_16 : decode cX8_event 16 = .ok (.sipush 3650, 3) := by decide +kernel
theorem dX8_event_19 : decode cX8_event 19 = .ok (.invokestatic 34, 3) := by decide +kernel
theorem dX8_event_22 : decode cX8_event 22 = .ok (.ifCond .eq 12, 3) := by decide +kernel
theorem dX8_event_25 : decode cX8_event 25 = .ok (.iload_n 3, 1) := by decide +kernel
theorem dX8_event_26 : decode cX8_event 26 = .ok (.iload 4, 2) := by decide +kernel
theorem dX8_event_28 : decode cX8_event 28 = .ok (.invokestatic 102, 3) := by decide +kernel
theorem dX8_event_31 : decode cX8_event 31 = .ok (.ifCond .ne 5, 3) := by decide +kernel
theorem dX8_event_34 : decode cX8_event 34 = .ok (.iconst (-1), 1) := by decide +kernel
theorem dX8_event_35 : decode cX8_event 35 = .ok (.ireturn, 1) := by decide +kernel
theorem dX8_event_36 : decode cX8_event 36 = .ok (.aload 5, 2) := by decide +kernel
theorem dX8_event_38 : decode cX8_event 38 = .ok (.getfield 105, 3) := by decide +kernel
theorem dX8_event_41 : decode cX8_event 41 = .ok (.invokevirtual 109, 3) := by decide +kernel
theorem dX8_event_44 : decode cX8_event 44 = .ok (.ifCond .eq 6, 3) := by decide +kernel
theorem dX8_event_47 : decode cX8_event 47 = .ok (.bipush (-3), 2) := by decide +kernel
theorem dX8_event_49 : decode cX8_event 49 = .ok (.ireturn, 1) := by decide +kernel
theorem dX8_event_50 : decode cX8_event 50 = .ok (.aload 5, 2) := by decide +kernel
theorem dX8_event_52 : decode cX8_event 52 = .ok (.getfield 105, 3) := by decide +kernel
theorem dX8_event_55 : decode cX8_event 55 = .ok (.iload_n 2, 1) := by decide +kernel
theorem dX8_event_56 : decode cX8_event 56 = .ok (.iload_n 3, 1) := by decide +kernel
theorem dX8_event_57 : decode cX8_event 57 = .ok (.iload 4, 2) := by decide +kernel
theorem dX8_event_59 : decode cX8_event 59 = .ok (.invokevirtual 112, 3) := by decide +kernel
theorem dX8_event_62 : decode cX8_event 62 = .ok (.aload 5, 2) := by decide +kernel
theorem dX8_event_64 : decode cX8_event 64 = .ok (.getfield 105, 3) := by decide +kernel
theorem dX8_event_67 : decode cX8_event 67 = .ok (.getfield 115, 3) := by decide +kernel
theorem dX8_event_70 : decode cX8_event 70 = .ok (.ireturn, 1) := by decide +kernel
set_option maxRecDepth 20000 in
theorem ggX8_appeal_X5_at : GoodIn wsX8_appeal wsX5_at := goodIn_r _ [6, 7, 62, 63] (by decide +kernel) (by decide +kernel)
set_option maxRecDepth 20000 in
theorem gX8_appeal_X5_at : GoodIn wsX8_appeal (wsV RX8 47 RX5 yX5_at wsX5_at) := goodIn_app (goodIn_of _ (by decide +kernel)) ggX8_appeal_X5_at
set_option maxRecDepth 20000 in
theorem ggX8_appeal_X8_isOf : GoodIn wsX8_appeal wsX8_isOf := goodIn_r _ [11] (by decide +kernel) (by decide +kernel)
set_option maxRecDepth 20000 in
theorem gX8_appeal_X8_isOf : GoodIn wsX8_appeal (va_wsS RX8 34 yX8_isOf wsX8_isOf) := goodIn_app (goodIn_of _ (by decide +kernel)) ggX8_appeal_X8_isOf
set_option maxRecDepth 20000 in
theorem ggX8_appeal_X8_isEvent : GoodIn wsX8_appeal wsX8_isEvent := goodIn_r _ [14, 15, 16, 10, 17] (by decide +kernel) (by decide +kernel)
set_option maxRecDepth 20000 in
theorem gX8_appeal_X8_isEvent : GoodIn wsX8_appeal (va_wsS RX8 102 yX8_isEvent wsX8_isEvent) := goodIn_app (goodIn_of _ (by decide +kernel)) ggX8_appeal_X8_isEvent
set_option maxRecDepth 20000 in
theorem ggX8_appeal_X8_cutLike : GoodIn wsX8_appeal wsX8_cutLike := goodIn_r _ [21, 1, 22, 2, 3, 4, 5, 6, 7, 23, 24, 25, 26, 27, 28, 29, 30, 31, 32, 33, 34, 35, 36, 37, 38, 39, 40, 41, 42, 43, 44, 45, 46, 47, 48, 49, 50, 51, 52, 53, 54, 58, 59, 60, 61, 62, 63, 64, 65, 66, 67, 68, 69, 70, 71, 72, 73, 74, 75, 76] (by decide +kernel) (by decide +kernel)
set_option maxRecDepth 20000 in
theorem gX8_appeal_X8_cutLike : GoodIn wsX8_appeal (wsV RX8 118 RX8 yX8_cutLike wsX8_cutLike) := goodIn_app (goodIn_of _ (by decide +kernel)) ggX8_appeal_X8_cutLike
set_option maxRecDepth 20000 in
theorem ggX8_appeal_X8_cutOne : GoodIn wsX8_appeal wsX8_cutOne := goodIn_r _ [57, 22, 30, 31, 32, 33, 34, 35, 36, 37, 38, 39, 40, 41, 42, 43, 44, 45, 46, 47, 48, 49, 50, 51, 52, 53, 54, 64, 65, 66, 67, 68, 69, 70, 71, 72, 73, 74, 75, 76] (by decide +kernel) (by decide +kernel)
set_option maxRecDepth 20000 in
theorem gX8_appeal_X8_cutOne : GoodIn wsX8_appeal (va_wsS RX8 122 yX8_cutOne wsX8_cutOne) := goodIn_app (goodIn_of _ (by decide +kernel)) ggX8_appeal_X8_cutOne
theorem dX8_appeal_0 : decode cX8_appeal 0 = .ok (.aload_n 0, 1) := by decide +kernel
theorem dX8_appeal_1 : decode cX8_appeal 1 = .ok (.getfield 12, 3) := by decide +kernel
theorem dX8_appeal_4 : decode cX8_appeal 4 = .ok (.iload_n 1, 1) := by decide +kernel
theorem dX8_appeal_5 : decode cX8_appeal 5 = .ok (.invokevirtual 47, 3) := by decide +kernel
theorem dX8_appeal_8 : decode cX8_appeal 8 = .ok (.astore 5, 2) := by decide +kernel
theorem dX8_appeal_10 : decode cX8_appeal 10 = .ok (.aload 5, 2) := by decide +kernel
theorem dX8_appeal_12 : decode cX8_appeal 12 = .ok (.ifnull 21, 3) := by decide +kernel
theorem dX8_appeal_15 : decode cX8_appeal 15 = .ok (.iload_n 2, 1) := by decide +kernel
theorem dX8_appeal_16 : decode cX8_appeal 16 = .ok (.sipush 3650, 3) := by decide +kernel
theorem dX8_appeal_19 : decode cX8_appeal 19 = .ok (.invokestatic 34, 3) := by decide +kernel
theorem dX8_appeal_22 : decode cX8_appeal 22 = .ok (.ifCond .eq 11, 3) := by decide +kernel
theorem dX8_appeal_25 : decode cX8_appeal 25 = .ok (.iconst 2, 1) := by decide +kernel
theorem dX8_appeal_26 : decode cX8_appeal 26 = .ok (.iload_n 3, 1) := by decide +kernel
theorem dX8_appeal_27 : decode cX8_appeal 27 = .ok (.invokestatic 102, 3) := by decide +kernel
theorem dX8_appeal_30 : decode cX8_appeal 30 = .ok (.ifCond .ne 5, 3) := by decide +kernel
theorem dX8_appeal_33 : decode cX8_appeal 33 = .ok (.iconst (-1), 1) := by decide +kernel
theorem dX8_appeal_34 : decode cX8_appeal 34 = .ok (.ireturn, 1) := by decide +kernel
theorem dX8_appeal_35 : decode cX8_appeal 35 = .ok (.iload 4, 2) := by decide +kernel
theorem dX8_appeal_37 : decode cX8_appeal 37 = .ok (.ifCond .eq 14, 3) := by decide +kernel
theorem dX8_appeal_40 : decode cX8_appeal 40 = .ok (.aload_n 0, 1) := by decide +kernel
theorem dX8_appeal_41 : decode cX8_appeal 41 = .ok (.aload 5, 2) := by decide +kernel
theorem dX8_appeal_43 : decode cX8_appeal 43 = .ok (.iload_n 2, 1) := by decide +kernel
theorem dX8_appeal_44 : decode cX8_appeal 44 = .ok (.iload_n 3, 1) := by decide +kernel
theorem dX8_appeal_45 : decode cX8_appeal 45 = .ok (.invokevirtual 118, 3) := by decide +kernel
theorem dX8_appeal_48 : decode cX8_appeal 48 = .ok (.goto 10, 3) := by decide +kernel
theorem dX8_appeal_51 : decode cX8_appeal 51 = .ok (.aload 5, 2) := by decide +kernel
theorem dX8_appeal_53 : decode cX8_appeal 53 = .ok (.iload_n 2, 1) := by decide +kernel
theorem dX8_appeal_54 : decode cX8_appeal 54 = .ok (.iload_n 3, 1) := by decide +kernel
theorem dX8_appeal_55 : decode cX8_appeal 55 = .ok (.invokestatic 122, 3) := by decide +kernel
theorem dX8_appeal_58 : decode cX8_appeal 58 = .ok (.ireturn, 1) := by decide +kernel
set_option maxRecDepth 20000 in
theorem ggX8_strike_X5_at : GoodIn wsX8_strike wsX5_at := goodIn_r _ [7, 8, 30, 31] (by decide +kernel) (by decide +kernel)
set_option maxRecDepth 20000 in
theorem gX8_strike_X5_at : GoodIn wsX8_strike (wsV RX8 47 RX5 yX5_at wsX5_at) := goodIn_app (goodIn_of _ (by decide +kernel)) ggX8_strike_X5_at
set_option maxRecDepth 20000 in
theorem ggX8_strike_X1_dropLatestTold : GoodIn wsX8_strike wsX1_dropLatestTold := goodIn_r _ [13, 14, 15, 16, 28, 29, 32, 33, 34, 35] (by decide +kernel) (by decide +kernel)
set_option maxRecDepth 20000 in
theorem gX8_strike_X1_dropLatestTold : GoodIn wsX8_strike (wsV RX8 125 RX1 yX1_dropLatestTold wsX1_dropLatestTold) := goodIn_app (goodIn_of _ (by decide +kernel)) ggX8_strike_X1_dropLatestTold
theorem dX8_strike_0 : decode cX8_strike 0 = .ok (.aload_n 0, 1) := by decide +kernel
theorem dX8_strike_1 : decode cX8_strike 1 = .ok (.getfield 12, 3) := by decide +kernel
theorem dX8_strike_4 : decode cX8_strike 4 = .ok (.iload_n 1, 1) := by decide +kernel
theorem dX8_strike_5 : decode cX8_strike 5 = .ok (.invokevirtual 47, 3) := by decide +kernel
theorem dX8_strike_8 : decode cX8_strike 8 = .ok (.astore_n 2, 1) := by decide +kernel
theorem dX8_strike_9 : decode cX8_strike 9 = .ok (.aload_n 2, 1) := by decide +kernel
theorem dX8_strike_10 : decode cX8_strike 10 = .ok (.ifnonnull 5, 3) := by decide +kernel
theorem dX8_strike_13 : decode cX8_strike 13 = .ok (.iconst (-1), 1) := by decide +kernel
theorem dX8_strike_14 : decode cX8_strike 14 = .ok (.ireturn, 1) := by decide +kernel
theorem dX8_strike_15 : decode cX8_strike 15 = .ok (.aload_n 2, 1) := by decide +kernel
theorem dX8_strike_16 : decode cX8_strike 16 = .ok (.getfield 105, 3) := by decide +kernel
theorem dX8_strike_19 : decode cX8_strike 19 = .ok (.getfield 115, 3) := by decide +kernel
theorem dX8_strike_22 : decode cX8_strike 22 = .ok (.ifCond .ne 6, 3) := by decide +kernel
theorem dX8_strike_25 : decode cX8_strike 25 = .ok (.bipush (-2), 2) := by decide +kernel
theorem dX8_strike_27 : decode cX8_strike 27 = .ok (.ireturn, 1) := by decide +kernel
theorem dX8_strike_28 : decode cX8_strike 28 = .ok (.aload_n 2, 1) := by decide +kernel
theorem dX8_strike_29 : decode cX8_strike 29 = .ok (.getfield 105, 3) := by decide +kernel
theorem dX8_strike_32 : decode cX8_strike 32 = .ok (.invokevirtual 125, 3) := by decide +kernel
theorem dX8_strike_35 : decode cX8_strike 35 = .ok (.aload_n 2, 1) := by decide +kernel
theorem dX8_strike_36 : decode cX8_strike 36 = .ok (.getfield 105, 3) := by decide +kernel
theorem dX8_strike_39 : decode cX8_strike 39 = .ok (.getfield 115, 3) := by decide +kernel
theorem dX8_strike_42 : decode cX8_strike 42 = .ok (.ireturn, 1) := by decide +kernel
set_option maxRecDepth 20000 in
theorem ggX8_on_X5_at : GoodIn wsX8_on wsX5_at := goodIn_r _ [7, 8, 85, 86] (by decide +kernel) (by decide +kernel)
set_option maxRecDepth 20000 in
theorem gX8_on_X5_at : GoodIn wsX8_on (wsV RX8 47 RX5 yX5_at wsX5_at) := goodIn_app (goodIn_of _ (by decide +kernel)) ggX8_on_X5_at
set_option maxRecDepth 20000 in
theorem ggX8_on_X8_isOf : GoodIn wsX8_on wsX8_isOf := goodIn_r _ [12] (by decide +kernel) (by decide +kernel)
set_option maxRecDepth 20000 in
theorem gX8_on_X8_isOf : GoodIn wsX8_on (va_wsS RX8 34 yX8_isOf wsX8_isOf) := goodIn_app (goodIn_of _ (by decide +kernel)) ggX8_on_X8_isOf
set_option maxRecDepth 20000 in
theorem ggX8_on_X2_sizeOn : GoodIn wsX8_on wsX2_sizeOn := goodIn_r _ [17, 18, 19, 20, 21, 22, 23, 24, 25, 26, 27, 28, 87, 88, 89, 90, 91, 92, 93, 94, 95, 96, 97, 98, 99] (by decide +kernel) (by decide +kernel)
set_option maxRecDepth 20000 in
theorem gX8_on_X2_sizeOn : GoodIn wsX8_on (wsV RX8 128 RX2 yX2_sizeOn wsX2_sizeOn) := goodIn_app (goodIn_of _ (by decide +kernel)) ggX8_on_X2_sizeOn
set_option maxRecDepth 20000 in
theorem ggX8_on_X2_useOn : GoodIn wsX8_on wsX2_useOn := goodIn_r _ [32, 18, 20, 21, 22, 23, 24, 25, 26, 27, 28, 87, 88, 89, 90, 91, 92, 93, 94, 95, 96, 97, 98, 99] (by decide +kernel) (by decide +kernel)
set_option maxRecDepth 20000 in
theorem gX8_on_X2_useOn : GoodIn wsX8_on (wsV RX8 132 RX2 yX2_useOn wsX2_useOn) := goodIn_app (goodIn_of _ (by decide +kernel)) ggX8_on_X2_useOn
set_option maxRecDepth 20000 in
theorem ggX8_on_X8_worthOn : GoodIn wsX8_on wsX8_worthOn := goodIn_r _ [36, 2, 37, 38, 39, 40, 41, 42, 43, 44, 45, 46, 47, 48, 49, 50, 51, 52, 53, 54, 55, 56, 57, 13, 14, 15, 16, 17, 18, 19, 20, 21, 22, 23, 24, 25, 26, 27, 28, 58, 59, 60, 61, 62, 63, 64, 65, 66, 67, 68, 69, 70, 81, 82, 83, 84, 87, 88, 89, 90, 91, 92, 93, 100, 101, 102, 103, 94, 95, 96, 97, 98, 99, 104, 105, 106, 107] (by decide +kernel) (by decide +kernel)
set_option maxRecDepth 20000 in
theorem gX8_on_X8_worthOn : GoodIn wsX8_on (wsV RX8 135 RX8 yX8_worthOn wsX8_worthOn) := goodIn_app (goodIn_of _ (by decide +kernel)) ggX8_on_X8_worthOn
set_option maxRecDepth 20000 in
theorem ggX8_on_X8_countedOn : GoodIn wsX8_on wsX8_countedOn := goodIn_r _ [74, 39, 75, 76, 33, 34, 35, 11, 36, 2, 37, 38, 40, 41, 42, 43, 44, 45, 46, 47, 48, 49, 50, 51, 52, 53, 54, 55, 56, 57, 13, 14, 15, 16, 17, 18, 19, 20, 21, 22, 23, 24, 25, 26, 27, 28, 58, 59, 60, 61, 62, 63, 64, 65, 66, 67, 68, 69, 70, 77, 87, 88, 89, 90, 91, 92, 93, 94, 95, 96, 97, 81, 82, 83, 84, 100, 101, 102, 103, 98, 99, 104, 105, 106, 107] (by decide +kernel) (by decide +kernel)
set_option maxRecDepth 20000 in
theorem gX8_on_X8_countedOn : GoodIn wsX8_on (wsV RX8 139 RX8 yX8_countedOn wsX8_countedOn) := goodIn_app (goodIn_of _ (by decide +kernel)) ggX8_on_X8_countedOn
set_option maxRecDepth 20000 in
theorem ggX8_on_X8_relieved : GoodIn wsX8_on wsX8_relieved := goodIn_r _ [80] (by decide +kernel) (by decide +kernel)
set_option maxRecDepth 20000 in
theorem gX8_on_X8_relieved : GoodIn wsX8_on (va_wsS RX8 142 yX8_relieved wsX8_relieved) := goodIn_app (goodIn_of _ (by decide +kernel)) ggX8_on_X8_relieved
set_option maxRecDepth 20000 in
theorem ggX8_on_X3_standingOn : GoodIn wsX8_on wsX3_standingOn := goodIn_r _ [45, 46, 47, 102, 103, 100, 101] (by decide +kernel) (by decide +kernel)
set_option maxRecDepth 20000 in
theorem gX8_on_X3_standingOn : GoodIn wsX8_on (wsV RX8 145 RX3 yX3_standingOn wsX3_standingOn) := goodIn_app (goodIn_of _ (by decide +kernel)) ggX8_on_X3_standingOn
theorem dX8_on_0 : decode cX8_on 0 = .ok (.aload_n 0, 1) := by decide +kernel
theorem dX8_on_1 : decode cX8_on 1 = .ok (.getfield 12, 3) := by decide +kernel
theorem dX8_on_4 : decode cX8_on 4 = .ok (.iload_n 1, 1) := by decide +kernel
theorem dX8_on_5 : decode cX8_on 5 = .ok (.invokevirtual 47, 3) := by decide +kernel
theorem dX8_on_8 : decode cX8_on 8 = .ok (.astore 4, 2) := by decide +kernel
theorem dX8_on_10 : decode cX8_on 10 = .ok (.aload 4, 2) := by decide +kernel
theorem dX8_on_12 : decode cX8_on 12 = .ok (.ifnull 13, 3) := by decide +kernel
theorem dX8_on_15 : decode cX8_on 15 = .ok (.iload_n 2, 1) := by decide +kernel
theorem dX8_on_16 : decode cX8_on 16 = .ok (.sipush 3650, 3) := by decide +kernel
theorem dX8_on_19 : decode cX8_on 19 = .ok (.invokestatic 34, 3) := by decide +kernel
theorem dX8_on_22 : decode cX8_on 22 = .ok (.ifCond .ne 5, 3) := by decide +kernel
theorem dX8_on_25 : decode cX8_on 25 = .ok (.iconst (-1), 1) := by decide +kernel
theorem dX8_on_26 : decode cX8_on 26 = .ok (.ireturn, 1) := by decide +kernel
theorem dX8_on_27 : decode cX8_on 27 = .ok (.iload_n 3, 1) := by decide +kernel
theorem dX8_on_28 : decode cX8_on 28 = .ok (.tableswitch 90 0 5 #[40, 47, 54, 62, 70, 81], 40) := by decide +kernel
theorem dX8_on_68 : decode cX8_on 68 = .ok (.aload 4, 2) := by decide +kernel
theorem dX8_on_70 : decode cX8_on 70 = .ok (.iload_n 2, 1) := by decide +kernel
theorem dX8_on_71 : decode cX8_on 71 = .ok (.invokevirtual 128, 3) := by decide +kernel
theorem dX8_on_74 : decode cX8_on 74 = .ok (.ireturn, 1) := by decide +kernel
theorem dX8_on_75 : decode cX8_on 75 = .ok (.aload 4, 2) := by decide +kernel
theorem dX8_on_77 : decode cX8_on 77 = .ok (.iload_n 2, 1) := by decide +kernel
theorem dX8_on_78 : decode cX8_on 78 = .ok (.invokevirtual 132, 3) := by decide +kernel
theorem dX8_on_81 : decode cX8_on 81 = .ok (.ireturn, 1) := by decide +kernel
theorem dX8_on_82 : decode cX8_on 82 = .ok (.aload_n 0, 1) := by decide +kernel
theorem dX8_on_83 : decode cX8_on 83 = .ok (.aload 4, 2) := by decide +kernel
theorem dX8_on_85 : decode cX8_on 85 = .ok (.iload_n 2, 1) := by decide +kernel
theorem dX8_on_86 : decode cX8_on 86 = .ok (.invokevirtual 135, 3) := by decide +kernel
theorem dX8_on_89 : decode cX8_on 89 = .ok (.ireturn, 1) := by decide +kernel
theorem dX8_on_90 : decode cX8_on 90 = .ok (.aload_n 0, 1) := by decide +kernel
theorem dX8_on_91 : decode cX8_on 91 = .ok (.aload 4, 2) := by decide +kernel
theorem dX8_on_93 : decode cX8_on 93 = .ok (.iload_n 2, 1) := by decide +kernel
theorem dX8_on_94 : decode cX8_on 94 = .ok (.invokevirtual 139, 3) := by decide +kernel
theorem dX8_on_97 : decode cX8_on 97 = .ok (.ireturn, 1) := by decide +kernel
theorem dX8_on_98 : decode cX8_on 98 = .ok (.aload_n 0, 1) := by decide +kernel
theorem dX8_on_99 : decode cX8_on 99 = .ok (.aload 4, 2) := by decide +kernel
theorem dX8_on_101 : decode cX8_on 101 = .ok (.iload_n 2, 1) := by decide +kernel
theorem dX8_on_102 : decode cX8_on 102 = .ok (.invokevirtual 139, 3) := by decide +kernel
theorem dX8_on_105 : decode cX8_on 105 = .ok (.invokestatic 142, 3) := by decide +kernel
theorem dX8_on_108 : decode cX8_on 108 = .ok (.ireturn, 1) := by decide +kernel
theorem dX8_on_109 : decode cX8_on 109 = .ok (.aload_n 0, 1) := by decide +kernel
theorem dX8_on_110 : decode cX8_on 110 = .ok (.getfield 19, 3) := by decide +kernel
theorem dX8_on_113 : decode cX8_on 113 = .ok (.iload_n 2, 1) := by decide +kernel
theorem dX8_on_114 : decode cX8_on 114 = .ok (.invokevirtual 145, 3) := by decide +kernel
theorem dX8_on_117 : decode cX8_on 117 = .ok (.ireturn, 1) := by decide +kernel
theorem dX8_on_118 : decode cX8_on 118 = .ok (.iconst (-1), 1) := by decide +kernel
theorem dX8_on_119 : decode cX8_on 119 = .ok (.ireturn, 1) := by decide +kernel
set_option maxRecDepth 20000 in
theorem ggX8_year_X5_at : GoodIn wsX8_year wsX5_at := goodIn_r _ [7, 8, 96, 97] (by decide +kernel) (by decide +kernel)
set_option maxRecDepth 20000 in
theorem gX8_year_X5_at : GoodIn wsX8_year (wsV RX8 47 RX5 yX5_at wsX5_at) := goodIn_app (goodIn_of _ (by decide +kernel)) ggX8_year_X5_at
set_option maxRecDepth 20000 in
theorem ggX8_year_X8_isOf : GoodIn wsX8_year wsX8_isOf := goodIn_r _ [12] (by decide +kernel) (by decide +kernel)
set_option maxRecDepth 20000 in
theorem gX8_year_X8_isOf : GoodIn wsX8_year (va_wsS RX8 34 yX8_isOf wsX8_isOf) := goodIn_app (goodIn_of _ (by decide +kernel)) ggX8_year_X8_isOf
set_option maxRecDepth 20000 in
theorem ggX8_year_X8_sumOfYear : GoodIn wsX8_year wsX8_sumOfYear := goodIn_r _ [16, 17, 18, 19, 20, 21, 22, 23, 24, 25, 26, 11, 27, 28, 29, 30, 31, 32, 33, 34, 35, 36, 37, 38, 39, 40, 41, 42, 43, 44, 45, 46, 47, 48, 49, 50, 51, 52, 53, 54, 55, 56, 57, 58, 59, 60, 61, 62, 63, 64, 65, 66, 67, 68, 69, 70, 71, 72, 73, 74, 75, 76, 77, 78, 79, 80, 81, 82, 83, 84, 85, 86, 87, 88, 89, 90, 91, 92, 93, 94, 95, 98, 99, 100, 101, 102, 103, 104, 105, 106, 107, 108, 109, 110, 111, 112, 113, 114, 115, 116, 117, 118] (by decide +kernel) (by decide +kernel)
set_option maxRecDepth 20000 in
theorem gX8_year_X8_sumOfYear : GoodIn wsX8_year (wsV RX8 150 RX8 yX8_sumOfYear wsX8_sumOfYear) := goodIn_app (goodIn_of _ (by decide +kernel)) ggX8_year_X8_sumOfYear
theorem dX8_year_0 : decode cX8_year 0 = .ok (.aload_n 0, 1) := by decide +kernel
theorem dX8_year_1 : decode cX8_year 1 = .ok (.getfield 12, 3) := by decide +kernel
theorem dX8_year_4 : decode cX8_year 4 = .ok (.iload_n 1, 1) := by decide +kernel
theorem dX8_year_5 : decode cX8_year 5 = .ok (.invokevirtual 47, 3) := by decide +kernel
theorem dX8_year_8 : decode cX8_year 8 = .ok (.astore_n 3, 1) := by decide +kernel
theorem dX8_year_9 : decode cX8_year 9 = .ok (.aload_n 3, 1) := by decide +kernel
theorem dX8_year_10 : decode cX8_year 10 = .ok (.ifnull 12, 3) := by decide +kernel
theorem dX8_year_13 : decode cX8_year 13 = .ok (.iload_n 2, 1) := by decide +kernel
theorem dX8_year_14 : decode cX8_year 14 = .ok (.bipush 10, 2) := by decide +kernel
theorem dX8_year_16 : decode cX8_year 16 = .ok (.invokestatic 34, 3) := by decide +kernel
theorem dX8_year_19 : decode cX8_year 19 = .ok (.ifCond .ne 9, 3) := by decide +kernel
theorem dX8_year_22 : decode cX8_year 22 = .ok (.ldc2_w 148, 3) := by decide +kernel
theorem dX8_year_25 : decode cX8_year 25 = .ok (.goto 9, 3) := by decide +kernel
theorem dX8_year_28 : decode cX8_year 28 = .ok (.aload_n 0, 1) := by decide +kernel
theorem dX8_year_29 : decode cX8_year 29 = .ok (.aload_n 3, 1) := by decide +kernel
theorem dX8_year_30 : decode cX8_year 30 = .ok (.iload_n 2, 1) := by decide +kernel
theorem dX8_year_31 : decode cX8_year 31 = .ok (.invokevirtual 150, 3) := by decide +kernel
theorem dX8_year_34 : decode cX8_year 34 = .ok (.lreturn, 1) := by decide +kernel
set_option maxRecDepth 20000 in
theorem ggX8_bill_X5_at : GoodIn wsX8_bill wsX5_at := goodIn_r _ [6, 7, 102, 103] (by decide +kernel) (by decide +kernel)
set_option maxRecDepth 20000 in
theorem gX8_bill_X5_at : GoodIn wsX8_bill (wsV RX8 47 RX5 yX5_at wsX5_at) := goodIn_app (goodIn_of _ (by decide +kernel)) ggX8_bill_X5_at
set_option maxRecDepth 20000 in
theorem ggX8_bill_X8_isOf : GoodIn wsX8_bill wsX8_isOf := goodIn_r _ [11] (by decide +kernel) (by decide +kernel)
set_option maxRecDepth 20000 in
theorem gX8_bill_X8_isOf : GoodIn wsX8_bill (va_wsS RX8 34 yX8_isOf wsX8_isOf) := goodIn_app (goodIn_of _ (by decide +kernel)) ggX8_bill_X8_isOf
set_option maxRecDepth 20000 in
theorem ggX8_bill_X8_isWithin : GoodIn wsX8_bill wsX8_isWithin := goodIn_r _ [14] (by decide +kernel) (by decide +kernel)
set_option maxRecDepth 20000 in
theorem gX8_bill_X8_isWithin : GoodIn wsX8_bill (va_wsS RX8 38 yX8_isWithin wsX8_isWithin) := goodIn_app (goodIn_of _ (by decide +kernel)) ggX8_bill_X8_isWithin
set_option maxRecDepth 20000 in
theorem ggX8_bill_X8_sumOfYear : GoodIn wsX8_bill wsX8_sumOfYear := goodIn_r _ [18, 19, 20, 21, 22, 23, 24, 25, 26, 27, 28, 10, 29, 30, 31, 32, 33, 34, 35, 36, 37, 38, 39, 40, 41, 42, 43, 44, 45, 46, 47, 48, 49, 50, 51, 52, 53, 54, 55, 56, 57, 58, 59, 60, 61, 62, 63, 64, 65, 66, 67, 68, 69, 70, 71, 72, 73, 74, 75, 76, 77, 78, 79, 80, 81, 82, 83, 84, 85, 86, 87, 88, 89, 90, 91, 92, 93, 98, 99, 100, 101, 104, 105, 106, 107, 108, 109, 110, 111, 112, 113, 114, 115, 116, 117, 118, 119, 120, 121, 122, 123, 124] (by decide +kernel) (by decide +kernel)
set_option maxRecDepth 20000 in
theorem gX8_bill_X8_sumOfYear : GoodIn wsX8_bill (wsV RX8 150 RX8 yX8_sumOfYear wsX8_sumOfYear) := goodIn_app (goodIn_of _ (by decide +kernel)) ggX8_bill_X8_sumOfYear
set_option maxRecDepth 20000 in
theorem ggX8_bill_X8_billFor : GoodIn wsX8_bill wsX8_billFor := goodIn_r _ [96, 97] (by decide +kernel) (by decide +kernel)
set_option maxRecDepth 20000 in
theorem gX8_bill_X8_billFor : GoodIn wsX8_bill (va_wsS RX8 154 yX8_billFor wsX8_billFor) := goodIn_app (goodIn_of _ (by decide +kernel)) ggX8_bill_X8_billFor
theorem dX8_bill_0 : decode cX8_bill 0 = .ok (.aload_n 0, 1) := by decide +kernel
theorem dX8_bill_1 : decode cX8_bill 1 = .ok (.getfield 12, 3) := by decide +kernel
theorem dX8_bill_4 : decode cX8_bill 4 = .ok (.iload_n 1, 1) := by decide +kernel
theorem dX8_bill_5 : decode cX8_bill 5 = .ok (.invokevirtual 47, 3) := by decide +kernel
theorem dX8_bill_8 : decode cX8_bill 8 = .ok (.astore 4, 2) := by decide +kernel
theorem dX8_bill_10 : decode cX8_bill 10 = .ok (.aload 4, 2) := by decide +kernel
theorem dX8_bill_12 : decode cX8_bill 12 = .ok (.ifnull 23, 3) := by decide +kernel
theorem dX8_bill_15 : decode cX8_bill 15 = .ok (.iload_n 2, 1) := by decide +kernel
theorem dX8_bill_16 : decode cX8_bill 16 = .ok (.bipush 10, 2) := by decide +kernel
theorem dX8_bill_18 : decode cX8_bill 18 = .ok (.invokestatic 34, 3) := by decide +kernel
theorem dX8_bill_21 : decode cX8_bill 21 = .ok (.ifCond .eq 14, 3) := by decide +kernel
theorem dX8_bill_24 : decode cX8_bill 24 = .ok (.iload_n 3, 1) := by decide +kernel
theorem dX8_bill_25 : decode cX8_bill 25 = .ok (.iconst 0, 1) := by decide +kernel
theorem dX8_bill_26 : decode cX8_bill 26 = .ok (.sipush 3000, 3) := by decide +kernel
theorem dX8_bill_29 : decode cX8_bill 29 = .ok (.invokestatic 38, 3) := by decide +kernel
theorem dX8_bill_32 : decode cX8_bill 32 = .ok (.ifCond .ne 5, 3) := by decide +kernel
theorem dX8_bill_35 : decode cX8_bill 35 = .ok (.iconst (-1), 1) := by decide +kernel
theorem dX8_bill_36 : decode cX8_bill 36 = .ok (.ireturn, 1) := by decide +kernel
theorem dX8_bill_37 : decode cX8_bill 37 = .ok (.aload_n 0, 1) := by decide +kernel
theorem dX8_bill_38 : decode cX8_bill 38 = .ok (.aload 4, 2) := by decide +kernel
theorem dX8_bill_40 : decode cX8_bill 40 = .ok (.iload_n 2, 1) := by decide +kernel
theorem dX8_bill_41 : decode cX8_bill 41 = .ok (.invokevirtual 150, 3) := by decide +kernel
theorem dX8_bill_44 : decode cX8_bill 44 = .ok (.iload_n 3, 1) := by decide +kernel
theorem dX8_bill_45 : decode cX8_bill 45 = .ok (.invokestatic 154, 3) := by decide +kernel
theorem dX8_bill_48 : decode cX8_bill 48 = .ok (.ireturn, 1) := by decide +kernel
set_option maxRecDepth 20000 in
theorem ggX8_poundage_X8_isOf : GoodIn wsX8_poundage wsX8_isOf := goodIn_r _ [5] (by decide +kernel) (by decide +kernel)
set_option maxRecDepth 20000 in
theorem gX8_poundage_X8_isOf : GoodIn wsX8_poundage (va_wsS RX8 34 yX8_isOf wsX8_isOf) := goodIn_app (goodIn_of _ (by decide +kernel)) ggX8_poundage_X8_isOf
set_option maxRecDepth 20000 in
theorem ggX8_poundage_X8_isWithin : GoodIn wsX8_poundage wsX8_isWithin := goodIn_r _ [8] (by decide +kernel) (by decide +kernel)
set_option maxRecDepth 20000 in
theorem gX8_poundage_X8_isWithin : GoodIn wsX8_poundage (va_wsS RX8 38 yX8_isWithin wsX8_isWithin) := goodIn_app (goodIn_of _ (by decide +kernel)) ggX8_poundage_X8_isWithin
set_option maxRecDepth 20000 in
theorem ggX8_poundage_X8_readYearSums : GoodIn wsX8_poundage wsX8_readYearSums := goodIn_r _ [12, 13, 14, 15, 16, 17, 18, 19, 20, 21, 22, 23, 4, 24, 25, 26, 27, 28, 29, 30, 31, 32, 33, 34, 35, 36, 37, 38, 39, 40, 41, 42, 43, 44, 45, 46, 47, 48, 49, 50, 51, 52, 53, 54, 55, 56, 57, 58, 59, 60, 61, 62, 63, 64, 65, 66, 67, 68, 69, 70, 71, 72, 73, 74, 75, 76, 77, 78, 79, 80, 81, 82, 83, 84, 85, 86, 87, 88, 89, 90, 91, 92, 93, 94, 95, 96, 97, 98, 99, 112, 113, 114, 115, 116, 117, 118, 119, 120, 121, 122, 123, 124, 125, 126, 127, 128, 129, 130, 131, 132, 133, 134, 135, 136, 137, 138] (by decide +kernel) (by decide +kernel)
set_option maxRecDepth 20000 in
theorem gX8_poundage_X8_readYearSums : GoodIn wsX8_poundage (wsV RX8 159 RX8 yX8_readYearSums wsX8_readYearSums) := goodIn_app (goodIn_of _ (by decide +kernel)) ggX8_poundage_X8_readYearSums
set_option maxRecDepth 20000 in
theorem ggX8_poundage_X8_leastPoundage : GoodIn wsX8_poundage wsX8_leastPoundage := goodIn_r _ [103, 104, 105, 106, 4, 107, 13, 108, 109, 110, 111, 112, 113, 114, 115] (by decide +kernel) (by decide +kernel)
set_option maxRecDepth 20000 in
theorem gX8_poundage_X8_leastPoundage : GoodIn wsX8_poundage (wsV RX8 163 RX8 yX8_leastPoundage wsX8_leastPoundage) := goodIn_app (goodIn_of _ (by decide +kernel)) ggX8_poundage_X8_leastPoundage
theorem dX8_poundage_0 : decode cX8_poundage 0 = .ok (.iload_n 1, 1) := by decide +kernel
theorem dX8_poundage_1 : decode cX8_poundage 1 = .ok (.bipush 10, 2) := by decide +kernel
theorem dX8_poundage_3 : decode cX8_poundage 3 = .ok (.invokestatic 34, 3) := by decide +kernel
theorem dX8_poundage_6 : decode cX8_poundage 6 = .ok (.ifCond .eq 13, 3) := by decide +kernel
theorem dX8_poundage_9 : decode cX8_poundage 9 = .ok (.iload_n 2, 1) := by decide +kernel
theorem dX8_poundage_10 : decode cX8_poundage 10 = .ok (.iconst 0, 1) := by decide +kernel
theorem dX8_poundage_11 : decode cX8_poundage 11 = .ok (.ldc 158, 2) := by decide +kernel
theorem dX8_poundage_13 : decode cX8_poundage 13 = .ok (.invokestatic 38, 3) := by decide +kernel
theorem dX8_poundage_16 : decode cX8_poundage 16 = .ok (.ifCond .ne 5, 3) := by decide +kernel
theorem dX8_poundage_19 : decode cX8_poundage 19 = .ok (.iconst (-1), 1) := by decide +kernel
theorem dX8_poundage_20 : decode cX8_poundage 20 = .ok (.ireturn, 1) := by decide +kernel
theorem dX8_poundage_21 : decode cX8_poundage 21 = .ok (.aload_n 0, 1) := by decide +kernel
theorem dX8_poundage_22 : decode cX8_poundage 22 = .ok (.iload_n 1, 1) := by decide +kernel
theorem dX8_poundage_23 : decode cX8_poundage 23 = .ok (.invokevirtual 159, 3) := by decide +kernel
theorem dX8_poundage_26 : decode cX8_poundage 26 = .ok (.aload_n 0, 1) := by decide +kernel
theorem dX8_poundage_27 : decode cX8_poundage 27 = .ok (.iload_n 2, 1) := by decide +kernel
theorem dX8_poundage_28 : decode cX8_poundage 28 = .ok (.invokevirtual 163, 3) := by decide +kernel
theorem dX8_poundage_31 : decode cX8_poundage 31 = .ok (.ireturn, 1) := by decide +kernel
set_option maxRecDepth 20000 in
theorem ggX8_struck_X8_bookOf : GoodIn wsX8_struck wsX8_bookOf := goodIn_r _ [11, 12, 128, 129, 130, 131] (by decide +kernel) (by decide +kernel)
set_option maxRecDepth 20000 in
theorem gX8_struck_X8_bookOf : GoodIn wsX8_struck (wsV RX8 166 RX8 yX8_bookOf wsX8_bookOf) := goodIn_app (goodIn_of _ (by decide +kernel)) ggX8_struck_X8_bookOf
set_option maxRecDepth 20000 in
theorem ggX8_struck_X8_isWithin : GoodIn wsX8_struck wsX8_isWithin := goodIn_r _ [15] (by decide +kernel) (by decide +kernel)
set_option maxRecDepth 20000 in
theorem gX8_struck_X8_isWithin : GoodIn wsX8_struck (va_wsS RX8 38 yX8_isWithin wsX8_isWithin) := goodIn_app (goodIn_of _ (by decide +kernel)) ggX8_struck_X8_isWithin
set_option maxRecDepth 20000 in
theorem ggX8_struck_X8_readYearSums : GoodIn wsX8_struck wsX8_readYearSums := goodIn_r _ [19, 6, 5, 20, 21, 22, 23, 24, 25, 26, 27, 28, 10, 29, 30, 31, 32, 33, 34, 35, 36, 37, 38, 39, 40, 41, 42, 43, 44, 45, 46, 47, 48, 49, 50, 51, 52, 53, 54, 55, 56, 57, 58, 59, 60, 61, 62, 63, 64, 65, 66, 67, 68, 69, 70, 71, 72, 73, 74, 75, 76, 77, 78, 79, 80, 81, 82, 83, 84, 85, 86, 87, 88, 89, 90, 91, 92, 93, 94, 95, 96, 97, 98, 99, 100, 101, 102, 103, 104, 128, 129, 130, 131, 132, 133, 134, 135, 136, 137, 138, 139, 140, 141, 142, 143, 144, 145, 146, 147, 148, 149, 150, 151, 152, 153, 154] (by decide +kernel) (by decide +kernel)
set_option maxRecDepth 20000 in
theorem gX8_struck_X8_readYearSums : GoodIn wsX8_struck (wsV RX8 159 RX8 yX8_readYearSums wsX8_readYearSums) := goodIn_app (goodIn_of _ (by decide +kernel)) ggX8_struck_X8_readYearSums
set_option maxRecDepth 20000 in
theorem ggX8_struck_X8_leastPoundage : GoodIn wsX8_struck wsX8_leastPoundage := goodIn_r _ [108, 109, 110, 111, 10, 112, 6, 113, 114, 115, 116, 128, 129, 130, 131] (by decide +kernel) (by decide +kernel)
set_option maxRecDepth 20000 in
theorem gX8_struck_X8_leastPoundage : GoodIn wsX8_struck (wsV RX8 163 RX8 yX8_leastPoundage wsX8_leastPoundage) := goodIn_app (goodIn_of _ (by decide +kernel)) ggX8_struck_X8_leastPoundage
set_option maxRecDepth 20000 in
theorem ggX8_struck_X8_billFor : GoodIn wsX8_struck wsX8_billFor := goodIn_r _ [115, 116] (by decide +kernel) (by decide +kernel)
set_option maxRecDepth 20000 in
theorem gX8_struck_X8_billFor : GoodIn wsX8_struck (va_wsS RX8 154 yX8_billFor wsX8_billFor) := goodIn_app (goodIn_of _ (by decide +kernel)) ggX8_struck_X8_billFor
set_option maxRecDepth 20000 in
theorem ggX8_struck_X7_putBilled : GoodIn wsX8_struck wsX7_putBilled := goodIn_r _ [121, 122, 123, 124, 125, 126, 127] (by decide +kernel) (by decide +kernel)
set_option maxRecDepth 20000 in
theorem gX8_struck_X7_putBilled : GoodIn wsX8_struck (wsV RX8 181 RX7 yX7_putBilled wsX7_putBilled) := goodIn_app (goodIn_of _ (by decide +kernel)) ggX8_struck_X7_putBilled
theorem dX8_struck_0 : decode cX8_struck 0 = .ok (.aload_n 0, 1) := by decide +kernel
theorem dX8_struck_1 : decode cX8_struck 1 = .ok (.iload_n 1, 1) := by decide +kernel
theorem dX8_struck_2 : decode cX8_struck 2 = .ok (.invokevirtual 166, 3) := by decide +kernel
theorem dX8_struck_5 : decode cX8_struck 5 = .ok (.astore_n 3, 1) := by decide +kernel
theorem dX8_struck_6 : decode cX8_struck 6 = .ok (.aload_n 3, 1) := by decide +kernel
theorem dX8_struck_7 : decode cX8_struck 7 = .ok (.ifnull 13, 3) := by decide +kernel
theorem dX8_struck_10 : decode cX8_struck 10 = .ok (.iload_n 2, 1) := by decide +kernel
theorem dX8_struck_11 : decode cX8_struck 11 = .ok (.iconst 0, 1) := by decide +kernel
theorem dX8_struck_12 : decode cX8_struck 12 = .ok (.ldc 158, 2) := by decide +kernel
theorem dX8_struck_14 : decode cX8_struck 14 = .ok (.invokestatic 38, 3) := by decide +kernel
theorem dX8_struck_17 : decode cX8_struck 17 = .ok (.ifCond .ne 5, 3) := by decide +kernel
theorem dX8_struck_20 : decode cX8_struck 20 = .ok (.iconst (-1), 1) := by decide +kernel
theorem dX8_struck_21 : decode cX8_struck 21 = .ok (.ireturn, 1) := by decide +kernel
theorem dX8_struck_22 : decode cX8_struck 22 = .ok (.aload_n 0, 1) := by decide +kernel
theorem dX8_struck_23 : decode cX8_struck 23 = .ok (.iload_n 1, 1) := by decide +kernel
theorem dX8_struck_24 : decode cX8_struck 24 = .ok (.invokevirtual 159, 3) := by decide +kernel
theorem dX8_struck_27 : decode cX8_struck 27 = .ok (.aload_n 0, 1) := by decide +kernel
theorem dX8_struck_28 : decode cX8_struck 28 = .ok (.iload_n 2, 1) := by decide +kernel
theorem dX8_struck_29 : decode cX8_struck 29 = .ok (.invokevirtual 163, 3) := by decide +kernel
theorem dX8_struck_32 : decode cX8_struck 32 = .ok (.istore 4, 2) := by decide +kernel
theorem dX8_struck_34 : decode cX8_struck 34 = .ok (.iload 4, 2) := by decide +kernel
theorem dX8_struck_36 : decode cX8_struck 36 = .ok (.bipush (-4), 2) := by decide +kernel
theorem dX8_struck_38 : decode cX8_struck 38 = .ok (.if_icmp .ne 6, 3) := by decide +kernel
theorem dX8_struck_41 : decode cX8_struck 41 = .ok (.bipush (-2), 2) := by decide +kernel
theorem dX8_struck_43 : decode cX8_struck 43 = .ok (.ireturn, 1) := by decide +kernel
theorem dX8_struck_44 : decode cX8_struck 44 = .ok (.aload_n 3, 1) := by decide +kernel
theorem dX8_struck_45 : decode cX8_struck 45 = .ok (.iconst 1, 1) := by decide +kernel
theorem dX8_struck_46 : decode cX8_struck 46 = .ok (.putfield 170, 3) := by decide +kernel
theorem dX8_struck_49 : decode cX8_struck 49 = .ok (.aload_n 3, 1) := by decide +kernel
theorem dX8_struck_50 : decode cX8_struck 50 = .ok (.iload_n 2, 1) := by decide +kernel
theorem dX8_struck_51 : decode cX8_struck 51 = .ok (.putfield 174, 3) := by decide +kernel
theorem dX8_struck_54 : decode cX8_struck 54 = .ok (.aload_n 3, 1) := by decide +kernel
theorem dX8_struck_55 : decode cX8_struck 55 = .ok (.iload 4, 2) := by decide +kernel
theorem dX8_struck_57 : decode cX8_struck 57 = .ok (.putfield 177, 3) := by decide +kernel
theorem dX8_struck_60 : decode cX8_struck 60 = .ok (.iconst 0, 1) := by decide +kernel
theorem dX8_struck_61 : decode cX8_struck 61 = .ok (.istore 5, 2) := by decide +kernel
theorem dX8_struck_63 : decode cX8_struck 63 = .ok (.iload 5, 2) := by decide +kernel
theorem dX8_struck_65 : decode cX8_struck 65 = .ok (.aload_n 0, 1) := by decide +kernel
theorem dX8_struck_66 : decode cX8_struck 66 = .ok (.getfield 12, 3) := by decide +kernel
theorem dX8_struck_69 : decode cX8_struck 69 = .ok (.getfield 180, 3) := by decide +kernel
theorem dX8_struck_72 : decode cX8_struck 72 = .ok (.if_icmp .ge 37, 3) := by decide +kernel
theorem dX8_struck_75 : decode cX8_struck 75 = .ok (.iload 5, 2) := by decide +kernel
theorem dX8_struck_77 : decode cX8_struck 77 = .ok (.aload_n 0, 1) := by decide +kernel
theorem dX8_struck_78 : decode cX8_struck 78 = .ok (.getfield 23, 3) := by decide +kernel
theorem dX8_struck_81 : decode cX8_struck 81 = .ok (.arraylength, 1) := by decide +kernel
theorem dX8_struck_82 : decode cX8_struck 82 = .ok (.if_icmp .ge 27, 3) := by decide +kernel
theorem dX8_struck_85 : decode cX8_struck 85 = .ok (.aload_n 3, 1) := by decide +kernel
theorem dX8_struck_86 : decode cX8_struck 86 = .ok (.iload 5, 2) := by decide +kernel
theorem dX8_struck_88 : decode cX8_struck 88 = .ok (.aload_n 0, 1) := by decide +kernel
theorem dX8_struck_89 : decode cX8_struck 89 = .ok (.getfield 23, 3) := by decide +kernel
theorem dX8_struck_92 : decode cX8_struck 92 = .ok (.iload 5, 2) := by decide +kernel
theorem dX8_struck_94 : decode cX8_struck 94 = .ok (.laload, 1) := by decide +kernel
theorem dX8_struck_95 : decode cX8_struck 95 = .ok (.iload 4, 2) := by decide +kernel
theorem dX8_struck_97 : decode cX8_struck 97 = .ok (.invokestatic 154, 3) := by decide +kernel
theorem dX8_struck_100 : decode cX8_struck 100 = .ok (.invokevirtual 181, 3) := by decide +kernel
theorem dX8_struck_103 : decode cX8_struck 103 = .ok (.iinc 5 1, 3) := by decide +kernel
theorem dX8_struck_106 : decode cX8_struck 106 = .ok (.goto (-43), 3) := by decide +kernel
theorem dX8_struck_109 : decode cX8_struck 109 = .ok (.iload 4, 2) := by decide +kernel
theorem dX8_struck_111 : decode cX8_struck 111 = .ok (.ireturn, 1) := by decide +kernel
