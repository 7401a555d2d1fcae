theorem dX4_unitFor_0 : decode cX4_unitFor 0 = .ok (.iload_n 1, 1) := by decide +kernel
theorem dX4_unitFor_1 : decode cX4_unitFor 1 = .ok (.bipush 6, 2) := by decide +kernel
theorem dX4_unitFor_3 : decode cX4_unitFor 3 = .ok (.imul, 1) := by decide +kernel
theorem dX4_unitFor_4 : decode cX4_unitFor 4 = .ok (.iload_n 2, 1) := by decide +kernel
theorem dX4_unitFor_5 : decode cX4_unitFor 5 = .ok (.iadd, 1) := by decide +kernel
theorem dX4_unitFor_6 : decode cX4_unitFor 6 = .ok (.istore_n 3, 1) := by decide +kernel
theorem dX4_unitFor_7 : decode cX4_unitFor 7 = .ok (.iload_n 3, 1) := by decide +kernel
theorem dX4_unitFor_8 : decode cX4_unitFor 8 = .ok (.ifCond .lt 21, 3) := by decide +kernel
theorem dX4_unitFor_11 : decode cX4_unitFor 11 = .ok (.iload_n 3, 1) := by decide +kernel
theorem dX4_unitFor_12 : decode cX4_unitFor 12 = .ok (.aload_n 0, 1) := by decide +kernel
theorem dX4_unitFor_13 : decode cX4_unitFor 13 = .ok (.getfield 17, 3) := by decide +kernel
theorem dX4_unitFor_16 : decode cX4_unitFor 16 = .ok (.arraylength, 1) := by decide +kernel
theorem dX4_unitFor_17 : decode cX4_unitFor 17 = .ok (.if_icmp .ge 12, 3) := by decide +kernel
theorem dX4_unitFor_20 : decode cX4_unitFor 20 = .ok (.aload_n 0, 1) := by decide +kernel
theorem dX4_unitFor_21 : decode cX4_unitFor 21 = .ok (.getfield 17, 3) := by decide +kernel
theorem dX4_unitFor_24 : decode cX4_unitFor 24 = .ok (.iload_n 3, 1) := by decide +kernel
theorem dX4_unitFor_25 : decode cX4_unitFor 25 = .ok (.aaload, 1) := by decide +kernel
theorem dX4_unitFor_26 : decode cX4_unitFor 26 = .ok (.goto 4, 3) := by decide +kernel
theorem dX4_unitFor_29 : decode cX4_unitFor 29 = .ok (.aconst_null, 1) := by decide +kernel
theorem dX4_unitFor_30 : decode cX4_unitFor 30 = .ok (.areturn, 1) := by decide +kernel
theorem dX5_init_0 : decode cX5_init 0 = .ok (.aload_n 0, 1) := by decide +kernel
theorem dX5_init_1 : decode cX5_init 1 = .ok (.invokespecial 3, 3) := by decide +kernel
theorem dX5_init_4 : decode cX5_init 4 = .ok (.aload_n 0, 1) := by decide +kernel
theorem dX5_init_5 : decode cX5_init 5 = .ok (.bipush 40, 2) := by decide +kernel
theorem dX5_init_7 : decode cX5_init 7 = .ok (.anewarray 9, 3) := by decide +kernel
theorem dX5_init_10 : decode cX5_init 10 = .ok (.putfield 11, 3) := by decide +kernel
theorem dX5_init_13 : decode cX5_init 13 = .ok (.return_, 1) := by decide +kernel
theorem dX5_at_0 : decode cX5_at 0 = .ok (.iload_n 1, 1) := by decide +kernel
theorem dX5_at_1 : decode cX5_at 1 = .ok (.ifCond .lt 21, 3) := by decide +kernel
theorem dX5_at_4 : decode cX5_at 4 = .ok (.iload_n 1, 1) := by decide +kernel
theorem dX5_at_5 : decode cX5_at 5 = .ok (.aload_n 0, 1) := by decide +kernel
theorem dX5_at_6 : decode cX5_at 6 = .ok (.getfield 11, 3) := by decide +kernel
theorem dX5_at_9 : decode cX5_at 9 = .ok (.arraylength, 1) := by decide +kernel
theorem dX5_at_10 : decode cX5_at 10 = .ok (.if_icmp .ge 12, 3) := by decide +kernel
theorem dX5_at_13 : decode cX5_at 13 = .ok (.aload_n 0, 1) := by decide +kernel
theorem dX5_at_14 : decode cX5_at 14 = .ok (.getfield 11, 3) := by decide +kernel
theorem dX5_at_17 : decode cX5_at 17 = .ok (.iload_n 1, 1) := by decide +kernel
theorem dX5_at_18 : decode cX5_at 18 = .ok (.aaload, 1) := by decide +kernel
theorem dX5_at_19 : decode cX5_at 19 = .ok (.goto 4, 3) := by decide +kernel
theorem dX5_at_22 : decode cX5_at 22 = .ok (.aconst_null, 1) := by decide +kernel
theorem dX5_at_23 : decode cX5_at 23 = .ok (.areturn, 1) := by decide +kernel
set_option maxRecDepth 20000 in
theorem ggX5_add_X2_init : GoodIn wsX5_add wsX2_init := goodIn_r _ [8, 9, 10, 11, 12, 13, 14, 15, 16, 17, 18, 19, 20, 21, 22, 23, 24, 25, 26, 27, 30, 31, 32, 33, 34, 35, 36, 37, 38] (by decide +kernel) (by decide +kernel)
set_option maxRecDepth 20000 in
theorem gX5_add_X2_init : GoodIn wsX5_add (wsX2_init) := ggX5_add_X2_init
theorem dX5_add_0 : decode cX5_add 0 = .ok (.aload_n 0, 1) := by decide +kernel
theorem dX5_add_1 : decode cX5_add 1 = .ok (.getfield 17, 3) := by decide +kernel
theorem dX5_add_4 : decode cX5_add 4 = .ok (.istore 6, 2) := by decide +kernel
theorem dX5_add_6 : decode cX5_add 6 = .ok (.iload 6, 2) := by decide +kernel
theorem dX5_add_8 : decode cX5_add 8 = .ok (.ifCond .lt 13, 3) := by decide +kernel
theorem dX5_add_11 : decode cX5_add 11 = .ok (.iload 6, 2) := by decide +kernel
theorem dX5_add_13 : decode cX5_add 13 = .ok (.aload_n 0, 1) := by decide +kernel
theorem dX5_add_14 : decode cX5_add 14 = .ok (.getfield 11, 3) := by decide +kernel
theorem dX5_add_17 : decode cX5_add 17 = .ok (.arraylength, 1) := by decide +kernel
theorem dX5_add_18 : decode cX5_add 18 = .ok (.if_icmp .lt 6, 3) := by decide +kernel
theorem dX5_add_21 : decode cX5_add 21 = .ok (.bipush (-3), 2) := by decide +kernel
theorem dX5_add_23 : decode cX5_add 23 = .ok (.ireturn, 1) := by decide +kernel
theorem dX5_add_24 : decode cX5_add 24 = .ok (.aload_n 0, 1) := by decide +kernel
theorem dX5_add_25 : decode cX5_add 25 = .ok (.getfield 11, 3) := by decide +kernel
theorem dX5_add_28 : decode cX5_add 28 = .ok (.iload 6, 2) := by decide +kernel
theorem dX5_add_30 : decode cX5_add 30 = .ok (.new 9, 3) := by decide +kernel
theorem dX5_add_33 : decode cX5_add 33 = .ok (.dup, 1) := by decide +kernel
theorem dX5_add_34 : decode cX5_add 34 = .ok (.iload 6, 2) := by decide +kernel
theorem dX5_add_36 : decode cX5_add 36 = .ok (.iload_n 1, 1) := by decide +kernel
theorem dX5_add_37 : decode cX5_add 37 = .ok (.iload_n 2, 1) := by decide +kernel
theorem dX5_add_38 : decode cX5_add 38 = .ok (.iload_n 3, 1) := by decide +kernel
theorem dX5_add_39 : decode cX5_add 39 = .ok (.iload 4, 2) := by decide +kernel
theorem dX5_add_41 : decode cX5_add 41 = .ok (.iload 5, 2) := by decide +kernel
theorem dX5_add_43 : decode cX5_add 43 = .ok (.invokespecial 21, 3) := by decide +kernel
theorem dX5_add_46 : decode cX5_add 46 = .ok (.aastore, 1) := by decide +kernel
theorem dX5_add_47 : decode cX5_add 47 = .ok (.aload_n 0, 1) := by decide +kernel
theorem dX5_add_48 : decode cX5_add 48 = .ok (.dup, 1) := by decide +kernel
theorem dX5_add_49 : decode cX5_add 49 = .ok (.getfield 17, 3) := by decide +kernel
theorem dX5_add_52 : decode cX5_add 52 = .ok (.iconst 1, 1) := by decide +kernel
theorem dX5_add_53 : decode cX5_add 53 = .ok (.iadd, 1) := by decide +kernel
theorem dX5_add_54 : decode cX5_add 54 = .ok (.putfield 17, 3) := by decide +kernel
theorem dX5_add_57 : decode cX5_add 57 = .ok (.iload 6, 2) := by decide +kernel
theorem dX5_add_59 : decode cX5_add 59 = .ok (.ireturn, 1) := by decide +kernel
set_option maxRecDepth 20000 in
theorem ggX5_isIn_X5_at : GoodIn wsX5_isIn wsX5_at := goodIn_r _ [6, 7, 15, 16] (by decide +kernel) (by decide +kernel)
set_option maxRecDepth 20000 in
theorem gX5_isIn_X5_at : GoodIn wsX5_isIn (wsV RX5 24 RX5 yX5_at wsX5_at) := goodIn_app (goodIn_of _ (by decide +kernel)) ggX5_isIn_X5_at
theorem dX5_isIn_0 : decode cX5_isIn 0 = .ok (.aload_n 0, 1) := by decide +kernel
theorem dX5_isIn_1 : decode cX5_isIn 1 = .ok (.iload_n 1, 1) := by decide +kernel
theorem dX5_isIn_2 : decode cX5_isIn 2 = .ok (.invokevirtual 24, 3) := by decide +kernel
theorem dX5_isIn_5 : decode cX5_isIn 5 = .ok (.astore_n 3, 1) := by decide +kernel
theorem dX5_isIn_6 : decode cX5_isIn 6 = .ok (.aload_n 3, 1) := by decide +kernel
theorem dX5_isIn_7 : decode cX5_isIn 7 = .ok (.ifnull 20, 3) := by decide +kernel
theorem dX5_isIn_10 : decode cX5_isIn 10 = .ok (.iload_n 2, 1) := by decide +kernel
theorem dX5_isIn_11 : decode cX5_isIn 11 = .ok (.iconst (-1), 1) := by decide +kernel
theorem dX5_isIn_12 : decode cX5_isIn 12 = .ok (.if_icmp .eq 11, 3) := by decide +kernel
theorem dX5_isIn_15 : decode cX5_isIn 15 = .ok (.aload_n 3, 1) := by decide +kernel
theorem dX5_isIn_16 : decode cX5_isIn 16 = .ok (.getfield 28, 3) := by decide +kernel
theorem dX5_isIn_19 : decode cX5_isIn 19 = .ok (.iload_n 2, 1) := by decide +kernel
theorem dX5_isIn_20 : decode cX5_isIn 20 = .ok (.if_icmp .ne 7, 3) := by decide +kernel
theorem dX5_isIn_23 : decode cX5_isIn 23 = .ok (.iconst 1, 1) := by decide +kernel
theorem dX5_isIn_24 : decode cX5_isIn 24 = .ok (.goto 4, 3) := by decide +kernel
theorem dX5_isIn_27 : decode cX5_isIn 27 = .ok (.iconst 0, 1) := by decide +kernel
theorem dX5_isIn_28 : decode cX5_isIn 28 = .ok (.ireturn, 1) := by decide +kernel
theorem dX5_eventsTold_0 : decode cX5_eventsTold 0 = .ok (.iconst 0, 1) := by decide +kernel
theorem dX5_eventsTold_1 : decode cX5_eventsTold 1 = .ok (.istore_n 1, 1) := by decide +kernel
theorem dX5_eventsTold_2 : decode cX5_eventsTold 2 = .ok (.iconst 0, 1) := by decide +kernel
theorem dX5_eventsTold_3 : decode cX5_eventsTold 3 = .ok (.istore_n 2, 1) := by decide +kernel
theorem dX5_eventsTold_4 : decode cX5_eventsTold 4 = .ok (.iload_n 2, 1) := by decide +kernel
theorem dX5_eventsTold_5 : decode cX5_eventsTold 5 = .ok (.aload_n 0, 1) := by decide +kernel
theorem dX5_eventsTold_6 : decode cX5_eventsTold 6 = .ok (.getfield 11, 3) := by decide +kernel
theorem dX5_eventsTold_9 : decode cX5_eventsTold 9 = .ok (.arraylength, 1) := by decide +kernel
theorem dX5_eventsTold_10 : decode cX5_eventsTold 10 = .ok (.if_icmp .ge 34, 3) := by decide +kernel
theorem dX5_eventsTold_13 : decode cX5_eventsTold 13 = .ok (.aload_n 0, 1) := by decide +kernel
theorem dX5_eventsTold_14 : decode cX5_eventsTold 14 = .ok (.getfield 11, 3) := by decide +kernel
theorem dX5_eventsTold_17 : decode cX5_eventsTold 17 = .ok (.iload_n 2, 1) := by decide +kernel
theorem dX5_eventsTold_18 : decode cX5_eventsTold 18 = .ok (.aaload, 1) := by decide +kernel
theorem dX5_eventsTold_19 : decode cX5_eventsTold 19 = .ok (.astore_n 3, 1) := by decide +kernel
theorem dX5_eventsTold_20 : decode cX5_eventsTold 20 = .ok (.iload_n 1, 1) := by decide +kernel
theorem dX5_eventsTold_21 : decode cX5_eventsTold 21 = .ok (.aload_n 3, 1) := by decide +kernel
theorem dX5_eventsTold_22 : decode cX5_eventsTold 22 = .ok (.ifnonnull 7, 3) := by decide +kernel
theorem dX5_eventsTold_25 : decode cX5_eventsTold 25 = .ok (.iconst 0, 1) := by decide +kernel
theorem dX5_eventsTold_26 : decode cX5_eventsTold 26 = .ok (.goto 10, 3) := by decide +kernel
theorem dX5_eventsTold_29 : decode cX5_eventsTold 29 = .ok (.aload_n 3, 1) := by decide +kernel
theorem dX5_eventsTold_30 : decode cX5_eventsTold 30 = .ok (.getfield 31, 3) := by decide +kernel
theorem dX5_eventsTold_33 : decode cX5_eventsTold 33 = .ok (.getfield 35, 3) := by decide +kernel
theorem dX5_eventsTold_36 : decode cX5_eventsTold 36 = .ok (.iadd, 1) := by decide +kernel
theorem dX5_eventsTold_37 : decode cX5_eventsTold 37 = .ok (.istore_n 1, 1) := by decide +kernel
theorem dX5_eventsTold_38 : decode cX5_eventsTold 38 = .ok (.iinc 2 1, 3) := by decide +kernel
theorem dX5_eventsTold_41 : decode cX5_eventsTold 41 = .ok (.goto (-37), 3) := by decide +kernel
theorem dX5_eventsTold_44 : decode cX5_eventsTold 44 = .ok (.iload_n 1, 1) := by decide +kernel
theorem dX5_eventsTold_45 : decode cX5_eventsTold 45 = .ok (.ireturn, 1) := by decide +kernel
theorem dX5_rentsKnown_0 : decode cX5_rentsKnown 0 = .ok (.iconst 0, 1) := by decide +kernel
theorem dX5_rentsKnown_1 : decode cX5_rentsKnown 1 = .ok (.istore_n 1, 1) := by decide +kernel
theorem dX5_rentsKnown_2 : decode cX5_rentsKnown 2 = .ok (.iconst 0, 1) := by decide +kernel
theorem dX5_rentsKnown_3 : decode cX5_rentsKnown 3 = .ok (.istore_n 2, 1) := by decide +kernel
theorem dX5_rentsKnown_4 : decode cX5_rentsKnown 4 = .ok (.iload_n 2, 1) := by decide +kernel
theorem dX5_rentsKnown_5 : decode cX5_rentsKnown 5 = .ok (.aload_n 0, 1) := by decide +kernel
theorem dX5_rentsKnown_6 : decode cX5_rentsKnown 6 = .ok (.getfield 11, 3) := by decide +kernel
theorem dX5_rentsKnown_9 : decode cX5_rentsKnown 9 = .ok (.arraylength, 1) := by decide +kernel
theorem dX5_rentsKnown_10 : decode cX5_rentsKnown 10 = .ok (.if_icmp .ge 35, 3) := by decide +kernel
theorem dX5_rentsKnown_13 : decode cX5_rentsKnown 13 = .ok (.aload_n 0, 1) := by decide +kernel
theorem dX5_rentsKnown_14 : decode cX5_rentsKnown 14 = .ok (.getfield 11, 3) := by decide +kernel
theorem dX5_rentsKnown_17 : decode cX5_rentsKnown 17 = .ok (.iload_n 2, 1) := by decide +kernel
theorem dX5_rentsKnown_18 : decode cX5_rentsKnown 18 = .ok (.aaload, 1) := by decide +kernel
theorem dX5_rentsKnown_19 : decode cX5_rentsKnown 19 = .ok (.astore_n 3, 1) := by decide +kernel
theorem dX5_rentsKnown_20 : decode cX5_rentsKnown 20 = .ok (.iload_n 1, 1) := by decide +kernel
theorem dX5_rentsKnown_21 : decode cX5_rentsKnown 21 = .ok (.aload_n 3, 1) := by decide +kernel
theorem dX5_rentsKnown_22 : decode cX5_rentsKnown 22 = .ok (.ifnull 14, 3) := by decide +kernel
theorem dX5_rentsKnown_25 : decode cX5_rentsKnown 25 = .ok (.aload_n 3, 1) := by decide +kernel
theorem dX5_rentsKnown_26 : decode cX5_rentsKnown 26 = .ok (.getfield 40, 3) := by decide +kernel
theorem dX5_rentsKnown_29 : decode cX5_rentsKnown 29 = .ok (.ifCond .le 7, 3) := by decide +kernel
theorem dX5_rentsKnown_32 : decode cX5_rentsKnown 32 = .ok (.iconst 1, 1) := by decide +kernel
theorem dX5_rentsKnown_33 : decode cX5_rentsKnown 33 = .ok (.goto 4, 3) := by decide +kernel
theorem dX5_rentsKnown_36 : decode cX5_rentsKnown 36 = .ok (.iconst 0, 1) := by decide +kernel
theorem dX5_rentsKnown_37 : decode cX5_rentsKnown 37 = .ok (.iadd, 1) := by decide +kernel
theorem dX5_rentsKnown_38 : decode cX5_rentsKnown 38 = .ok (.istore_n 1, 1) := by decide +kernel
theorem dX5_rentsKnown_39 : decode cX5_rentsKnown 39 = .ok (.iinc 2 1, 3) := by decide +kernel
theorem dX5_rentsKnown_42 : decode cX5_rentsKnown 42 = .ok (.goto (-38), 3) := by decide +kernel
theorem dX5_rentsKnown_45 : decode cX5_rentsKnown 45 = .ok (.iload_n 1, 1) := by decide +kernel
theorem dX5_rentsKnown_46 : decode cX5_rentsKnown 46 = .ok (.ireturn, 1) := by decide +kernel
set_option maxRecDepth 20000 in
theorem ggX5_unitOf_X5_rentsOf : GoodIn wsX5_unitOf wsX5_rentsOf := goodIn_r _ [11, 12, 13, 14, 15, 16, 17, 18, 19, 20, 21, 56, 57, 49, 50, 51, 52, 53, 54, 55] (by decide +kernel) (by decide +kernel)
set_option maxRecDepth 20000 in
theorem gX5_unitOf_X5_rentsOf : GoodIn wsX5_unitOf (wsV RX5 43 RX5 yX5_rentsOf wsX5_rentsOf) := goodIn_app (goodIn_of _ (by decide +kernel)) ggX5_unitOf_X5_rentsOf
set_option maxRecDepth 20000 in
theorem ggX5_unitOf_X5_middleOf : GoodIn wsX5_unitOf wsX5_middleOf := goodIn_r _ [25, 12, 13, 14, 15, 16, 17, 18, 19, 20, 21, 26, 27, 28, 10, 29, 30, 31, 32, 33, 34, 56, 57, 49, 50, 51, 52, 53, 54, 55] (by decide +kernel) (by decide +kernel)
set_option maxRecDepth 20000 in
theorem gX5_unitOf_X5_middleOf : GoodIn wsX5_unitOf (wsV RX5 47 RX5 yX5_middleOf wsX5_middleOf) := goodIn_app (goodIn_of _ (by decide +kernel)) ggX5_unitOf_X5_middleOf
set_option maxRecDepth 20000 in
theorem ggX5_unitOf_X6_init : GoodIn wsX5_unitOf wsX6_init := goodIn_r _ [37, 38, 39, 40, 41, 42, 43, 44, 45, 46, 47, 48] (by decide +kernel) (by decide +kernel)
set_option maxRecDepth 20000 in
theorem gX5_unitOf_X6_init : GoodIn wsX5_unitOf (wsX6_init) := ggX5_unitOf_X6_init
theorem dX5_unitOf_0 : decode cX5_unitOf 0 = .ok (.aload_n 0, 1) := by decide +kernel
theorem dX5_unitOf_1 : decode cX5_unitOf 1 = .ok (.iload_n 1, 1) := by decide +kernel
theorem dX5_unitOf_2 : decode cX5_unitOf 2 = .ok (.iload_n 2, 1) := by decide +kernel
theorem dX5_unitOf_3 : decode cX5_unitOf 3 = .ok (.iload_n 3, 1) := by decide +kernel
theorem dX5_unitOf_4 : decode cX5_unitOf 4 = .ok (.invokevirtual 43, 3) := by decide +kernel
theorem dX5_unitOf_7 : decode cX5_unitOf 7 = .ok (.istore 4, 2) := by decide +kernel
theorem dX5_unitOf_9 : decode cX5_unitOf 9 = .ok (.iload_n 2, 1) := by decide +kernel
theorem dX5_unitOf_10 : decode cX5_unitOf 10 = .ok (.istore 5, 2) := by decide +kernel
theorem dX5_unitOf_12 : decode cX5_unitOf 12 = .ok (.iload 4, 2) := by decide +kernel
theorem dX5_unitOf_14 : decode cX5_unitOf 14 = .ok (.ifCond .ne 15, 3) := by decide +kernel
theorem dX5_unitOf_17 : decode cX5_unitOf 17 = .ok (.iconst (-1), 1) := by decide +kernel
theorem dX5_unitOf_18 : decode cX5_unitOf 18 = .ok (.istore 5, 2) := by decide +kernel
theorem dX5_unitOf_20 : decode cX5_unitOf 20 = .ok (.aload_n 0, 1) := by decide +kernel
theorem dX5_unitOf_21 : decode cX5_unitOf 21 = .ok (.iload_n 1, 1) := by decide +kernel
theorem dX5_unitOf_22 : decode cX5_unitOf 22 = .ok (.iconst (-1), 1) := by decide +kernel
theorem dX5_unitOf_23 : decode cX5_unitOf 23 = .ok (.iload_n 3, 1) := by decide +kernel
theorem dX5_unitOf_24 : decode cX5_unitOf 24 = .ok (.invokevirtual 43, 3) := by decide +kernel
theorem dX5_unitOf_27 : decode cX5_unitOf 27 = .ok (.istore 4, 2) := by decide +kernel
theorem dX5_unitOf_29 : decode cX5_unitOf 29 = .ok (.aload_n 0, 1) := by decide +kernel
theorem dX5_unitOf_30 : decode cX5_unitOf 30 = .ok (.iload_n 1, 1) := by decide +kernel
theorem dX5_unitOf_31 : decode cX5_unitOf 31 = .ok (.iload 5, 2) := by decide +kernel
theorem dX5_unitOf_33 : decode cX5_unitOf 33 = .ok (.iload_n 3, 1) := by decide +kernel
theorem dX5_unitOf_34 : decode cX5_unitOf 34 = .ok (.iload 4, 2) := by decide +kernel
theorem dX5_unitOf_36 : decode cX5_unitOf 36 = .ok (.iconst 1, 1) := by decide +kernel
theorem dX5_unitOf_37 : decode cX5_unitOf 37 = .ok (.isub, 1) := by decide +kernel
theorem dX5_unitOf_38 : decode cX5_unitOf 38 = .ok (.iconst 2, 1) := by decide +kernel
theorem dX5_unitOf_39 : decode cX5_unitOf 39 = .ok (.idiv, 1) := by decide +kernel
theorem dX5_unitOf_40 : decode cX5_unitOf 40 = .ok (.invokevirtual 47, 3) := by decide +kernel
theorem dX5_unitOf_43 : decode cX5_unitOf 43 = .ok (.astore 6, 2) := by decide +kernel
theorem dX5_unitOf_45 : decode cX5_unitOf 45 = .ok (.aload 6, 2) := by decide +kernel
theorem dX5_unitOf_47 : decode cX5_unitOf 47 = .ok (.ifnonnull 17, 3) := by decide +kernel
theorem dX5_unitOf_50 : decode cX5_unitOf 50 = .ok (.new 51, 3) := by decide +kernel
theorem dX5_unitOf_53 : decode cX5_unitOf 53 = .ok (.dup, 1) := by decide +kernel
theorem dX5_unitOf_54 : decode cX5_unitOf 54 = .ok (.bipush 10, 2) := by decide +kernel
theorem dX5_unitOf_56 : decode cX5_unitOf 56 = .ok (.iconst 1, 1) := by decide +kernel
theorem dX5_unitOf_57 : decode cX5_unitOf 57 = .ok (.iconst 0, 1) := by decide +kernel
theorem dX5_unitOf_58 : decode cX5_unitOf 58 = .ok (.bipush (-4), 2) := by decide +kernel
theorem dX5_unitOf_60 : decode cX5_unitOf 60 = .ok (.invokespecial 53, 3) := by decide +kernel
theorem dX5_unitOf_63 : decode cX5_unitOf 63 = .ok (.areturn, 1) := by decide +kernel
theorem dX5_unitOf_64 : decode cX5_unitOf 64 = .ok (.new 51, 3) := by decide +kernel
theorem dX5_unitOf_67 : decode cX5_unitOf 67 = .ok (.dup, 1) := by decide +kernel
theorem dX5_unitOf_68 : decode cX5_unitOf 68 = .ok (.aload 6, 2) := by decide +kernel
theorem dX5_unitOf_70 : decode cX5_unitOf 70 = .ok (.getfield 40, 3) := by decide +kernel
theorem dX5_unitOf_73 : decode cX5_unitOf 73 = .ok (.aload 6, 2) := by decide +kernel
theorem dX5_unitOf_75 : decode cX5_unitOf 75 = .ok (.getfield 56, 3) := by decide +kernel
theorem dX5_unitOf_78 : decode cX5_unitOf 78 = .ok (.iload 4, 2) := by decide +kernel
theorem dX5_unitOf_80 : decode cX5_unitOf 80 = .ok (.aload 6, 2) := by decide +kernel
theorem dX5_unitOf_82 : decode cX5_unitOf 82 = .ok (.getfield 57, 3) := by decide +kernel
theorem dX5_unitOf_85 : decode cX5_unitOf 85 = .ok (.invokespecial 53, 3) := by decide +kernel
theorem dX5_unitOf_88 : decode cX5_unitOf 88 = .ok (.areturn, 1) := by decide +kernel
set_option maxRecDepth 20000 in
theorem ggX5_rentsOf_X2_tells : GoodIn wsX5_rentsOf wsX2_tells := goodIn_r _ [6, 7, 8, 9, 10, 13, 14, 15, 16, 17, 18, 19] (by decide +kernel) (by decide +kernel)
set_option maxRecDepth 20000 in
theorem gX5_rentsOf_X2_tells : GoodIn wsX5_rentsOf (wsV RX5 60 RX2 yX2_tells wsX2_tells) := goodIn_app (goodIn_of _ (by decide +kernel)) ggX5_rentsOf_X2_tells
theorem dX5_rentsOf_0 : decode cX5_rentsOf 0 = .ok (.iconst 0, 1) := by decide +kernel
theorem dX5_rentsOf_1 : decode cX5_rentsOf 1 = .ok (.istore 4, 2) := by decide +kernel
theorem dX5_rentsOf_3 : decode cX5_rentsOf 3 = .ok (.iconst 0, 1) := by decide +kernel
theorem dX5_rentsOf_4 : decode cX5_rentsOf 4 = .ok (.istore 5, 2) := by decide +kernel
theorem dX5_rentsOf_6 : decode cX5_rentsOf 6 = .ok (.iload 5, 2) := by decide +kernel
theorem dX5_rentsOf_8 : decode cX5_rentsOf 8 = .ok (.aload_n 0, 1) := by decide +kernel
theorem dX5_rentsOf_9 : decode cX5_rentsOf 9 = .ok (.getfield 11, 3) := by decide +kernel
theorem dX5_rentsOf_12 : decode cX5_rentsOf 12 = .ok (.arraylength, 1) := by decide +kernel
theorem dX5_rentsOf_13 : decode cX5_rentsOf 13 = .ok (.if_icmp .ge 44, 3) := by decide +kernel
theorem dX5_rentsOf_16 : decode cX5_rentsOf 16 = .ok (.aload_n 0, 1) := by decide +kernel
theorem dX5_rentsOf_17 : decode cX5_rentsOf 17 = .ok (.getfield 11, 3) := by decide +kernel
theorem dX5_rentsOf_20 : decode cX5_rentsOf 20 = .ok (.iload 5, 2) := by decide +kernel
theorem dX5_rentsOf_22 : decode cX5_rentsOf 22 = .ok (.aaload, 1) := by decide +kernel
theorem dX5_rentsOf_23 : decode cX5_rentsOf 23 = .ok (.astore 6, 2) := by decide +kernel
theorem dX5_rentsOf_25 : decode cX5_rentsOf 25 = .ok (.iload 4, 2) := by decide +kernel
theorem dX5_rentsOf_27 : decode cX5_rentsOf 27 = .ok (.aload 6, 2) := by decide +kernel
theorem dX5_rentsOf_29 : decode cX5_rentsOf 29 = .ok (.ifnull 18, 3) := by decide +kernel
theorem dX5_rentsOf_32 : decode cX5_rentsOf 32 = .ok (.aload 6, 2) := by decide +kernel
theorem dX5_rentsOf_34 : decode cX5_rentsOf 34 = .ok (.iload_n 1, 1) := by decide +kernel
theorem dX5_rentsOf_35 : decode cX5_rentsOf 35 = .ok (.iload_n 2, 1) := by decide +kernel
theorem dX5_rentsOf_36 : decode cX5_rentsOf 36 = .ok (.iload_n 3, 1) := by decide +kernel
theorem dX5_rentsOf_37 : decode cX5_rentsOf 37 = .ok (.invokevirtual 60, 3) := by decide +kernel
theorem dX5_rentsOf_40 : decode cX5_rentsOf 40 = .ok (.ifCond .eq 7, 3) := by decide +kernel
theorem dX5_rentsOf_43 : decode cX5_rentsOf 43 = .ok (.iconst 1, 1) := by decide +kernel
theorem dX5_rentsOf_44 : decode cX5_rentsOf 44 = .ok (.goto 4, 3) := by decide +kernel
theorem dX5_rentsOf_47 : decode cX5_rentsOf 47 = .ok (.iconst 0, 1) := by decide +kernel
theorem dX5_rentsOf_48 : decode cX5_rentsOf 48 = .ok (.iadd, 1) := by decide +kernel
theorem dX5_rentsOf_49 : decode cX5_rentsOf 49 = .ok (.istore 4, 2) := by decide +kernel
theorem dX5_rentsOf_51 : decode cX5_rentsOf 51 = .ok (.iinc 5 1, 3) := by decide +kernel
theorem dX5_rentsOf_54 : decode cX5_rentsOf 54 = .ok (.goto (-48), 3) := by decide +kernel
theorem dX5_rentsOf_57 : decode cX5_rentsOf 57 = .ok (.iload 4, 2) := by decide +kernel
theorem dX5_rentsOf_59 : decode cX5_rentsOf 59 = .ok (.ireturn, 1) := by decide +kernel
set_option maxRecDepth 20000 in
theorem ggX5_middleOf_X2_tells : GoodIn wsX5_middleOf wsX2_tells := goodIn_r _ [6, 7, 8, 9, 10, 23, 24, 25, 26, 27, 28, 29] (by decide +kernel) (by decide +kernel)
set_option maxRecDepth 20000 in
theorem gX5_middleOf_X2_tells : GoodIn wsX5_middleOf (wsV RX5 60 RX2 yX2_tells wsX2_tells) := goodIn_app (goodIn_of _ (by decide +kernel)) ggX5_middleOf_X2_tells
set_option maxRecDepth 20000 in
theorem ggX5_middleOf_X5_lesserThan : GoodIn wsX5_middleOf wsX5_lesserThan := goodIn_r _ [15, 1, 2, 3, 4, 5, 6, 7, 8, 9, 10, 16, 17, 18, 19, 20, 21, 22, 23, 24, 25, 26, 27, 28, 29] (by decide +kernel) (by decide +kernel)
set_option maxRecDepth 20000 in
theorem gX5_middleOf_X5_lesserThan : GoodIn wsX5_middleOf (wsV RX5 64 RX5 yX5_lesserThan wsX5_lesserThan) := goodIn_app (goodIn_of _ (by decide +kernel)) ggX5_middleOf_X5_lesserThan
theorem dX5_middleOf_0 : decode cX5_middleOf 0 = .ok (.iconst 0, 1) := by decide +kernel
theorem dX5_middleOf_1 : decode cX5_middleOf 1 = .ok (.istore 5, 2) := by decide +kernel
theorem dX5_middleOf_3 : decode cX5_middleOf 3 = .ok (.iload 5, 2) := by decide +kernel
theorem dX5_middleOf_5 : decode cX5_middleOf 5 = .ok (.aload_n 0, 1) := by decide +kernel
theorem dX5_middleOf_6 : decode cX5_middleOf 6 = .ok (.getfield 11, 3) := by decide +kernel
theorem dX5_middleOf_9 : decode cX5_middleOf 9 = .ok (.arraylength, 1) := by decide +kernel
theorem dX5_middleOf_10 : decode cX5_middleOf 10 = .ok (.if_icmp .ge 51, 3) := by decide +kernel
theorem dX5_middleOf_13 : decode cX5_middleOf 13 = .ok (.aload_n 0, 1) := by decide +kernel
theorem dX5_middleOf_14 : decode cX5_middleOf 14 = .ok (.getfield 11, 3) := by decide +kernel
theorem dX5_middleOf_17 : decode cX5_middleOf 17 = .ok (.iload 5, 2) := by decide +kernel
theorem dX5_middleOf_19 : decode cX5_middleOf 19 = .ok (.aaload, 1) := by decide +kernel
theorem dX5_middleOf_20 : decode cX5_middleOf 20 = .ok (.astore 6, 2) := by decide +kernel
theorem dX5_middleOf_22 : decode cX5_middleOf 22 = .ok (.aload 6, 2) := by decide +kernel
theorem dX5_middleOf_24 : decode cX5_middleOf 24 = .ok (.ifnull 31, 3) := by decide +kernel
theorem dX5_middleOf_27 : decode cX5_middleOf 27 = .ok (.aload 6, 2) := by decide +kernel
theorem dX5_middleOf_29 : decode cX5_middleOf 29 = .ok (.iload_n 1, 1) := by decide +kernel
theorem dX5_middleOf_30 : decode cX5_middleOf 30 = .ok (.iload_n 2, 1) := by decide +kernel
theorem dX5_middleOf_31 : decode cX5_middleOf 31 = .ok (.iload_n 3, 1) := by decide +kernel
theorem dX5_middleOf_32 : decode cX5_middleOf 32 = .ok (.invokevirtual 60, 3) := by decide +kernel
theorem dX5_middleOf_35 : decode cX5_middleOf 35 = .ok (.ifCond .eq 20, 3) := by decide +kernel
theorem dX5_middleOf_38 : decode cX5_middleOf 38 = .ok (.aload_n 0, 1) := by decide +kernel
theorem dX5_middleOf_39 : decode cX5_middleOf 39 = .ok (.aload 6, 2) := by decide +kernel
theorem dX5_middleOf_41 : decode cX5_middleOf 41 = .ok (.iload_n 1, 1) := by decide +kernel
theorem dX5_middleOf_42 : decode cX5_middleOf 42 = .ok (.iload_n 2, 1) := by decide +kernel
theorem dX5_middleOf_43 : decode cX5_middleOf 43 = .ok (.iload_n 3, 1) := by decide +kernel
theorem dX5_middleOf_44 : decode cX5_middleOf 44 = .ok (.invokevirtual 64, 3) := by decide +kernel
theorem dX5_middleOf_47 : decode cX5_middleOf 47 = .ok (.iload 4, 2) := by decide +kernel
theorem dX5_middleOf_49 : decode cX5_middleOf 49 = .ok (.if_icmp .ne 6, 3) := by decide +kernel
theorem dX5_middleOf_52 : decode cX5_middleOf 52 = .ok (.aload 6, 2) := by decide +kernel
theorem dX5_middleOf_54 : decode cX5_middleOf 54 = .ok (.areturn, 1) := by decide +kernel
theorem dX5_middleOf_55 : decode cX5_middleOf 55 = .ok (.iinc 5 1, 3) := by decide +kernel
theorem dX5_middleOf_58 : decode cX5_middleOf 58 = .ok (.goto (-55), 3) := by decide +kernel
theorem dX5_middleOf_61 : decode cX5_middleOf 61 = .ok (.aconst_null, 1) := by decide +kernel
theorem dX5_middleOf_62 : decode cX5_middleOf 62 = .ok (.areturn, 1) := by decide +kernel
set_option maxRecDepth 20000 in
theorem ggX5_lesserThan_X2_tells : GoodIn wsX5_lesserThan wsX2_tells := goodIn_r _ [6, 7, 8, 9, 10, 18, 19, 20, 21, 22, 23, 24] (by decide +kernel) (by decide +kernel)
set_option maxRecDepth 20000 in
theorem gX5_lesserThan_X2_tells : GoodIn wsX5_lesserThan (wsV RX5 60 RX2 yX2_tells wsX2_tells) := goodIn_app (goodIn_of _ (by decide +kernel)) ggX5_lesserThan_X2_tells
set_option maxRecDepth 20000 in
theorem ggX5_lesserThan_X2_hasLesserRent : GoodIn wsX5_lesserThan wsX2_hasLesserRent := goodIn_r _ [14, 7, 15, 8, 18, 19, 20, 21, 22, 23, 24] (by decide +kernel) (by decide +kernel)
set_option maxRecDepth 20000 in
theorem gX5_lesserThan_X2_hasLesserRent : GoodIn wsX5_lesserThan (wsV RX5 68 RX2 yX2_hasLesserRent wsX2_hasLesserRent) := goodIn_app (goodIn_of _ (by decide +kernel)) ggX5_lesserThan_X2_hasLesserRent
theorem dX5_lesserThan_0 : decode cX5_lesserThan 0 = .ok (.iconst 0, 1) := by decide +kernel
theorem dX5_lesserThan_1 : decode cX5_lesserThan 1 = .ok (.istore 5, 2) := by decide +kernel
theorem dX5_lesserThan_3 : decode cX5_lesserThan 3 = .ok (.iconst 0, 1) := by decide +kernel
theorem dX5_lesserThan_4 : decode cX5_lesserThan 4 = .ok (.istore 6, 2) := by decide +kernel
theorem dX5_lesserThan_6 : decode cX5_lesserThan 6 = .ok (.iload 6, 2) := by decide +kernel
theorem dX5_lesserThan_8 : decode cX5_lesserThan 8 = .ok (.aload_n 0, 1) := by decide +kernel
theorem dX5_lesserThan_9 : decode cX5_lesserThan 9 = .ok (.getfield 11, 3) := by decide +kernel
theorem dX5_lesserThan_12 : decode cX5_lesserThan 12 = .ok (.arraylength, 1) := by decide +kernel
theorem dX5_lesserThan_13 : decode cX5_lesserThan 13 = .ok (.if_icmp .ge 54, 3) := by decide +kernel
theorem dX5_lesserThan_16 : decode cX5_lesserThan 16 = .ok (.aload_n 0, 1) := by decide +kernel
theorem dX5_lesserThan_17 : decode cX5_lesserThan 17 = .ok (.getfield 11, 3) := by decide +kernel
theorem dX5_lesserThan_20 : decode cX5_lesserThan 20 = .ok (.iload 6, 2) := by decide +kernel
theorem dX5_lesserThan_22 : decode cX5_lesserThan 22 = .ok (.aaload, 1) := by decide +kernel
theorem dX5_lesserThan_23 : decode cX5_lesserThan 23 = .ok (.astore 7, 2) := by decide +kernel
theorem dX5_lesserThan_25 : decode cX5_lesserThan 25 = .ok (.iload 5, 2) := by decide +kernel
theorem dX5_lesserThan_27 : decode cX5_lesserThan 27 = .ok (.aload 7, 2) := by decide +kernel
theorem dX5_lesserThan_29 : decode cX5_lesserThan 29 = .ok (.ifnull 28, 3) := by decide +kernel
theorem dX5_lesserThan_32 : decode cX5_lesserThan 32 = .ok (.aload 7, 2) := by decide +kernel
theorem dX5_lesserThan_34 : decode cX5_lesserThan 34 = .ok (.iload_n 2, 1) := by decide +kernel
theorem dX5_lesserThan_35 : decode cX5_lesserThan 35 = .ok (.iload_n 3, 1) := by decide +kernel
theorem dX5_lesserThan_36 : decode cX5_lesserThan 36 = .ok (.iload 4, 2) := by decide +kernel
theorem dX5_lesserThan_38 : decode cX5_lesserThan 38 = .ok (.invokevirtual 60, 3) := by decide +kernel
theorem dX5_lesserThan_41 : decode cX5_lesserThan 41 = .ok (.ifCond .eq 16, 3) := by decide +kernel
theorem dX5_lesserThan_44 : decode cX5_lesserThan 44 = .ok (.aload 7, 2) := by decide +kernel
theorem dX5_lesserThan_46 : decode cX5_lesserThan 46 = .ok (.aload_n 1, 1) := by decide +kernel
theorem dX5_lesserThan_47 : decode cX5_lesserThan 47 = .ok (.invokevirtual 68, 3) := by decide +kernel
theorem dX5_lesserThan_50 : decode cX5_lesserThan 50 = .ok (.ifCond .eq 7, 3) := by decide +kernel
theorem dX5_lesserThan_53 : decode cX5_lesserThan 53 = .ok (.iconst 1, 1) := by decide +kernel
theorem dX5_lesserThan_54 : decode cX5_lesserThan 54 = .ok (.goto 4, 3) := by decide +kernel
theorem dX5_lesserThan_57 : decode cX5_lesserThan 57 = .ok (.iconst 0, 1) := by decide +kernel
theorem dX5_lesserThan_58 : decode cX5_lesserThan 58 = .ok (.iadd, 1) := by decide +kernel
theorem dX5_lesserThan_59 : decode cX5_lesserThan 59 = .ok (.istore 5, 2) := by decide +kernel
theorem dX5_lesserThan_61 : decode cX5_lesserThan 61 = .ok (.iinc 6 1, 3) := by decide +kernel
theorem dX5_lesserThan_64 : decode cX5_lesserThan 64 = .ok (.goto (-58), 3) := by decide +kernel
theorem dX5_lesserThan_67 : decode cX5_lesserThan 67 = .ok (.iload 5, 2) := by decide +kernel
theorem dX5_lesserThan_69 : decode cX5_lesserThan 69 = .ok (.ireturn, 1) := by decide +kernel
theorem dX6_init_0 : decode cX6_init 0 = .ok (.aload_n 0, 1) := by decide +kernel
theorem dX6_init_1 : decode cX6_init 1 = .ok (.invokespecial 1, 3) := by decide +kernel
theorem dX6_init_4 : decode cX6_init 4 = .ok (.aload_n 0, 1) := by decide +kernel
theorem dX6_init_5 : decode cX6_init 5 = .ok (.iload_n 1, 1) := by decide +kernel
theorem dX6_init_6 : decode cX6_init 6 = .ok (.putfield 7, 3) := by decide +kernel
theorem dX6_init_9 : decode cX6_init 9 = .ok (.aload_n 0, 1) := by decide +kernel
theorem dX6_init_10 : decode cX6_init 10 = .ok (.iload_n 2, 1) := by decide +kernel
theorem dX6_init_11 : decode cX6_init 11 = .ok (.putfield 13, 3) := by decide +kernel
theorem dX6_init_14 : decode cX6_init 14 = .ok (.aload_n 0, 1) := by decide +kernel
theorem dX6_init_15 : decode cX6_init 15 = .ok (.iload_n 3, 1) := by decide +kernel
theorem dX6_init_16 : decode cX6_init 16 = .ok (.putfield 16, 3) := by decide +kernel
theorem dX6_init_19 : decode cX6_init 19 = .ok (.aload_n 0, 1) := by decide +kernel
theorem dX6_init_20 : decode cX6_init 20 = .ok (.iload 4, 2) := by decide +kernel
theorem dX6_init_22 : decode cX6_init 22 = .ok (.putfield 19, 3) := by decide +kernel
theorem dX6_init_25 : decode cX6_init 25 = .ok (.return_, 1) := by decide +kernel
theorem dX6_times_0 : decode cX6_times 0 = .ok (.aload_n 0, 1) := by decide +kernel
theorem dX6_times_1 : decode cX6_times 1 = .ok (.getfield 13, 3) := by decide +kernel
theorem dX6_times_4 : decode cX6_times 4 = .ok (.ifCond .gt 7, 3) := by decide +kernel
theorem dX6_times_7 : decode cX6_times 7 = .ok (.lconst 0, 1) := by decide +kernel
theorem dX6_times_8 : decode cX6_times 8 = .ok (.goto 17, 3) := by decide +kernel
theorem dX6_times_11 : decode cX6_times 11 = .ok (.iload_n 1, 1) := by decide +kernel
theorem dX6_times_12 : decode cX6_times 12 = .ok (.i2l, 1) := by decide +kernel
theorem dX6_times_13 : decode cX6_times 13 = .ok (.aload_n 0, 1) := by decide +kernel
theorem dX6_times_14 : decode cX6_times 14 = .ok (.getfield 7, 3) := by decide +kernel
theorem dX6_times_17 : decode cX6_times 17 = .ok (.i2l, 1) := by decide +kernel
theorem dX6_times_18 : decode cX6_times 18 = .ok (.lmul, 1) := by decide +kernel
theorem dX6_times_19 : decode cX6_times 19 = .ok (.aload_n 0, 1) := by decide +kernel
theorem dX6_times_20 : decode cX6_times 20 = .ok (.getfield 13, 3) := by decide +kernel
theorem dX6_times_23 : decode cX6_times 23 = .ok (.i2l, 1) := by decide +kernel
theorem dX6_times_24 : decode cX6_times 24 = .ok (.ldiv, 1) := by decide +kernel
theorem dX6_times_25 : decode cX6_times 25 = .ok (.lreturn, 1) := by decide +kernel
theorem dX7_init_0 : decode cX7_init 0 = .ok (.aload_n 0, 1) := by decide +kernel
theorem dX7_init_1 : decode cX7_init 1 = .ok (.invokespecial 3, 3) := by decide +kernel
theorem dX7_init_4 : decode cX7_init 4 = .ok (.aload_n 0, 1) := by decide +kernel
theorem dX7_init_5 : decode cX7_init 5 = .ok (.bipush 40, 2) := by decide +kernel
theorem dX7_init_7 : decode cX7_init 7 = .ok (.newarray .int, 2) := by decide +kernel
theorem dX7_init_9 : decode cX7_init 9 = .ok (.putfield 9, 3) := by decide +kernel
theorem dX7_init_12 : decode cX7_init 12 = .ok (.aload_n 0, 1) := by decide +kernel
theorem dX7_init_13 : decode cX7_init 13 = .ok (.bipush 40, 2) := by decide +kernel
theorem dX7_init_15 : decode cX7_init 15 = .ok (.newarray .int, 2) := by decide +kernel
theorem dX7_init_17 : decode cX7_init 17 = .ok (.putfield 15, 3) := by decide +kernel
theorem dX7_init_20 : decode cX7_init 20 = .ok (.iconst 0, 1) := by decide +kernel
theorem dX7_init_21 : decode cX7_init 21 = .ok (.istore_n 1, 1) := by decide +kernel
theorem dX7_init_22 : decode cX7_init 22 = .ok (.iload_n 1, 1) := by decide +kernel
theorem dX7_init_23 : decode cX7_init 23 = .ok (.aload_n 0, 1) := by decide +kernel
theorem dX7_init_24 : decode cX7_init 24 = .ok (.getfield 9, 3) := by decide +kernel
theorem dX7_init_27 : decode cX7_init 27 = .ok (.arraylength, 1) := by decide +kernel
theorem dX7_init_28 : decode cX7_init 28 = .ok (.if_icmp .ge 17, 3) := by decide +kernel
theorem dX7_init_31 : decode cX7_init 31 = .ok (.aload_n 0, 1) := by decide +kernel
theorem dX7_init_32 : decode cX7_init 32 = .ok (.getfield 9, 3) := by decide +kernel
theorem dX7_init_35 : decode cX7_init 35 = .ok (.iload_n 1, 1) := by decide +kernel
theorem dX7_init_36 : decode cX7_init 36 = .ok (.bipush (-4), 2) := by decide +kernel
theorem dX7_init_38 : decode cX7_init 38 = .ok (.iastore, 1) := by decide +kernel
theorem dX7_init_39 : decode cX7_init 39 = .ok (.iinc 1 1, 3) := by decide +kernel
theorem dX7_init_42 : decode cX7_init 42 = .ok (.goto (-20), 3) := by decide +kernel
theorem dX7_init_45 : decode cX7_init 45 = .ok (.return_, 1) := by decide +kernel
theorem dX7_billedTo_0 : decode cX7_billedTo 0 = .ok (.iload_n 1, 1) := by decide +kernel
theorem dX7_billedTo_1 : decode cX7_billedTo 1 = .ok (.ifCond .lt 21, 3) := by decide +kernel
theorem dX7_billedTo_4 : decode cX7_billedTo 4 = .ok (.iload_n 1, 1) := by decide +kernel
theorem dX7_billedTo_5 : decode cX7_billedTo 5 = .ok (.aload_n 0, 1) := by decide +kernel
theorem dX7_billedTo_6 : decode cX7_billedTo 6 = .ok (.getfield 9, 3) := by decide +kernel
theorem dX7_billedTo_9 : decode cX7_billedTo 9 = .ok (.arraylength, 1) := by decide +kernel
theorem dX7_billedTo_10 : decode cX7_billedTo 10 = .ok (.if_icmp .ge 12, 3) := by decide +kernel
theorem dX7_billedTo_13 : decode cX7_billedTo 13 = .ok (.aload_n 0, 1) := by decide +kernel
theorem dX7_billedTo_14 : decode cX7_billedTo 14 = .ok (.getfield 9, 3) := by decide +kernel
theorem dX7_billedTo_17 : decode cX7_billedTo 17 = .ok (.iload_n 1, 1) := by decide +kernel
theorem dX7_billedTo_18 : decode cX7_billedTo 18 = .ok (.iaload, 1) := by decide +kernel
theorem dX7_billedTo_19 : decode cX7_billedTo 19 = .ok (.goto 5, 3) := by decide +kernel
theorem dX7_billedTo_22 : decode cX7_billedTo 22 = .ok (.bipush (-4), 2) := by decide +kernel
theorem dX7_billedTo_24 : decode cX7_billedTo 24 = .ok (.ireturn, 1) := by decide +kernel
theorem dX7_paidBy_0 : decode cX7_paidBy 0 = .ok (.iload_n 1, 1) := by decide +kernel
theorem dX7_paidBy_1 : decode cX7_paidBy 1 = .ok (.ifCond .lt 21, 3) := by decide +kernel
theorem dX7_paidBy_4 : decode cX7_paidBy 4 = .ok (.iload_n 1, 1) := by decide +kernel
theorem dX7_paidBy_5 : decode cX7_paidBy 5 = .ok (.aload_n 0, 1) := by decide +kernel
theorem dX7_paidBy_6 : decode cX7_paidBy 6 = .ok (.getfield 15, 3) := by decide +kernel
theorem dX7_paidBy_9 : decode cX7_paidBy 9 = .ok (.arraylength, 1) := by decide +kernel
theorem dX7_paidBy_10 : decode cX7_paidBy 10 = .ok (.if_icmp .ge 12, 3) := by decide +kernel
theorem dX7_paidBy_13 : decode cX7_paidBy 13 = .ok (.aload_n 0, 1) := by decide +kernel
theorem dX7_paidBy_14 : decode cX7_paidBy 14 = .ok (.getfield 15, 3) := by decide +kernel
theorem dX7_paidBy_17 : decode cX7_paidBy 17 = .ok (.iload_n 1, 1) := by decide +kernel
theorem dX7_paidBy_18 : decode cX7_paidBy 18 = .ok (.iaload, 1) := by decide +kernel
theorem dX7_paidBy_19 : decode cX7_paidBy 19 = .ok (.goto 4, 3) := by decide +kernel
theorem dX7_paidBy_22 : decode cX7_paidBy 22 = .ok (.iconst 0, 1) := by decide +kernel
theorem dX7_paidBy_23 : decode cX7_paidBy 23 = .ok (.ireturn, 1) := by decide +kernel
theorem dX7_putBilled_0 : decode cX7_putBilled 0 = .ok (.iload_n 1, 1) := by decide +kernel
theorem dX7_putBilled_1 : decode cX7_putBilled 1 = .ok (.ifCond .lt 19, 3) := by decide +kernel
theorem dX7_putBilled_4 : decode cX7_putBilled 4 = .ok (.iload_n 1, 1) := by decide +kernel
theorem dX7_putBilled_5 : decode cX7_putBilled 5 = .ok (.aload_n 0, 1) := by decide +kernel
theorem dX7_putBilled_6 : decode cX7_putBilled 6 = .ok (.getfield 9, 3) := by decide +kernel
theorem dX7_putBilled_9 : decode cX7_putBilled 9 = .ok (.arraylength, 1) := by decide +kernel
theorem dX7_putBilled_10 : decode cX7_putBilled 10 = .ok (.if_icmp .ge 10, 3) := by decide +kernel
theorem dX7_putBilled_13 : decode cX7_putBilled 13 = .ok (.aload_n 0, 1) := by decide +kernel
theorem dX7_putBilled_14 : decode cX7_putBilled 14 = .ok (.getfield 9, 3) := by decide +kernel
theorem dX7_putBilled_17 : decode cX7_putBilled 17 = .ok (.iload_n 1, 1) := by decide +kernel
theorem dX7_putBilled_18 : decode cX7_putBilled 18 = .ok (.iload_n 2, 1) := by decide +kernel
theorem dX7_putBilled_19 : decode cX7_putBilled 19 = .ok (.iastore, 1) := by decide +kernel
theorem dX7_putBilled_20 : decode cX7_putBilled 20 = .ok (.return_, 1) := by decide +kernel
theorem dX7_putPaid_0 : decode cX7_putPaid 0 = .ok (.iload_n 1, 1) := by decide +kernel
theorem dX7_putPaid_1 : decode cX7_putPaid 1 = .ok (.ifCond .lt 19, 3) := by decide +kernel
theorem dX7_putPaid_4 : decode cX7_putPaid 4 = .ok (.iload_n 1, 1) := by decide +kernel
theorem dX7_putPaid_5 : decode cX7_putPaid 5 = .ok (.aload_n 0, 1) := by decide +kernel
theorem dX7_putPaid_6 : decode cX7_putPaid 6 = .ok (.getfield 15, 3) := by decide +kernel
theorem dX7_putPaid_9 : decode cX7_putPaid 9 = .ok (.arraylength, 1) := by decide +kernel
theorem dX7_putPaid_10 : decode cX7_putPaid 10 = .ok (.if_icmp .ge 10, 3) := by decide +kernel
theorem dX7_putPaid_13 : decode cX7_putPaid 13 = .ok (.aload_n 0, 1) := by decide +kernel
theorem dX7_putPaid_14 : decode cX7_putPaid 14 = .ok (.getfield 15, 3) := by decide +kernel
theorem dX7_putPaid_17 : decode cX7_putPaid 17 = .ok (.iload_n 1, 1) := by decide +kernel
theorem dX7_putPaid_18 : decode cX7_putPaid 18 = .ok (.iload_n 2, 1) := by decide +kernel
theorem dX7_putPaid_19 : decode cX7_putPaid 19 = .ok (.iastore, 1) := by decide +kernel
theorem dX7_putPaid_20 : decode cX7_putPaid 20 = .ok (.return_, 1) := by decide +kernel
set_option maxRecDepth 20000 in
theorem ggX8_init_X5_init : GoodIn wsX8_init wsX5_init := goodIn_r _ [20, 21, 2, 3, 22, 23, 37, 38] (by decide +kernel) (by decide +kernel)
set_option maxRecDepth 20000 in
theorem gX8_init_X5_init : GoodIn wsX8_init (wsX5_init) := ggX8_init_X5_init
set_option maxRecDepth 20000 in
theorem ggX8_init_X3_init : GoodIn wsX8_init wsX3_init := goodIn_r _ [26, 27, 2, 3, 28, 29, 43, 44] (by decide +kernel) (by decide +kernel)
set_option maxRecDepth 20000 in
theorem gX8_init_X3_init : GoodIn wsX8_init (wsX3_init) := ggX8_init_X3_init
set_option maxRecDepth 20000 in
theorem ggX8_init_X7_init : GoodIn wsX8_init wsX7_init := goodIn_r _ [32, 33, 2, 3, 34, 35, 36, 45, 46, 47, 48, 49] (by decide +kernel) (by decide +kernel)
set_option maxRecDepth 20000 in
theorem gX8_init_X7_init : GoodIn wsX8_init (wsX7_init) := ggX8_init_X7_init
theorem dX8_init_0 : decode cX8_init 0 = .ok (.aload_n 0, 1) := by decide +kernel
theorem dX8_init_1 : decode cX8_init 1 = .ok (.invokespecial 3, 3) := by decide +kernel
theorem dX8_init_4 : decode cX8_init 4 = .ok (.aload_n 0, 1) := by decide +kernel
theorem dX8_init_5 : decode cX8_init 5 = .ok (.new 9, 3) := by decide +kernel
theorem dX8_init_8 : decode cX8_init 8 = .ok (.dup, 1) := by decide +kernel
theorem dX8_init_9 : decode cX8_init 9 = .ok (.invokespecial 11, 3) := by decide +kernel
theorem dX8_init_12 : decode cX8_init 12 = .ok (.putfield 12, 3) := by decide +kernel
theorem dX8_init_15 : decode cX8_init 15 = .ok (.aload_n 0, 1) := by decide +kernel
theorem dX8_init_16 : decode cX8_init 16 = .ok (.new 16, 3) := by decide +kernel
theorem dX8_init_19 : decode cX8_init 19 = .ok (.dup, 1) := by decide +kernel
theorem dX8_init_20 : decode cX8_init 20 = .ok (.invokespecial 18, 3) := by decide +kernel
theorem dX8_init_23 : decode cX8_init 23 = .ok (.putfield 19, 3) := by decide +kernel
theorem dX8_init_26 : decode cX8_init 26 = .ok (.aload_n 0, 1) := by decide +kernel
theorem dX8_init_27 : decode cX8_init 27 = .ok (.bipush 40, 2) := by decide +kernel
theorem dX8_init_29 : decode cX8_init 29 = .ok (.newarray .long, 2) := by decide +kernel
theorem dX8_init_31 : decode cX8_init 31 = .ok (.putfield 23, 3) := by decide +kernel
theorem dX8_init_34 : decode cX8_init 34 = .ok (.aload_n 0, 1) := by decide +kernel
theorem dX8_init_35 : decode cX8_init 35 = .ok (.bipush 10, 2) := by decide +kernel
theorem dX8_init_37 : decode cX8_init 37 = .ok (.anewarray 27, 3) := by decide +kernel
theorem dX8_init_40 : decode cX8_init 40 = .ok (.putfield 29, 3) := by decide +kernel
theorem dX8_init_43 : decode cX8_init 43 = .ok (.iconst 0, 1) := by decide +kernel
theorem dX8_init_44 : decode cX8_init 44 = .ok (.istore_n 1, 1) := by decide +kernel
theorem dX8_init_45 : decode cX8_init 45 = .ok (.iload_n 1, 1) := by decide +kernel
theorem dX8_init_46 : decode cX8_init 46 = .ok (.aload_n 0, 1) := by decide +kernel
theorem dX8_init_47 : decode cX8_init 47 = .ok (.getfield 29, 3) := by decide +kernel
theorem dX8_init_50 : decode cX8_init 50 = .ok (.arraylength, 1) := by decide +kernel
theorem dX8_init_51 : decode cX8_init 51 = .ok (.if_icmp .ge 22, 3) := by decide +kernel
theorem dX8_init_54 : decode cX8_init 54 = .ok (.aload_n 0, 1) := by decide +kernel
theorem dX8_init_55 : decode cX8_init 55 = .ok (.getfield 29, 3) := by decide +kernel
theorem dX8_init_58 : decode cX8_init 58 = .ok (.iload_n 1, 1) := by decide +kernel
theorem dX8_init_59 : decode cX8_init 59 = .ok (.new 27, 3) := by decide +kernel
theorem dX8_init_62 : decode cX8_init 62 = .ok (.dup, 1) := by decide +kernel
theorem dX8_init_63 : decode cX8_init 63 = .ok (.invokespecial 33, 3) := by decide +kernel
theorem dX8_init_66 : decode cX8_init 66 = .ok (.aastore, 1) := by decide +kernel
theorem dX8_init_67 : decode cX8_init 67 = .ok (.iinc 1 1, 3) := by decide +kernel
theorem dX8_init_70 : decode cX8_init 70 = .ok (.goto (-25), 3) := by decide +kernel
theorem dX8_init_73 : decode cX8_init 73 = .ok (.return_, 1) := by decide +kernel
set_option maxRecDepth 20000 in
theorem ggX8_house_X8_isOf : GoodIn wsX8_house wsX8_isOf := goodIn_r _ [6] (by decide +kernel) (by decide +kernel)
set_option maxRecDepth 20000 in
theorem gX8_house_X8_isOf : GoodIn wsX8_house (va_wsS RX8 34 yX8_isOf wsX8_isOf) := goodIn_app (goodIn_of _ (by decide +kernel)) ggX8_house_X8_isOf
set_option maxRecDepth 20000 in
theorem ggX8_house_X8_isWithin : GoodIn wsX8_house wsX8_isWithin := goodIn_r _ [9] (by decide +kernel) (by decide +kernel)
set_option maxRecDepth 20000 in
theorem gX8_house_X8_isWithin : GoodIn wsX8_house (va_wsS RX8 38 yX8_isWithin wsX8_isWithin) := goodIn_app (goodIn_of _ (by decide +kernel)) ggX8_house_X8_isWithin
set_option maxRecDepth 20000 in
theorem ggX8_house_X5_add : GoodIn wsX8_house wsX5_add := goodIn_r _ [14, 15, 16, 17, 18, 19, 20, 21, 22, 23, 24, 25, 26, 27, 28, 29, 30, 31, 32, 33, 34, 35, 36, 37, 38, 39, 40, 41, 46, 47, 48, 49, 50, 51, 52, 53, 54, 55, 56] (by decide +kernel) (by decide +kernel)
set_option maxRecDepth 20000 in
theorem gX8_house_X5_add : GoodIn wsX8_house (wsV RX8 43 RX5 yX5_add wsX5_add) := goodIn_app (goodIn_of _ (by decide +kernel)) ggX8_house_X5_add
theorem dX8_house_0 : decode cX8_house 0 = .ok (.iload_n 1, 1) := by decide +kernel
theorem dX8_house_1 : decode cX8_house 1 = .ok (.iconst 4, 1) := by decide +kernel
theorem dX8_house_2 : decode cX8_house 2 = .ok (.invokestatic 34, 3) := by decide +kernel
theorem dX8_house_5 : decode cX8_house 5 = .ok (.ifCond .eq 43, 3) := by decide +kernel
theorem dX8_house_8 : decode cX8_house 8 = .ok (.iload_n 2, 1) := by decide +kernel
theorem dX8_house_9 : decode cX8_house 9 = .ok (.iconst 3, 1) := by decide +kernel
theorem dX8_house_10 : decode cX8_house 10 = .ok (.invokestatic 34, 3) := by decide +kernel
theorem dX8_house_13 : decode cX8_house 13 = .ok (.ifCond .eq 35, 3) := by decide +kernel
theorem dX8_house_16 : decode cX8_house 16 = .ok (.iload_n 3, 1) := by decide +kernel
theorem dX8_house_17 : decode cX8_house 17 = .ok (.bipush 6, 2) := by decide +kernel
theorem dX8_house_19 : decode cX8_house 19 = .ok (.invokestatic 34, 3) := by decide +kernel
theorem dX8_house_22 : decode cX8_house 22 = .ok (.ifCond .eq 26, 3) := by decide +kernel
theorem dX8_house_25 : decode cX8_house 25 = .ok (.iload 4, 2) := by decide +kernel
theorem dX8_house_27 : decode cX8_house 27 = .ok (.iconst 1, 1) := by decide +kernel
theorem dX8_house_28 : decode cX8_house 28 = .ok (.sipush 500, 3) := by decide +kernel
theorem dX8_house_31 : decode cX8_house 31 = .ok (.invokestatic 38, 3) := by decide +kernel
theorem dX8_house_34 : decode cX8_house 34 = .ok (.ifCond .eq 14, 3) := by decide +kernel
theorem dX8_house_37 : decode cX8_house 37 = .ok (.iload 5, 2) := by decide +kernel
theorem dX8_house_39 : decode cX8_house 39 = .ok (.iconst 0, 1) := by decide +kernel
theorem dX8_house_40 : decode cX8_house 40 = .ok (.ldc 42, 2) := by decide +kernel
theorem dX8_house_42 : decode cX8_house 42 = .ok (.invokestatic 38, 3) := by decide +kernel
theorem dX8_house_45 : decode cX8_house 45 = .ok (.ifCond .ne 5, 3) := by decide +kernel
theorem dX8_house_48 : decode cX8_house 48 = .ok (.iconst (-1), 1) := by decide +kernel
theorem dX8_house_49 : decode cX8_house 49 = .ok (.ireturn, 1) := by decide +kernel
theorem dX8_house_50 : decode cX8_house 50 = .ok (.aload_n 0, 1) := by decide +kernel
theorem dX8_house_51 : decode cX8_house 51 = .ok (.getfield 12, 3) := by decide +kernel
theorem dX8_house_54 : decode cX8_house 54 = .ok (.iload_n 1, 1) := by decide +kernel
theorem dX8_house_55 : decode cX8_house 55 = .ok (.iload_n 2, 1) := by decide +kernel
theorem dX8_house_56 : decode cX8_house 56 = .ok (.iload_n 3, 1) := by decide +kernel
theorem dX8_house_57 : decode cX8_house 57 = .ok (.iload 4, 2) := by decide +kernel
theorem dX8_house_59 : decode cX8_house 59 = .ok (.iload 5, 2) := by decide +kernel
theorem dX8_house_61 : decode cX8_house 61 = .ok (.invokevirtual 43, 3) := by decide +kernel
theorem dX8_house_64 : decode cX8_house 64 = .ok (.ireturn, 1) := by decide +kernel
