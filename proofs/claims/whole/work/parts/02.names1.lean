theorem dX0_init_0 : decode cX0_init 0 = .ok (.aload_n 0, 1) := by decide +kernel
theorem dX0_init_1 : decode cX0_init 1 = .ok (.invokespecial 1, 3) := by decide +kernel
theorem dX0_init_4 : decode cX0_init 4 = .ok (.aload_n 0, 1) := by decide +kernel
theorem dX0_init_5 : decode cX0_init 5 = .ok (.iload_n 1, 1) := by decide +kernel
theorem dX0_init_6 : decode cX0_init 6 = .ok (.putfield 7, 3) := by decide +kernel
theorem dX0_init_9 : decode cX0_init 9 = .ok (.aload_n 0, 1) := by decide +kernel
theorem dX0_init_10 : decode cX0_init 10 = .ok (.iload_n 2, 1) := by decide +kernel
theorem dX0_init_11 : decode cX0_init 11 = .ok (.putfield 13, 3) := by decide +kernel
theorem dX0_init_14 : decode cX0_init 14 = .ok (.aload_n 0, 1) := by decide +kernel
theorem dX0_init_15 : decode cX0_init 15 = .ok (.iload_n 3, 1) := by decide +kernel
theorem dX0_init_16 : decode cX0_init 16 = .ok (.putfield 16, 3) := by decide +kernel
theorem dX0_init_19 : decode cX0_init 19 = .ok (.aload_n 0, 1) := by decide +kernel
theorem dX0_init_20 : decode cX0_init 20 = .ok (.iload 4, 2) := by decide +kernel
theorem dX0_init_22 : decode cX0_init 22 = .ok (.putfield 19, 3) := by decide +kernel
theorem dX0_init_25 : decode cX0_init 25 = .ok (.return_, 1) := by decide +kernel
theorem dX1_init_0 : decode cX1_init 0 = .ok (.aload_n 0, 1) := by decide +kernel
theorem dX1_init_1 : decode cX1_init 1 = .ok (.invokespecial 3, 3) := by decide +kernel
theorem dX1_init_4 : decode cX1_init 4 = .ok (.aload_n 0, 1) := by decide +kernel
theorem dX1_init_5 : decode cX1_init 5 = .ok (.bipush 12, 2) := by decide +kernel
theorem dX1_init_7 : decode cX1_init 7 = .ok (.anewarray 9, 3) := by decide +kernel
theorem dX1_init_10 : decode cX1_init 10 = .ok (.putfield 11, 3) := by decide +kernel
theorem dX1_init_13 : decode cX1_init 13 = .ok (.return_, 1) := by decide +kernel
theorem dX1_isFull_0 : decode cX1_isFull 0 = .ok (.aload_n 0, 1) := by decide +kernel
theorem dX1_isFull_1 : decode cX1_isFull 1 = .ok (.getfield 17, 3) := by decide +kernel
theorem dX1_isFull_4 : decode cX1_isFull 4 = .ok (.aload_n 0, 1) := by decide +kernel
theorem dX1_isFull_5 : decode cX1_isFull 5 = .ok (.getfield 11, 3) := by decide +kernel
theorem dX1_isFull_8 : decode cX1_isFull 8 = .ok (.arraylength, 1) := by decide +kernel
theorem dX1_isFull_9 : decode cX1_isFull 9 = .ok (.if_icmp .lt 7, 3) := by decide +kernel
theorem dX1_isFull_12 : decode cX1_isFull 12 = .ok (.iconst 1, 1) := by decide +kernel
theorem dX1_isFull_13 : decode cX1_isFull 13 = .ok (.goto 4, 3) := by decide +kernel
theorem dX1_isFull_16 : decode cX1_isFull 16 = .ok (.iconst 0, 1) := by decide +kernel
theorem dX1_isFull_17 : decode cX1_isFull 17 = .ok (.ireturn, 1) := by decide +kernel
set_option maxRecDepth 20000 in
theorem ggX1_add_X0_init : GoodIn wsX1_add wsX0_init := goodIn_r _ [9, 10, 11, 12, 13, 14, 15, 16, 19, 20, 21, 22] (by decide +kernel) (by decide +kernel)
set_option maxRecDepth 20000 in
theorem gX1_add_X0_init : GoodIn wsX1_add (wsX0_init) := ggX1_add_X0_init
theorem dX1_add_0 : decode cX1_add 0 = .ok (.aload_n 0, 1) := by decide +kernel
theorem dX1_add_1 : decode cX1_add 1 = .ok (.getfield 17, 3) := by decide +kernel
theorem dX1_add_4 : decode cX1_add 4 = .ok (.ifCond .lt 15, 3) := by decide +kernel
theorem dX1_add_7 : decode cX1_add 7 = .ok (.aload_n 0, 1) := by decide +kernel
theorem dX1_add_8 : decode cX1_add 8 = .ok (.getfield 17, 3) := by decide +kernel
theorem dX1_add_11 : decode cX1_add 11 = .ok (.aload_n 0, 1) := by decide +kernel
theorem dX1_add_12 : decode cX1_add 12 = .ok (.getfield 11, 3) := by decide +kernel
theorem dX1_add_15 : decode cX1_add 15 = .ok (.arraylength, 1) := by decide +kernel
theorem dX1_add_16 : decode cX1_add 16 = .ok (.if_icmp .lt 4, 3) := by decide +kernel
theorem dX1_add_19 : decode cX1_add 19 = .ok (.return_, 1) := by decide +kernel
theorem dX1_add_20 : decode cX1_add 20 = .ok (.aload_n 0, 1) := by decide +kernel
theorem dX1_add_21 : decode cX1_add 21 = .ok (.getfield 17, 3) := by decide +kernel
theorem dX1_add_24 : decode cX1_add 24 = .ok (.istore 4, 2) := by decide +kernel
theorem dX1_add_26 : decode cX1_add 26 = .ok (.iload 4, 2) := by decide +kernel
theorem dX1_add_28 : decode cX1_add 28 = .ok (.ifCond .le 46, 3) := by decide +kernel
theorem dX1_add_31 : decode cX1_add 31 = .ok (.aload_n 0, 1) := by decide +kernel
theorem dX1_add_32 : decode cX1_add 32 = .ok (.getfield 11, 3) := by decide +kernel
theorem dX1_add_35 : decode cX1_add 35 = .ok (.iload 4, 2) := by decide +kernel
theorem dX1_add_37 : decode cX1_add 37 = .ok (.iconst 1, 1) := by decide +kernel
theorem dX1_add_38 : decode cX1_add 38 = .ok (.isub, 1) := by decide +kernel
theorem dX1_add_39 : decode cX1_add 39 = .ok (.aaload, 1) := by decide +kernel
theorem dX1_add_40 : decode cX1_add 40 = .ok (.astore 5, 2) := by decide +kernel
theorem dX1_add_42 : decode cX1_add 42 = .ok (.aload 5, 2) := by decide +kernel
theorem dX1_add_44 : decode cX1_add 44 = .ok (.ifnull 15, 3) := by decide +kernel
theorem dX1_add_47 : decode cX1_add 47 = .ok (.aload 5, 2) := by decide +kernel
theorem dX1_add_49 : decode cX1_add 49 = .ok (.getfield 21, 3) := by decide +kernel
theorem dX1_add_52 : decode cX1_add 52 = .ok (.iload_n 1, 1) := by decide +kernel
theorem dX1_add_53 : decode cX1_add 53 = .ok (.if_icmp .gt 6, 3) := by decide +kernel
theorem dX1_add_56 : decode cX1_add 56 = .ok (.goto 18, 3) := by decide +kernel
theorem dX1_add_59 : decode cX1_add 59 = .ok (.aload_n 0, 1) := by decide +kernel
theorem dX1_add_60 : decode cX1_add 60 = .ok (.getfield 11, 3) := by decide +kernel
theorem dX1_add_63 : decode cX1_add 63 = .ok (.iload 4, 2) := by decide +kernel
theorem dX1_add_65 : decode cX1_add 65 = .ok (.aload 5, 2) := by decide +kernel
theorem dX1_add_67 : decode cX1_add 67 = .ok (.aastore, 1) := by decide +kernel
theorem dX1_add_68 : decode cX1_add 68 = .ok (.iinc 4 (-1), 3) := by decide +kernel
theorem dX1_add_71 : decode cX1_add 71 = .ok (.goto (-45), 3) := by decide +kernel
theorem dX1_add_74 : decode cX1_add 74 = .ok (.aload_n 0, 1) := by decide +kernel
theorem dX1_add_75 : decode cX1_add 75 = .ok (.getfield 11, 3) := by decide +kernel
theorem dX1_add_78 : decode cX1_add 78 = .ok (.iload 4, 2) := by decide +kernel
theorem dX1_add_80 : decode cX1_add 80 = .ok (.new 9, 3) := by decide +kernel
theorem dX1_add_83 : decode cX1_add 83 = .ok (.dup, 1) := by decide +kernel
theorem dX1_add_84 : decode cX1_add 84 = .ok (.aload_n 0, 1) := by decide +kernel
theorem dX1_add_85 : decode cX1_add 85 = .ok (.getfield 17, 3) := by decide +kernel
theorem dX1_add_88 : decode cX1_add 88 = .ok (.iload_n 1, 1) := by decide +kernel
theorem dX1_add_89 : decode cX1_add 89 = .ok (.iload_n 2, 1) := by decide +kernel
theorem dX1_add_90 : decode cX1_add 90 = .ok (.iload_n 3, 1) := by decide +kernel
theorem dX1_add_91 : decode cX1_add 91 = .ok (.invokespecial 24, 3) := by decide +kernel
theorem dX1_add_94 : decode cX1_add 94 = .ok (.aastore, 1) := by decide +kernel
theorem dX1_add_95 : decode cX1_add 95 = .ok (.aload_n 0, 1) := by decide +kernel
theorem dX1_add_96 : decode cX1_add 96 = .ok (.dup, 1) := by decide +kernel
theorem dX1_add_97 : decode cX1_add 97 = .ok (.getfield 17, 3) := by decide +kernel
theorem dX1_add_100 : decode cX1_add 100 = .ok (.iconst 1, 1) := by decide +kernel
theorem dX1_add_101 : decode cX1_add 101 = .ok (.iadd, 1) := by decide +kernel
theorem dX1_add_102 : decode cX1_add 102 = .ok (.putfield 17, 3) := by decide +kernel
theorem dX1_add_105 : decode cX1_add 105 = .ok (.return_, 1) := by decide +kernel
theorem dX1_dropLatestTold_0 : decode cX1_dropLatestTold 0 = .ok (.aload_n 0, 1) := by decide +kernel
theorem dX1_dropLatestTold_1 : decode cX1_dropLatestTold 1 = .ok (.getfield 17, 3) := by decide +kernel
theorem dX1_dropLatestTold_4 : decode cX1_dropLatestTold 4 = .ok (.ifCond .gt 4, 3) := by decide +kernel
theorem dX1_dropLatestTold_7 : decode cX1_dropLatestTold 7 = .ok (.return_, 1) := by decide +kernel
theorem dX1_dropLatestTold_8 : decode cX1_dropLatestTold 8 = .ok (.iconst 0, 1) := by decide +kernel
theorem dX1_dropLatestTold_9 : decode cX1_dropLatestTold 9 = .ok (.istore_n 1, 1) := by decide +kernel
theorem dX1_dropLatestTold_10 : decode cX1_dropLatestTold 10 = .ok (.iconst 0, 1) := by decide +kernel
theorem dX1_dropLatestTold_11 : decode cX1_dropLatestTold 11 = .ok (.istore_n 2, 1) := by decide +kernel
theorem dX1_dropLatestTold_12 : decode cX1_dropLatestTold 12 = .ok (.iload_n 2, 1) := by decide +kernel
theorem dX1_dropLatestTold_13 : decode cX1_dropLatestTold 13 = .ok (.aload_n 0, 1) := by decide +kernel
theorem dX1_dropLatestTold_14 : decode cX1_dropLatestTold 14 = .ok (.getfield 11, 3) := by decide +kernel
theorem dX1_dropLatestTold_17 : decode cX1_dropLatestTold 17 = .ok (.arraylength, 1) := by decide +kernel
theorem dX1_dropLatestTold_18 : decode cX1_dropLatestTold 18 = .ok (.if_icmp .ge 76, 3) := by decide +kernel
theorem dX1_dropLatestTold_21 : decode cX1_dropLatestTold 21 = .ok (.aload_n 0, 1) := by decide +kernel
theorem dX1_dropLatestTold_22 : decode cX1_dropLatestTold 22 = .ok (.getfield 11, 3) := by decide +kernel
theorem dX1_dropLatestTold_25 : decode cX1_dropLatestTold 25 = .ok (.iload_n 2, 1) := by decide +kernel
theorem dX1_dropLatestTold_26 : decode cX1_dropLatestTold 26 = .ok (.aaload, 1) := by decide +kernel
theorem dX1_dropLatestTold_27 : decode cX1_dropLatestTold 27 = .ok (.astore_n 3, 1) := by decide +kernel
theorem dX1_dropLatestTold_28 : decode cX1_dropLatestTold 28 = .ok (.iload_n 1, 1) := by decide +kernel
theorem dX1_dropLatestTold_29 : decode cX1_dropLatestTold 29 = .ok (.ifCond .ne 20, 3) := by decide +kernel
theorem dX1_dropLatestTold_32 : decode cX1_dropLatestTold 32 = .ok (.aload_n 3, 1) := by decide +kernel
theorem dX1_dropLatestTold_33 : decode cX1_dropLatestTold 33 = .ok (.ifnull 20, 3) := by decide +kernel
theorem dX1_dropLatestTold_36 : decode cX1_dropLatestTold 36 = .ok (.aload_n 3, 1) := by decide +kernel
theorem dX1_dropLatestTold_37 : decode cX1_dropLatestTold 37 = .ok (.getfield 27, 3) := by decide +kernel
theorem dX1_dropLatestTold_40 : decode cX1_dropLatestTold 40 = .ok (.aload_n 0, 1) := by decide +kernel
theorem dX1_dropLatestTold_41 : decode cX1_dropLatestTold 41 = .ok (.getfield 17, 3) := by decide +kernel
theorem dX1_dropLatestTold_44 : decode cX1_dropLatestTold 44 = .ok (.iconst 1, 1) := by decide +kernel
theorem dX1_dropLatestTold_45 : decode cX1_dropLatestTold 45 = .ok (.isub, 1) := by decide +kernel
theorem dX1_dropLatestTold_46 : decode cX1_dropLatestTold 46 = .ok (.if_icmp .ne 7, 3) := by decide +kernel
theorem dX1_dropLatestTold_49 : decode cX1_dropLatestTold 49 = .ok (.iconst 1, 1) := by decide +kernel
theorem dX1_dropLatestTold_50 : decode cX1_dropLatestTold 50 = .ok (.goto 4, 3) := by decide +kernel
theorem dX1_dropLatestTold_53 : decode cX1_dropLatestTold 53 = .ok (.iconst 0, 1) := by decide +kernel
theorem dX1_dropLatestTold_54 : decode cX1_dropLatestTold 54 = .ok (.istore_n 1, 1) := by decide +kernel
theorem dX1_dropLatestTold_55 : decode cX1_dropLatestTold 55 = .ok (.iload_n 1, 1) := by decide +kernel
theorem dX1_dropLatestTold_56 : decode cX1_dropLatestTold 56 = .ok (.ifCond .eq 32, 3) := by decide +kernel
theorem dX1_dropLatestTold_59 : decode cX1_dropLatestTold 59 = .ok (.aload_n 0, 1) := by decide +kernel
theorem dX1_dropLatestTold_60 : decode cX1_dropLatestTold 60 = .ok (.getfield 11, 3) := by decide +kernel
theorem dX1_dropLatestTold_63 : decode cX1_dropLatestTold 63 = .ok (.iload_n 2, 1) := by decide +kernel
theorem dX1_dropLatestTold_64 : decode cX1_dropLatestTold 64 = .ok (.iload_n 2, 1) := by decide +kernel
theorem dX1_dropLatestTold_65 : decode cX1_dropLatestTold 65 = .ok (.iconst 1, 1) := by decide +kernel
theorem dX1_dropLatestTold_66 : decode cX1_dropLatestTold 66 = .ok (.iadd, 1) := by decide +kernel
theorem dX1_dropLatestTold_67 : decode cX1_dropLatestTold 67 = .ok (.aload_n 0, 1) := by decide +kernel
theorem dX1_dropLatestTold_68 : decode cX1_dropLatestTold 68 = .ok (.getfield 11, 3) := by decide +kernel
theorem dX1_dropLatestTold_71 : decode cX1_dropLatestTold 71 = .ok (.arraylength, 1) := by decide +kernel
theorem dX1_dropLatestTold_72 : decode cX1_dropLatestTold 72 = .ok (.if_icmp .ge 14, 3) := by decide +kernel
theorem dX1_dropLatestTold_75 : decode cX1_dropLatestTold 75 = .ok (.aload_n 0, 1) := by decide +kernel
theorem dX1_dropLatestTold_76 : decode cX1_dropLatestTold 76 = .ok (.getfield 11, 3) := by decide +kernel
theorem dX1_dropLatestTold_79 : decode cX1_dropLatestTold 79 = .ok (.iload_n 2, 1) := by decide +kernel
theorem dX1_dropLatestTold_80 : decode cX1_dropLatestTold 80 = .ok (.iconst 1, 1) := by decide +kernel
theorem dX1_dropLatestTold_81 : decode cX1_dropLatestTold 81 = .ok (.iadd, 1) := by decide +kernel
theorem dX1_dropLatestTold_82 : decode cX1_dropLatestTold 82 = .ok (.aaload, 1) := by decide +kernel
theorem dX1_dropLatestTold_83 : decode cX1_dropLatestTold 83 = .ok (.goto 4, 3) := by decide +kernel
theorem dX1_dropLatestTold_86 : decode cX1_dropLatestTold 86 = .ok (.aconst_null, 1) := by decide +kernel
theorem dX1_dropLatestTold_87 : decode cX1_dropLatestTold 87 = .ok (.aastore, 1) := by decide +kernel
theorem dX1_dropLatestTold_88 : decode cX1_dropLatestTold 88 = .ok (.iinc 2 1, 3) := by decide +kernel
theorem dX1_dropLatestTold_91 : decode cX1_dropLatestTold 91 = .ok (.goto (-79), 3) := by decide +kernel
theorem dX1_dropLatestTold_94 : decode cX1_dropLatestTold 94 = .ok (.aload_n 0, 1) := by decide +kernel
theorem dX1_dropLatestTold_95 : decode cX1_dropLatestTold 95 = .ok (.dup, 1) := by decide +kernel
theorem dX1_dropLatestTold_96 : decode cX1_dropLatestTold 96 = .ok (.getfield 17, 3) := by decide +kernel
theorem dX1_dropLatestTold_99 : decode cX1_dropLatestTold 99 = .ok (.iconst 1, 1) := by decide +kernel
theorem dX1_dropLatestTold_100 : decode cX1_dropLatestTold 100 = .ok (.isub, 1) := by decide +kernel
theorem dX1_dropLatestTold_101 : decode cX1_dropLatestTold 101 = .ok (.putfield 17, 3) := by decide +kernel
theorem dX1_dropLatestTold_104 : decode cX1_dropLatestTold 104 = .ok (.return_, 1) := by decide +kernel
theorem dX1_latestOf_0 : decode cX1_latestOf 0 = .ok (.aconst_null, 1) := by decide +kernel
theorem dX1_latestOf_1 : decode cX1_latestOf 1 = .ok (.astore_n 3, 1) := by decide +kernel
theorem dX1_latestOf_2 : decode cX1_latestOf 2 = .ok (.iconst 0, 1) := by decide +kernel
theorem dX1_latestOf_3 : decode cX1_latestOf 3 = .ok (.istore 4, 2) := by decide +kernel
theorem dX1_latestOf_5 : decode cX1_latestOf 5 = .ok (.iload 4, 2) := by decide +kernel
theorem dX1_latestOf_7 : decode cX1_latestOf 7 = .ok (.aload_n 0, 1) := by decide +kernel
theorem dX1_latestOf_8 : decode cX1_latestOf 8 = .ok (.getfield 11, 3) := by decide +kernel
theorem dX1_latestOf_11 : decode cX1_latestOf 11 = .ok (.arraylength, 1) := by decide +kernel
theorem dX1_latestOf_12 : decode cX1_latestOf 12 = .ok (.if_icmp .ge 44, 3) := by decide +kernel
theorem dX1_latestOf_15 : decode cX1_latestOf 15 = .ok (.aload_n 0, 1) := by decide +kernel
theorem dX1_latestOf_16 : decode cX1_latestOf 16 = .ok (.getfield 11, 3) := by decide +kernel
theorem dX1_latestOf_19 : decode cX1_latestOf 19 = .ok (.iload 4, 2) := by decide +kernel
theorem dX1_latestOf_21 : decode cX1_latestOf 21 = .ok (.aaload, 1) := by decide +kernel
theorem dX1_latestOf_22 : decode cX1_latestOf 22 = .ok (.astore 5, 2) := by decide +kernel
theorem dX1_latestOf_24 : decode cX1_latestOf 24 = .ok (.aload 5, 2) := by decide +kernel
theorem dX1_latestOf_26 : decode cX1_latestOf 26 = .ok (.ifnull 24, 3) := by decide +kernel
theorem dX1_latestOf_29 : decode cX1_latestOf 29 = .ok (.aload 5, 2) := by decide +kernel
theorem dX1_latestOf_31 : decode cX1_latestOf 31 = .ok (.getfield 30, 3) := by decide +kernel
theorem dX1_latestOf_34 : decode cX1_latestOf 34 = .ok (.iload_n 1, 1) := by decide +kernel
theorem dX1_latestOf_35 : decode cX1_latestOf 35 = .ok (.if_icmp .ne 15, 3) := by decide +kernel
theorem dX1_latestOf_38 : decode cX1_latestOf 38 = .ok (.aload 5, 2) := by decide +kernel
theorem dX1_latestOf_40 : decode cX1_latestOf 40 = .ok (.getfield 21, 3) := by decide +kernel
theorem dX1_latestOf_43 : decode cX1_latestOf 43 = .ok (.iload_n 2, 1) := by decide +kernel
theorem dX1_latestOf_44 : decode cX1_latestOf 44 = .ok (.if_icmp .gt 6, 3) := by decide +kernel
theorem dX1_latestOf_47 : decode cX1_latestOf 47 = .ok (.aload 5, 2) := by decide +kernel
theorem dX1_latestOf_49 : decode cX1_latestOf 49 = .ok (.astore_n 3, 1) := by decide +kernel
theorem dX1_latestOf_50 : decode cX1_latestOf 50 = .ok (.iinc 4 1, 3) := by decide +kernel
theorem dX1_latestOf_53 : decode cX1_latestOf 53 = .ok (.goto (-48), 3) := by decide +kernel
theorem dX1_latestOf_56 : decode cX1_latestOf 56 = .ok (.aload_n 3, 1) := by decide +kernel
theorem dX1_latestOf_57 : decode cX1_latestOf 57 = .ok (.areturn, 1) := by decide +kernel
theorem dX1_cutDown_0 : decode cX1_cutDown 0 = .ok (.lload_n 1, 1) := by decide +kernel
theorem dX1_cutDown_1 : decode cX1_cutDown 1 = .ok (.lstore 5, 2) := by decide +kernel
theorem dX1_cutDown_3 : decode cX1_cutDown 3 = .ok (.iconst 0, 1) := by decide +kernel
theorem dX1_cutDown_4 : decode cX1_cutDown 4 = .ok (.istore 7, 2) := by decide +kernel
theorem dX1_cutDown_6 : decode cX1_cutDown 6 = .ok (.iload 7, 2) := by decide +kernel
theorem dX1_cutDown_8 : decode cX1_cutDown 8 = .ok (.aload_n 0, 1) := by decide +kernel
theorem dX1_cutDown_9 : decode cX1_cutDown 9 = .ok (.getfield 11, 3) := by decide +kernel
theorem dX1_cutDown_12 : decode cX1_cutDown 12 = .ok (.arraylength, 1) := by decide +kernel
theorem dX1_cutDown_13 : decode cX1_cutDown 13 = .ok (.if_icmp .ge 70, 3) := by decide +kernel
theorem dX1_cutDown_16 : decode cX1_cutDown 16 = .ok (.aload_n 0, 1) := by decide +kernel
theorem dX1_cutDown_17 : decode cX1_cutDown 17 = .ok (.getfield 11, 3) := by decide +kernel
theorem dX1_cutDown_20 : decode cX1_cutDown 20 = .ok (.iload 7, 2) := by decide +kernel
theorem dX1_cutDown_22 : decode cX1_cutDown 22 = .ok (.aaload, 1) := by decide +kernel
theorem dX1_cutDown_23 : decode cX1_cutDown 23 = .ok (.astore 8, 2) := by decide +kernel
theorem dX1_cutDown_25 : decode cX1_cutDown 25 = .ok (.aload 8, 2) := by decide +kernel
theorem dX1_cutDown_27 : decode cX1_cutDown 27 = .ok (.ifnull 50, 3) := by decide +kernel
theorem dX1_cutDown_30 : decode cX1_cutDown 30 = .ok (.aload 8, 2) := by decide +kernel
theorem dX1_cutDown_32 : decode cX1_cutDown 32 = .ok (.getfield 30, 3) := by decide +kernel
theorem dX1_cutDown_35 : decode cX1_cutDown 35 = .ok (.iconst 2, 1) := by decide +kernel
theorem dX1_cutDown_36 : decode cX1_cutDown 36 = .ok (.if_icmp .ne 41, 3) := by decide +kernel
theorem dX1_cutDown_39 : decode cX1_cutDown 39 = .ok (.aload 8, 2) := by decide +kernel
theorem dX1_cutDown_41 : decode cX1_cutDown 41 = .ok (.getfield 21, 3) := by decide +kernel
theorem dX1_cutDown_44 : decode cX1_cutDown 44 = .ok (.iload_n 3, 1) := by decide +kernel
theorem dX1_cutDown_45 : decode cX1_cutDown 45 = .ok (.if_icmp .lt 32, 3) := by decide +kernel
theorem dX1_cutDown_48 : decode cX1_cutDown 48 = .ok (.aload 8, 2) := by decide +kernel
theorem dX1_cutDown_50 : decode cX1_cutDown 50 = .ok (.getfield 21, 3) := by decide +kernel
theorem dX1_cutDown_53 : decode cX1_cutDown 53 = .ok (.iload 4, 2) := by decide +kernel
theorem dX1_cutDown_55 : decode cX1_cutDown 55 = .ok (.if_icmp .gt 22, 3) := by decide +kernel
theorem dX1_cutDown_58 : decode cX1_cutDown 58 = .ok (.lload 5, 2) := by decide +kernel
theorem dX1_cutDown_60 : decode cX1_cutDown 60 = .ok (.sipush 1000, 3) := by decide +kernel
theorem dX1_cutDown_63 : decode cX1_cutDown 63 = .ok (.aload 8, 2) := by decide +kernel
theorem dX1_cutDown_65 : decode cX1_cutDown 65 = .ok (.getfield 33, 3) := by decide +kernel
theorem dX1_cutDown_68 : decode cX1_cutDown 68 = .ok (.isub, 1) := by decide +kernel
theorem dX1_cutDown_69 : decode cX1_cutDown 69 = .ok (.i2l, 1) := by decide +kernel
theorem dX1_cutDown_70 : decode cX1_cutDown 70 = .ok (.lmul, 1) := by decide +kernel
theorem dX1_cutDown_71 : decode cX1_cutDown 71 = .ok (.ldc2_w 36, 3) := by decide +kernel
theorem dX1_cutDown_74 : decode cX1_cutDown 74 = .ok (.ldiv, 1) := by decide +kernel
theorem dX1_cutDown_75 : decode cX1_cutDown 75 = .ok (.lstore 5, 2) := by decide +kernel
theorem dX1_cutDown_77 : decode cX1_cutDown 77 = .ok (.iinc 7 1, 3) := by decide +kernel
theorem dX1_cutDown_80 : decode cX1_cutDown 80 = .ok (.goto (-74), 3) := by decide +kernel
theorem dX1_cutDown_83 : decode cX1_cutDown 83 = .ok (.lload 5, 2) := by decide +kernel
theorem dX1_cutDown_85 : decode cX1_cutDown 85 = .ok (.lreturn, 1) := by decide +kernel
set_option maxRecDepth 20000 in
theorem ggX1_nextChange_X8_sooner : GoodIn wsX1_nextChange wsX8_sooner := goodIn_r _ [5] (by decide +kernel) (by decide +kernel)
set_option maxRecDepth 20000 in
theorem gX1_nextChange_X8_sooner_n38 : GoodIn wsX1_nextChange (wsX8_sooner) := ggX1_nextChange_X8_sooner
theorem dX1_nextChange_0 : decode cX1_nextChange 0 = .ok (.iload_n 2, 1) := by decide +kernel
theorem dX1_nextChange_1 : decode cX1_nextChange 1 = .ok (.istore_n 3, 1) := by decide +kernel
theorem dX1_nextChange_2 : decode cX1_nextChange 2 = .ok (.iconst 0, 1) := by decide +kernel
theorem dX1_nextChange_3 : decode cX1_nextChange 3 = .ok (.istore 4, 2) := by decide +kernel
theorem dX1_nextChange_5 : decode cX1_nextChange 5 = .ok (.iload 4, 2) := by decide +kernel
theorem dX1_nextChange_7 : decode cX1_nextChange 7 = .ok (.aload_n 0, 1) := by decide +kernel
theorem dX1_nextChange_8 : decode cX1_nextChange 8 = .ok (.getfield 11, 3) := by decide +kernel
theorem dX1_nextChange_11 : decode cX1_nextChange 11 = .ok (.arraylength, 1) := by decide +kernel
theorem dX1_nextChange_12 : decode cX1_nextChange 12 = .ok (.if_icmp .ge 48, 3) := by decide +kernel
theorem dX1_nextChange_15 : decode cX1_nextChange 15 = .ok (.aload_n 0, 1) := by decide +kernel
theorem dX1_nextChange_16 : decode cX1_nextChange 16 = .ok (.getfield 11, 3) := by decide +kernel
theorem dX1_nextChange_19 : decode cX1_nextChange 19 = .ok (.iload 4, 2) := by decide +kernel
theorem dX1_nextChange_21 : decode cX1_nextChange 21 = .ok (.aaload, 1) := by decide +kernel
theorem dX1_nextChange_22 : decode cX1_nextChange 22 = .ok (.astore 5, 2) := by decide +kernel
theorem dX1_nextChange_24 : decode cX1_nextChange 24 = .ok (.aload 5, 2) := by decide +kernel
theorem dX1_nextChange_26 : decode cX1_nextChange 26 = .ok (.ifnull 28, 3) := by decide +kernel
theorem dX1_nextChange_29 : decode cX1_nextChange 29 = .ok (.aload 5, 2) := by decide +kernel
theorem dX1_nextChange_31 : decode cX1_nextChange 31 = .ok (.getfield 21, 3) := by decide +kernel
theorem dX1_nextChange_34 : decode cX1_nextChange 34 = .ok (.iload_n 1, 1) := by decide +kernel
theorem dX1_nextChange_35 : decode cX1_nextChange 35 = .ok (.iload_n 3, 1) := by decide +kernel
theorem dX1_nextChange_36 : decode cX1_nextChange 36 = .ok (.invokestatic 38, 3) := by decide +kernel
theorem dX1_nextChange_39 : decode cX1_nextChange 39 = .ok (.istore_n 3, 1) := by decide +kernel
theorem dX1_nextChange_40 : decode cX1_nextChange 40 = .ok (.aload 5, 2) := by decide +kernel
theorem dX1_nextChange_42 : decode cX1_nextChange 42 = .ok (.getfield 21, 3) := by decide +kernel
theorem dX1_nextChange_45 : decode cX1_nextChange 45 = .ok (.bipush 90, 2) := by decide +kernel
theorem dX1_nextChange_47 : decode cX1_nextChange 47 = .ok (.iadd, 1) := by decide +kernel
theorem dX1_nextChange_48 : decode cX1_nextChange 48 = .ok (.iload_n 1, 1) := by decide +kernel
theorem dX1_nextChange_49 : decode cX1_nextChange 49 = .ok (.iload_n 3, 1) := by decide +kernel
theorem dX1_nextChange_50 : decode cX1_nextChange 50 = .ok (.invokestatic 38, 3) := by decide +kernel
theorem dX1_nextChange_53 : decode cX1_nextChange 53 = .ok (.istore_n 3, 1) := by decide +kernel
theorem dX1_nextChange_54 : decode cX1_nextChange 54 = .ok (.iinc 4 1, 3) := by decide +kernel
theorem dX1_nextChange_57 : decode cX1_nextChange 57 = .ok (.goto (-52), 3) := by decide +kernel
theorem dX1_nextChange_60 : decode cX1_nextChange 60 = .ok (.iload_n 3, 1) := by decide +kernel
theorem dX1_nextChange_61 : decode cX1_nextChange 61 = .ok (.ireturn, 1) := by decide +kernel
set_option maxRecDepth 20000 in
theorem ggX2_init_X1_init : GoodIn wsX2_init wsX1_init := goodIn_r _ [16, 17, 2, 3, 18, 19, 27, 28] (by decide +kernel) (by decide +kernel)
set_option maxRecDepth 20000 in
theorem gX2_init_X1_init : GoodIn wsX2_init (wsX1_init) := ggX2_init_X1_init
theorem dX2_init_0 : decode cX2_init 0 = .ok (.aload_n 0, 1) := by decide +kernel
theorem dX2_init_1 : decode cX2_init 1 = .ok (.invokespecial 3, 3) := by decide +kernel
theorem dX2_init_4 : decode cX2_init 4 = .ok (.aload_n 0, 1) := by decide +kernel
theorem dX2_init_5 : decode cX2_init 5 = .ok (.iload_n 1, 1) := by decide +kernel
theorem dX2_init_6 : decode cX2_init 6 = .ok (.putfield 9, 3) := by decide +kernel
theorem dX2_init_9 : decode cX2_init 9 = .ok (.aload_n 0, 1) := by decide +kernel
theorem dX2_init_10 : decode cX2_init 10 = .ok (.iload_n 2, 1) := by decide +kernel
theorem dX2_init_11 : decode cX2_init 11 = .ok (.putfield 15, 3) := by decide +kernel
theorem dX2_init_14 : decode cX2_init 14 = .ok (.aload_n 0, 1) := by decide +kernel
theorem dX2_init_15 : decode cX2_init 15 = .ok (.iload_n 3, 1) := by decide +kernel
theorem dX2_init_16 : decode cX2_init 16 = .ok (.putfield 18, 3) := by decide +kernel
theorem dX2_init_19 : decode cX2_init 19 = .ok (.aload_n 0, 1) := by decide +kernel
theorem dX2_init_20 : decode cX2_init 20 = .ok (.iload 4, 2) := by decide +kernel
theorem dX2_init_22 : decode cX2_init 22 = .ok (.putfield 21, 3) := by decide +kernel
theorem dX2_init_25 : decode cX2_init 25 = .ok (.aload_n 0, 1) := by decide +kernel
theorem dX2_init_26 : decode cX2_init 26 = .ok (.iload 5, 2) := by decide +kernel
theorem dX2_init_28 : decode cX2_init 28 = .ok (.putfield 24, 3) := by decide +kernel
theorem dX2_init_31 : decode cX2_init 31 = .ok (.aload_n 0, 1) := by decide +kernel
theorem dX2_init_32 : decode cX2_init 32 = .ok (.iload 6, 2) := by decide +kernel
theorem dX2_init_34 : decode cX2_init 34 = .ok (.putfield 27, 3) := by decide +kernel
theorem dX2_init_37 : decode cX2_init 37 = .ok (.aload_n 0, 1) := by decide +kernel
theorem dX2_init_38 : decode cX2_init 38 = .ok (.new 30, 3) := by decide +kernel
theorem dX2_init_41 : decode cX2_init 41 = .ok (.dup, 1) := by decide +kernel
theorem dX2_init_42 : decode cX2_init 42 = .ok (.invokespecial 32, 3) := by decide +kernel
theorem dX2_init_45 : decode cX2_init 45 = .ok (.putfield 33, 3) := by decide +kernel
theorem dX2_init_48 : decode cX2_init 48 = .ok (.return_, 1) := by decide +kernel
theorem dX2_isLike_0 : decode cX2_isLike 0 = .ok (.aload_n 0, 1) := by decide +kernel
theorem dX2_isLike_1 : decode cX2_isLike 1 = .ok (.getfield 18, 3) := by decide +kernel
theorem dX2_isLike_4 : decode cX2_isLike 4 = .ok (.aload_n 1, 1) := by decide +kernel
theorem dX2_isLike_5 : decode cX2_isLike 5 = .ok (.getfield 18, 3) := by decide +kernel
theorem dX2_isLike_8 : decode cX2_isLike 8 = .ok (.if_icmp .ne 18, 3) := by decide +kernel
theorem dX2_isLike_11 : decode cX2_isLike 11 = .ok (.aload_n 0, 1) := by decide +kernel
theorem dX2_isLike_12 : decode cX2_isLike 12 = .ok (.getfield 21, 3) := by decide +kernel
theorem dX2_isLike_15 : decode cX2_isLike 15 = .ok (.aload_n 1, 1) := by decide +kernel
theorem dX2_isLike_16 : decode cX2_isLike 16 = .ok (.getfield 21, 3) := by decide +kernel
theorem dX2_isLike_19 : decode cX2_isLike 19 = .ok (.if_icmp .ne 7, 3) := by decide +kernel
theorem dX2_isLike_22 : decode cX2_isLike 22 = .ok (.iconst 1, 1) := by decide +kernel
theorem dX2_isLike_23 : decode cX2_isLike 23 = .ok (.goto 4, 3) := by decide +kernel
theorem dX2_isLike_26 : decode cX2_isLike 26 = .ok (.iconst 0, 1) := by decide +kernel
theorem dX2_isLike_27 : decode cX2_isLike 27 = .ok (.ireturn, 1) := by decide +kernel
theorem dX2_tells_0 : decode cX2_tells 0 = .ok (.aload_n 0, 1) := by decide +kernel
theorem dX2_tells_1 : decode cX2_tells 1 = .ok (.getfield 27, 3) := by decide +kernel
theorem dX2_tells_4 : decode cX2_tells 4 = .ok (.ifCond .le 36, 3) := by decide +kernel
theorem dX2_tells_7 : decode cX2_tells 7 = .ok (.aload_n 0, 1) := by decide +kernel
theorem dX2_tells_8 : decode cX2_tells 8 = .ok (.getfield 9, 3) := by decide +kernel
theorem dX2_tells_11 : decode cX2_tells 11 = .ok (.iload_n 3, 1) := by decide +kernel
theorem dX2_tells_12 : decode cX2_tells 12 = .ok (.if_icmp .eq 28, 3) := by decide +kernel
theorem dX2_tells_15 : decode cX2_tells 15 = .ok (.aload_n 0, 1) := by decide +kernel
theorem dX2_tells_16 : decode cX2_tells 16 = .ok (.getfield 18, 3) := by decide +kernel
theorem dX2_tells_19 : decode cX2_tells 19 = .ok (.iload_n 1, 1) := by decide +kernel
theorem dX2_tells_20 : decode cX2_tells 20 = .ok (.if_icmp .ne 20, 3) := by decide +kernel
theorem dX2_tells_23 : decode cX2_tells 23 = .ok (.iload_n 2, 1) := by decide +kernel
theorem dX2_tells_24 : decode cX2_tells 24 = .ok (.iconst (-1), 1) := by decide +kernel
theorem dX2_tells_25 : decode cX2_tells 25 = .ok (.if_icmp .eq 11, 3) := by decide +kernel
theorem dX2_tells_28 : decode cX2_tells 28 = .ok (.aload_n 0, 1) := by decide +kernel
theorem dX2_tells_29 : decode cX2_tells 29 = .ok (.getfield 21, 3) := by decide +kernel
theorem dX2_tells_32 : decode cX2_tells 32 = .ok (.iload_n 2, 1) := by decide +kernel
theorem dX2_tells_33 : decode cX2_tells 33 = .ok (.if_icmp .ne 7, 3) := by decide +kernel
theorem dX2_tells_36 : decode cX2_tells 36 = .ok (.iconst 1, 1) := by decide +kernel
theorem dX2_tells_37 : decode cX2_tells 37 = .ok (.goto 4, 3) := by decide +kernel
theorem dX2_tells_40 : decode cX2_tells 40 = .ok (.iconst 0, 1) := by decide +kernel
theorem dX2_tells_41 : decode cX2_tells 41 = .ok (.ireturn, 1) := by decide +kernel
theorem dX2_hasLesserRent_0 : decode cX2_hasLesserRent 0 = .ok (.aload_n 0, 1) := by decide +kernel
theorem dX2_hasLesserRent_1 : decode cX2_hasLesserRent 1 = .ok (.getfield 27, 3) := by decide +kernel
theorem dX2_hasLesserRent_4 : decode cX2_hasLesserRent 4 = .ok (.i2l, 1) := by decide +kernel
theorem dX2_hasLesserRent_5 : decode cX2_hasLesserRent 5 = .ok (.aload_n 1, 1) := by decide +kernel
theorem dX2_hasLesserRent_6 : decode cX2_hasLesserRent 6 = .ok (.getfield 24, 3) := by decide +kernel
theorem dX2_hasLesserRent_9 : decode cX2_hasLesserRent 9 = .ok (.i2l, 1) := by decide +kernel
theorem dX2_hasLesserRent_10 : decode cX2_hasLesserRent 10 = .ok (.lmul, 1) := by decide +kernel
theorem dX2_hasLesserRent_11 : decode cX2_hasLesserRent 11 = .ok (.lstore_n 2, 1) := by decide +kernel
theorem dX2_hasLesserRent_12 : decode cX2_hasLesserRent 12 = .ok (.aload_n 1, 1) := by decide +kernel
theorem dX2_hasLesserRent_13 : decode cX2_hasLesserRent 13 = .ok (.getfield 27, 3) := by decide +kernel
theorem dX2_hasLesserRent_16 : decode cX2_hasLesserRent 16 = .ok (.i2l, 1) := by decide +kernel
theorem dX2_hasLesserRent_17 : decode cX2_hasLesserRent 17 = .ok (.aload_n 0, 1) := by decide +kernel
theorem dX2_hasLesserRent_18 : decode cX2_hasLesserRent 18 = .ok (.getfield 24, 3) := by decide +kernel
theorem dX2_hasLesserRent_21 : decode cX2_hasLesserRent 21 = .ok (.i2l, 1) := by decide +kernel
theorem dX2_hasLesserRent_22 : decode cX2_hasLesserRent 22 = .ok (.lmul, 1) := by decide +kernel
theorem dX2_hasLesserRent_23 : decode cX2_hasLesserRent 23 = .ok (.lstore 4, 2) := by decide +kernel
theorem dX2_hasLesserRent_25 : decode cX2_hasLesserRent 25 = .ok (.lload_n 2, 1) := by decide +kernel
theorem dX2_hasLesserRent_26 : decode cX2_hasLesserRent 26 = .ok (.lload 4, 2) := by decide +kernel
theorem dX2_hasLesserRent_28 : decode cX2_hasLesserRent 28 = .ok (.lcmp, 1) := by decide +kernel
theorem dX2_hasLesserRent_29 : decode cX2_hasLesserRent 29 = .ok (.ifCond .lt 21, 3) := by decide +kernel
theorem dX2_hasLesserRent_32 : decode cX2_hasLesserRent 32 = .ok (.lload_n 2, 1) := by decide +kernel
theorem dX2_hasLesserRent_33 : decode cX2_hasLesserRent 33 = .ok (.lload 4, 2) := by decide +kernel
theorem dX2_hasLesserRent_35 : decode cX2_hasLesserRent 35 = .ok (.lcmp, 1) := by decide +kernel
theorem dX2_hasLesserRent_36 : decode cX2_hasLesserRent 36 = .ok (.ifCond .ne 18, 3) := by decide +kernel
theorem dX2_hasLesserRent_39 : decode cX2_hasLesserRent 39 = .ok (.aload_n 0, 1) := by decide +kernel
theorem dX2_hasLesserRent_40 : decode cX2_hasLesserRent 40 = .ok (.getfield 9, 3) := by decide +kernel
theorem dX2_hasLesserRent_43 : decode cX2_hasLesserRent 43 = .ok (.aload_n 1, 1) := by decide +kernel
theorem dX2_hasLesserRent_44 : decode cX2_hasLesserRent 44 = .ok (.getfield 9, 3) := by decide +kernel
theorem dX2_hasLesserRent_47 : decode cX2_hasLesserRent 47 = .ok (.if_icmp .ge 7, 3) := by decide +kernel
theorem dX2_hasLesserRent_50 : decode cX2_hasLesserRent 50 = .ok (.iconst 1, 1) := by decide +kernel
theorem dX2_hasLesserRent_51 : decode cX2_hasLesserRent 51 = .ok (.goto 4, 3) := by decide +kernel
theorem dX2_hasLesserRent_54 : decode cX2_hasLesserRent 54 = .ok (.iconst 0, 1) := by decide +kernel
theorem dX2_hasLesserRent_55 : decode cX2_hasLesserRent 55 = .ok (.ireturn, 1) := by decide +kernel
set_option maxRecDepth 20000 in
theorem ggX2_sizeOn_X1_latestOf : GoodIn wsX2_sizeOn wsX1_latestOf := goodIn_r _ [8, 9, 10, 11, 23, 24, 19, 20, 21, 22] (by decide +kernel) (by decide +kernel)
set_option maxRecDepth 20000 in
theorem gX2_sizeOn_X1_latestOf : GoodIn wsX2_sizeOn (wsV RX2 37 RX1 yX1_latestOf wsX1_latestOf) := goodIn_app (goodIn_of _ (by decide +kernel)) ggX2_sizeOn_X1_latestOf
theorem dX2_sizeOn_0 : decode cX2_sizeOn 0 = .ok (.aload_n 0, 1) := by decide +kernel
theorem dX2_sizeOn_1 : decode cX2_sizeOn 1 = .ok (.getfield 33, 3) := by decide +kernel
theorem dX2_sizeOn_4 : decode cX2_sizeOn 4 = .ok (.iconst 0, 1) := by decide +kernel
theorem dX2_sizeOn_5 : decode cX2_sizeOn 5 = .ok (.iload_n 1, 1) := by decide +kernel
theorem dX2_sizeOn_6 : decode cX2_sizeOn 6 = .ok (.invokevirtual 37, 3) := by decide +kernel
theorem dX2_sizeOn_9 : decode cX2_sizeOn 9 = .ok (.astore_n 2, 1) := by decide +kernel
theorem dX2_sizeOn_10 : decode cX2_sizeOn 10 = .ok (.aload_n 2, 1) := by decide +kernel
theorem dX2_sizeOn_11 : decode cX2_sizeOn 11 = .ok (.ifnonnull 10, 3) := by decide +kernel
theorem dX2_sizeOn_14 : decode cX2_sizeOn 14 = .ok (.aload_n 0, 1) := by decide +kernel
theorem dX2_sizeOn_15 : decode cX2_sizeOn 15 = .ok (.getfield 24, 3) := by decide +kernel
theorem dX2_sizeOn_18 : decode cX2_sizeOn 18 = .ok (.goto 7, 3) := by decide +kernel
theorem dX2_sizeOn_21 : decode cX2_sizeOn 21 = .ok (.aload_n 2, 1) := by decide +kernel
theorem dX2_sizeOn_22 : decode cX2_sizeOn 22 = .ok (.getfield 41, 3) := by decide +kernel
theorem dX2_sizeOn_25 : decode cX2_sizeOn 25 = .ok (.ireturn, 1) := by decide +kernel
set_option maxRecDepth 20000 in
theorem ggX2_useOn_X1_latestOf : GoodIn wsX2_useOn wsX1_latestOf := goodIn_r _ [7, 8, 9, 10, 22, 23, 18, 19, 20, 21] (by decide +kernel) (by decide +kernel)
set_option maxRecDepth 20000 in
theorem gX2_useOn_X1_latestOf : GoodIn wsX2_useOn (wsV RX2 37 RX1 yX1_latestOf wsX1_latestOf) := goodIn_app (goodIn_of _ (by decide +kernel)) ggX2_useOn_X1_latestOf
theorem dX2_useOn_0 : decode cX2_useOn 0 = .ok (.aload_n 0, 1) := by decide +kernel
theorem dX2_useOn_1 : decode cX2_useOn 1 = .ok (.getfield 33, 3) := by decide +kernel
theorem dX2_useOn_4 : decode cX2_useOn 4 = .ok (.iconst 1, 1) := by decide +kernel
theorem dX2_useOn_5 : decode cX2_useOn 5 = .ok (.iload_n 1, 1) := by decide +kernel
theorem dX2_useOn_6 : decode cX2_useOn 6 = .ok (.invokevirtual 37, 3) := by decide +kernel
theorem dX2_useOn_9 : decode cX2_useOn 9 = .ok (.astore_n 2, 1) := by decide +kernel
theorem dX2_useOn_10 : decode cX2_useOn 10 = .ok (.aload_n 2, 1) := by decide +kernel
theorem dX2_useOn_11 : decode cX2_useOn 11 = .ok (.ifnonnull 7, 3) := by decide +kernel
theorem dX2_useOn_14 : decode cX2_useOn 14 = .ok (.iconst 0, 1) := by decide +kernel
theorem dX2_useOn_15 : decode cX2_useOn 15 = .ok (.goto 7, 3) := by decide +kernel
theorem dX2_useOn_18 : decode cX2_useOn 18 = .ok (.aload_n 2, 1) := by decide +kernel
theorem dX2_useOn_19 : decode cX2_useOn 19 = .ok (.getfield 41, 3) := by decide +kernel
theorem dX2_useOn_22 : decode cX2_useOn 22 = .ok (.ireturn, 1) := by decide +kernel
theorem dX3_init_0 : decode cX3_init 0 = .ok (.aload_n 0, 1) := by decide +kernel
theorem dX3_init_1 : decode cX3_init 1 = .ok (.invokespecial 3, 3) := by decide +kernel
theorem dX3_init_4 : decode cX3_init 4 = .ok (.aload_n 0, 1) := by decide +kernel
theorem dX3_init_5 : decode cX3_init 5 = .ok (.bipush 10, 2) := by decide +kernel
theorem dX3_init_7 : decode cX3_init 7 = .ok (.anewarray 9, 3) := by decide +kernel
theorem dX3_init_10 : decode cX3_init 10 = .ok (.putfield 11, 3) := by decide +kernel
theorem dX3_init_13 : decode cX3_init 13 = .ok (.return_, 1) := by decide +kernel
theorem dX3_at_0 : decode cX3_at 0 = .ok (.iload_n 1, 1) := by decide +kernel
theorem dX3_at_1 : decode cX3_at 1 = .ok (.ifCond .lt 21, 3) := by decide +kernel
theorem dX3_at_4 : decode cX3_at 4 = .ok (.iload_n 1, 1) := by decide +kernel
theorem dX3_at_5 : decode cX3_at 5 = .ok (.aload_n 0, 1) := by decide +kernel
theorem dX3_at_6 : decode cX3_at 6 = .ok (.getfield 11, 3) := by decide +kernel
theorem dX3_at_9 : decode cX3_at 9 = .ok (.arraylength, 1) := by decide +kernel
theorem dX3_at_10 : decode cX3_at 10 = .ok (.if_icmp .ge 12, 3) := by decide +kernel
theorem dX3_at_13 : decode cX3_at 13 = .ok (.aload_n 0, 1) := by decide +kernel
theorem dX3_at_14 : decode cX3_at 14 = .ok (.getfield 11, 3) := by decide +kernel
theorem dX3_at_17 : decode cX3_at 17 = .ok (.iload_n 1, 1) := by decide +kernel
theorem dX3_at_18 : decode cX3_at 18 = .ok (.aaload, 1) := by decide +kernel
theorem dX3_at_19 : decode cX3_at 19 = .ok (.goto 4, 3) := by decide +kernel
theorem dX3_at_22 : decode cX3_at 22 = .ok (.aconst_null, 1) := by decide +kernel
theorem dX3_at_23 : decode cX3_at 23 = .ok (.areturn, 1) := by decide +kernel
theorem dX3_isFull_0 : decode cX3_isFull 0 = .ok (.aload_n 0, 1) := by decide +kernel
theorem dX3_isFull_1 : decode cX3_isFull 1 = .ok (.getfield 17, 3) := by decide +kernel
theorem dX3_isFull_4 : decode cX3_isFull 4 = .ok (.aload_n 0, 1) := by decide +kernel
theorem dX3_isFull_5 : decode cX3_isFull 5 = .ok (.getfield 11, 3) := by decide +kernel
theorem dX3_isFull_8 : decode cX3_isFull 8 = .ok (.arraylength, 1) := by decide +kernel
theorem dX3_isFull_9 : decode cX3_isFull 9 = .ok (.if_icmp .lt 7, 3) := by decide +kernel
theorem dX3_isFull_12 : decode cX3_isFull 12 = .ok (.iconst 1, 1) := by decide +kernel
theorem dX3_isFull_13 : decode cX3_isFull 13 = .ok (.goto 4, 3) := by decide +kernel
theorem dX3_isFull_16 : decode cX3_isFull 16 = .ok (.iconst 0, 1) := by decide +kernel
theorem dX3_isFull_17 : decode cX3_isFull 17 = .ok (.ireturn, 1) := by decide +kernel
set_option maxRecDepth 20000 in
theorem ggX3_reach_X3_at : GoodIn wsX3_reach wsX3_at := goodIn_r _ [7, 8, 9, 10] (by decide +kernel) (by decide +kernel)
set_option maxRecDepth 20000 in
theorem gX3_reach_X3_at : GoodIn wsX3_reach (wsV RX3 21 RX3 yX3_at wsX3_at) := goodIn_app (goodIn_of _ (by decide +kernel)) ggX3_reach_X3_at
theorem dX3_reach_0 : decode cX3_reach 0 = .ok (.aload_n 0, 1) := by decide +kernel
theorem dX3_reach_1 : decode cX3_reach 1 = .ok (.aload_n 0, 1) := by decide +kernel
theorem dX3_reach_2 : decode cX3_reach 2 = .ok (.getfield 17, 3) := by decide +kernel
theorem dX3_reach_5 : decode cX3_reach 5 = .ok (.iconst 1, 1) := by decide +kernel
theorem dX3_reach_6 : decode cX3_reach 6 = .ok (.isub, 1) := by decide +kernel
theorem dX3_reach_7 : decode cX3_reach 7 = .ok (.invokevirtual 21, 3) := by decide +kernel
theorem dX3_reach_10 : decode cX3_reach 10 = .ok (.astore_n 2, 1) := by decide +kernel
theorem dX3_reach_11 : decode cX3_reach 11 = .ok (.aload_n 2, 1) := by decide +kernel
theorem dX3_reach_12 : decode cX3_reach 12 = .ok (.ifnull 15, 3) := by decide +kernel
theorem dX3_reach_15 : decode cX3_reach 15 = .ok (.aload_n 2, 1) := by decide +kernel
theorem dX3_reach_16 : decode cX3_reach 16 = .ok (.getfield 25, 3) := by decide +kernel
theorem dX3_reach_19 : decode cX3_reach 19 = .ok (.iload_n 1, 1) := by decide +kernel
theorem dX3_reach_20 : decode cX3_reach 20 = .ok (.if_icmp .lt 7, 3) := by decide +kernel
theorem dX3_reach_23 : decode cX3_reach 23 = .ok (.iconst 1, 1) := by decide +kernel
theorem dX3_reach_24 : decode cX3_reach 24 = .ok (.goto 4, 3) := by decide +kernel
theorem dX3_reach_27 : decode cX3_reach 27 = .ok (.iconst 0, 1) := by decide +kernel
theorem dX3_reach_28 : decode cX3_reach 28 = .ok (.ireturn, 1) := by decide +kernel
set_option maxRecDepth 20000 in
theorem ggX3_add_X4_init : GoodIn wsX3_add wsX4_init := goodIn_r _ [8, 9, 10, 11, 12, 13, 14, 15, 16, 17, 18, 19, 20, 21, 22, 23, 24, 25, 26, 27, 28, 29, 30, 31, 32, 33, 34, 35, 36, 37, 38, 39, 40, 41, 42, 43, 44, 45, 46, 47, 48, 49, 50, 51, 52, 53, 54, 55, 56, 57, 58, 59, 60, 63, 64, 65, 66, 67, 68, 69, 70, 71, 72, 73, 74, 75, 76, 77] (by decide +kernel) (by decide +kernel)
set_option maxRecDepth 20000 in
theorem gX3_add_X4_init : GoodIn wsX3_add (wsX4_init) := ggX3_add_X4_init
theorem dX3_add_0 : decode cX3_add 0 = .ok (.aload_n 0, 1) := by decide +kernel
theorem dX3_add_1 : decode cX3_add 1 = .ok (.getfield 17, 3) := by decide +kernel
theorem dX3_add_4 : decode cX3_add 4 = .ok (.istore_n 3, 1) := by decide +kernel
theorem dX3_add_5 : decode cX3_add 5 = .ok (.iload_n 3, 1) := by decide +kernel
theorem dX3_add_6 : decode cX3_add 6 = .ok (.ifCond .lt 12, 3) := by decide +kernel
theorem dX3_add_9 : decode cX3_add 9 = .ok (.iload_n 3, 1) := by decide +kernel
theorem dX3_add_10 : decode cX3_add 10 = .ok (.aload_n 0, 1) := by decide +kernel
theorem dX3_add_11 : decode cX3_add 11 = .ok (.getfield 11, 3) := by decide +kernel
theorem dX3_add_14 : decode cX3_add 14 = .ok (.arraylength, 1) := by decide +kernel
theorem dX3_add_15 : decode cX3_add 15 = .ok (.if_icmp .lt 6, 3) := by decide +kernel
theorem dX3_add_18 : decode cX3_add 18 = .ok (.bipush (-3), 2) := by decide +kernel
theorem dX3_add_20 : decode cX3_add 20 = .ok (.ireturn, 1) := by decide +kernel
theorem dX3_add_21 : decode cX3_add 21 = .ok (.aload_n 0, 1) := by decide +kernel
theorem dX3_add_22 : decode cX3_add 22 = .ok (.getfield 11, 3) := by decide +kernel
theorem dX3_add_25 : decode cX3_add 25 = .ok (.iload_n 3, 1) := by decide +kernel
theorem dX3_add_26 : decode cX3_add 26 = .ok (.new 9, 3) := by decide +kernel
theorem dX3_add_29 : decode cX3_add 29 = .ok (.dup, 1) := by decide +kernel
theorem dX3_add_30 : decode cX3_add 30 = .ok (.iload_n 1, 1) := by decide +kernel
theorem dX3_add_31 : decode cX3_add 31 = .ok (.aload_n 2, 1) := by decide +kernel
theorem dX3_add_32 : decode cX3_add 32 = .ok (.invokespecial 28, 3) := by decide +kernel
theorem dX3_add_35 : decode cX3_add 35 = .ok (.aastore, 1) := by decide +kernel
theorem dX3_add_36 : decode cX3_add 36 = .ok (.aload_n 0, 1) := by decide +kernel
theorem dX3_add_37 : decode cX3_add 37 = .ok (.dup, 1) := by decide +kernel
theorem dX3_add_38 : decode cX3_add 38 = .ok (.getfield 17, 3) := by decide +kernel
theorem dX3_add_41 : decode cX3_add 41 = .ok (.iconst 1, 1) := by decide +kernel
theorem dX3_add_42 : decode cX3_add 42 = .ok (.iadd, 1) := by decide +kernel
theorem dX3_add_43 : decode cX3_add 43 = .ok (.putfield 17, 3) := by decide +kernel
theorem dX3_add_46 : decode cX3_add 46 = .ok (.iload_n 3, 1) := by decide +kernel
theorem dX3_add_47 : decode cX3_add 47 = .ok (.ireturn, 1) := by decide +kernel
theorem dX3_standingOn_0 : decode cX3_standingOn 0 = .ok (.bipush (-4), 2) := by decide +kernel
theorem dX3_standingOn_2 : decode cX3_standingOn 2 = .ok (.istore_n 2, 1) := by decide +kernel
theorem dX3_standingOn_3 : decode cX3_standingOn 3 = .ok (.iconst 0, 1) := by decide +kernel
theorem dX3_standingOn_4 : decode cX3_standingOn 4 = .ok (.istore_n 3, 1) := by decide +kernel
theorem dX3_standingOn_5 : decode cX3_standingOn 5 = .ok (.iload_n 3, 1) := by decide +kernel
theorem dX3_standingOn_6 : decode cX3_standingOn 6 = .ok (.aload_n 0, 1) := by decide +kernel
theorem dX3_standingOn_7 : decode cX3_standingOn 7 = .ok (.getfield 11, 3) := by decide +kernel
theorem dX3_standingOn_10 : decode cX3_standingOn 10 = .ok (.arraylength, 1) := by decide +kernel
theorem dX3_standingOn_11 : decode cX3_standingOn 11 = .ok (.if_icmp .ge 33, 3) := by decide +kernel
theorem dX3_standingOn_14 : decode cX3_standingOn 14 = .ok (.aload_n 0, 1) := by decide +kernel
theorem dX3_standingOn_15 : decode cX3_standingOn 15 = .ok (.getfield 11, 3) := by decide +kernel
theorem dX3_standingOn_18 : decode cX3_standingOn 18 = .ok (.iload_n 3, 1) := by decide +kernel
theorem dX3_standingOn_19 : decode cX3_standingOn 19 = .ok (.aaload, 1) := by decide +kernel
theorem dX3_standingOn_20 : decode cX3_standingOn 20 = .ok (.astore 4, 2) := by decide +kernel
theorem dX3_standingOn_22 : decode cX3_standingOn 22 = .ok (.aload 4, 2) := by decide +kernel
theorem dX3_standingOn_24 : decode cX3_standingOn 24 = .ok (.ifnull 14, 3) := by decide +kernel
theorem dX3_standingOn_27 : decode cX3_standingOn 27 = .ok (.aload 4, 2) := by decide +kernel
theorem dX3_standingOn_29 : decode cX3_standingOn 29 = .ok (.getfield 25, 3) := by decide +kernel
theorem dX3_standingOn_32 : decode cX3_standingOn 32 = .ok (.iload_n 1, 1) := by decide +kernel
theorem dX3_standingOn_33 : decode cX3_standingOn 33 = .ok (.if_icmp .gt 5, 3) := by decide +kernel
theorem dX3_standingOn_36 : decode cX3_standingOn 36 = .ok (.iload_n 3, 1) := by decide +kernel
theorem dX3_standingOn_37 : decode cX3_standingOn 37 = .ok (.istore_n 2, 1) := by decide +kernel
theorem dX3_standingOn_38 : decode cX3_standingOn 38 = .ok (.iinc 3 1, 3) := by decide +kernel
theorem dX3_standingOn_41 : decode cX3_standingOn 41 = .ok (.goto (-36), 3) := by decide +kernel
theorem dX3_standingOn_44 : decode cX3_standingOn 44 = .ok (.iload_n 2, 1) := by decide +kernel
theorem dX3_standingOn_45 : decode cX3_standingOn 45 = .ok (.ireturn, 1) := by decide +kernel
set_option maxRecDepth 20000 in
theorem ggX3_nextChange_X8_sooner : GoodIn wsX3_nextChange wsX8_sooner := goodIn_r _ [5] (by decide +kernel) (by decide +kernel)
set_option maxRecDepth 20000 in
theorem gX3_nextChange_X8_sooner_n31 : GoodIn wsX3_nextChange (wsX8_sooner) := ggX3_nextChange_X8_sooner
theorem dX3_nextChange_0 : decode cX3_nextChange 0 = .ok (.iload_n 2, 1) := by decide +kernel
theorem dX3_nextChange_1 : decode cX3_nextChange 1 = .ok (.istore_n 3, 1) := by decide +kernel
theorem dX3_nextChange_2 : decode cX3_nextChange 2 = .ok (.iconst 0, 1) := by decide +kernel
theorem dX3_nextChange_3 : decode cX3_nextChange 3 = .ok (.istore 4, 2) := by decide +kernel
theorem dX3_nextChange_5 : decode cX3_nextChange 5 = .ok (.iload 4, 2) := by decide +kernel
theorem dX3_nextChange_7 : decode cX3_nextChange 7 = .ok (.aload_n 0, 1) := by decide +kernel
theorem dX3_nextChange_8 : decode cX3_nextChange 8 = .ok (.getfield 11, 3) := by decide +kernel
theorem dX3_nextChange_11 : decode cX3_nextChange 11 = .ok (.arraylength, 1) := by decide +kernel
theorem dX3_nextChange_12 : decode cX3_nextChange 12 = .ok (.if_icmp .ge 34, 3) := by decide +kernel
theorem dX3_nextChange_15 : decode cX3_nextChange 15 = .ok (.aload_n 0, 1) := by decide +kernel
theorem dX3_nextChange_16 : decode cX3_nextChange 16 = .ok (.getfield 11, 3) := by decide +kernel
theorem dX3_nextChange_19 : decode cX3_nextChange 19 = .ok (.iload 4, 2) := by decide +kernel
theorem dX3_nextChange_21 : decode cX3_nextChange 21 = .ok (.aaload, 1) := by decide +kernel
theorem dX3_nextChange_22 : decode cX3_nextChange 22 = .ok (.astore 5, 2) := by decide +kernel
theorem dX3_nextChange_24 : decode cX3_nextChange 24 = .ok (.aload 5, 2) := by decide +kernel
theorem dX3_nextChange_26 : decode cX3_nextChange 26 = .ok (.ifnull 14, 3) := by decide +kernel
theorem dX3_nextChange_29 : decode cX3_nextChange 29 = .ok (.aload 5, 2) := by decide +kernel
theorem dX3_nextChange_31 : decode cX3_nextChange 31 = .ok (.getfield 25, 3) := by decide +kernel
theorem dX3_nextChange_34 : decode cX3_nextChange 34 = .ok (.iload_n 1, 1) := by decide +kernel
theorem dX3_nextChange_35 : decode cX3_nextChange 35 = .ok (.iload_n 3, 1) := by decide +kernel
theorem dX3_nextChange_36 : decode cX3_nextChange 36 = .ok (.invokestatic 31, 3) := by decide +kernel
theorem dX3_nextChange_39 : decode cX3_nextChange 39 = .ok (.istore_n 3, 1) := by decide +kernel
theorem dX3_nextChange_40 : decode cX3_nextChange 40 = .ok (.iinc 4 1, 3) := by decide +kernel
theorem dX3_nextChange_43 : decode cX3_nextChange 43 = .ok (.goto (-38), 3) := by decide +kernel
theorem dX3_nextChange_46 : decode cX3_nextChange 46 = .ok (.iload_n 3, 1) := by decide +kernel
theorem dX3_nextChange_47 : decode cX3_nextChange 47 = .ok (.ireturn, 1) := by decide +kernel
set_option maxRecDepth 20000 in
theorem ggX4_init_X5_unitOf : GoodIn wsX4_init wsX5_unitOf := goodIn_r _ [11, 12, 13, 14, 15, 16, 17, 18, 19, 20, 10, 21, 22, 23, 24, 25, 26, 27, 28, 29, 30, 31, 32, 33, 34, 35, 36, 37, 38, 39, 40, 41, 42, 43, 44, 45, 46, 47, 48, 2, 3, 49, 50, 51, 52, 55, 56, 57, 58, 59, 60, 61, 62, 63, 64, 65, 66, 67] (by decide +kernel) (by decide +kernel)
set_option maxRecDepth 20000 in
theorem gX4_init_X5_unitOf : GoodIn wsX4_init (wsV RX4 21 RX5 yX5_unitOf wsX5_unitOf) := goodIn_app (goodIn_of _ (by decide +kernel)) ggX4_init_X5_unitOf
theorem dX4_init_0 : decode cX4_init 0 = .ok (.aload_n 0, 1) := by decide +kernel
theorem dX4_init_1 : decode cX4_init 1 = .ok (.invokespecial 3, 3) := by decide +kernel
theorem dX4_init_4 : decode cX4_init 4 = .ok (.aload_n 0, 1) := by decide +kernel
theorem dX4_init_5 : decode cX4_init 5 = .ok (.iload_n 1, 1) := by decide +kernel
theorem dX4_init_6 : decode cX4_init 6 = .ok (.putfield 9, 3) := by decide +kernel
theorem dX4_init_9 : decode cX4_init 9 = .ok (.aload_n 0, 1) := by decide +kernel
theorem dX4_init_10 : decode cX4_init 10 = .ok (.bipush 18, 2) := by decide +kernel
theorem dX4_init_12 : decode cX4_init 12 = .ok (.anewarray 15, 3) := by decide +kernel
theorem dX4_init_15 : decode cX4_init 15 = .ok (.putfield 17, 3) := by decide +kernel
theorem dX4_init_18 : decode cX4_init 18 = .ok (.iconst 0, 1) := by decide +kernel
theorem dX4_init_19 : decode cX4_init 19 = .ok (.istore_n 3, 1) := by decide +kernel
theorem dX4_init_20 : decode cX4_init 20 = .ok (.iload_n 3, 1) := by decide +kernel
theorem dX4_init_21 : decode cX4_init 21 = .ok (.aload_n 0, 1) := by decide +kernel
theorem dX4_init_22 : decode cX4_init 22 = .ok (.getfield 17, 3) := by decide +kernel
theorem dX4_init_25 : decode cX4_init 25 = .ok (.arraylength, 1) := by decide +kernel
theorem dX4_init_26 : decode cX4_init 26 = .ok (.if_icmp .ge 28, 3) := by decide +kernel
theorem dX4_init_29 : decode cX4_init 29 = .ok (.aload_n 0, 1) := by decide +kernel
theorem dX4_init_30 : decode cX4_init 30 = .ok (.getfield 17, 3) := by decide +kernel
theorem dX4_init_33 : decode cX4_init 33 = .ok (.iload_n 3, 1) := by decide +kernel
theorem dX4_init_34 : decode cX4_init 34 = .ok (.aload_n 2, 1) := by decide +kernel
theorem dX4_init_35 : decode cX4_init 35 = .ok (.iload_n 3, 1) := by decide +kernel
theorem dX4_init_36 : decode cX4_init 36 = .ok (.bipush 6, 2) := by decide +kernel
theorem dX4_init_38 : decode cX4_init 38 = .ok (.idiv, 1) := by decide +kernel
theorem dX4_init_39 : decode cX4_init 39 = .ok (.iload_n 3, 1) := by decide +kernel
theorem dX4_init_40 : decode cX4_init 40 = .ok (.bipush 6, 2) := by decide +kernel
theorem dX4_init_42 : decode cX4_init 42 = .ok (.irem, 1) := by decide +kernel
theorem dX4_init_43 : decode cX4_init 43 = .ok (.iconst (-1), 1) := by decide +kernel
theorem dX4_init_44 : decode cX4_init 44 = .ok (.invokevirtual 21, 3) := by decide +kernel
theorem dX4_init_47 : decode cX4_init 47 = .ok (.aastore, 1) := by decide +kernel
theorem dX4_init_48 : decode cX4_init 48 = .ok (.iinc 3 1, 3) := by decide +kernel
theorem dX4_init_51 : decode cX4_init 51 = .ok (.goto (-31), 3) := by decide +kernel
theorem dX4_init_54 : decode cX4_init 54 = .ok (.return_, 1) := by decide +kernel
