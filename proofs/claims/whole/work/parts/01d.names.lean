theorem dX4_readWay_61 : decode cX4_readWay 61 = .ok (.invokevirtual 147, 3) := by decide +kernel
theorem dX4_readWay_64 : decode cX4_readWay 64 = .ok (.ifCond .ne 5, 3) := by decide +kernel
theorem dX4_readWay_67 : decode cX4_readWay 67 = .ok (.iconst 0, 1) := by decide +kernel
theorem dX4_readWay_68 : decode cX4_readWay 68 = .ok (.ireturn, 1) := by decide +kernel
theorem dX4_readWay_69 : decode cX4_readWay 69 = .ok (.aload_n 1, 1) := by decide +kernel
theorem dX4_readWay_70 : decode cX4_readWay 70 = .ok (.aload_n 0, 1) := by decide +kernel
theorem dX4_readWay_71 : decode cX4_readWay 71 = .ok (.getfield 22, 3) := by decide +kernel
theorem dX4_readWay_74 : decode cX4_readWay 74 = .ok (.putfield 144, 3) := by decide +kernel
theorem dX4_readWay_77 : decode cX4_readWay 77 = .ok (.iconst 1, 1) := by decide +kernel
theorem dX4_readWay_78 : decode cX4_readWay 78 = .ok (.ireturn, 1) := by decide +kernel
theorem dX4_readWay_79 : decode cX4_readWay 79 = .ok (.aload_n 0, 1) := by decide +kernel
theorem dX4_readWay_80 : decode cX4_readWay 80 = .ok (.iconst 0, 1) := by decide +kernel
theorem dX4_readWay_81 : decode cX4_readWay 81 = .ok (.bipush 9, 2) := by decide +kernel
theorem dX4_readWay_83 : decode cX4_readWay 83 = .ok (.invokevirtual 147, 3) := by decide +kernel
theorem dX4_readWay_86 : decode cX4_readWay 86 = .ok (.ifCond .ne 5, 3) := by decide +kernel
theorem dX4_readWay_89 : decode cX4_readWay 89 = .ok (.iconst 0, 1) := by decide +kernel
theorem dX4_readWay_90 : decode cX4_readWay 90 = .ok (.ireturn, 1) := by decide +kernel
theorem dX4_readWay_91 : decode cX4_readWay 91 = .ok (.aload_n 1, 1) := by decide +kernel
theorem dX4_readWay_92 : decode cX4_readWay 92 = .ok (.aload_n 0, 1) := by decide +kernel
theorem dX4_readWay_93 : decode cX4_readWay 93 = .ok (.getfield 22, 3) := by decide +kernel
theorem dX4_readWay_96 : decode cX4_readWay 96 = .ok (.putfield 144, 3) := by decide +kernel
theorem dX4_readWay_99 : decode cX4_readWay 99 = .ok (.iconst 1, 1) := by decide +kernel
theorem dX4_readWay_100 : decode cX4_readWay 100 = .ok (.ireturn, 1) := by decide +kernel
theorem dX4_readWay_101 : decode cX4_readWay 101 = .ok (.iconst 1, 1) := by decide +kernel
theorem dX4_readWay_102 : decode cX4_readWay 102 = .ok (.ireturn, 1) := by decide +kernel
set_option maxRecDepth 20000 in
theorem ggX4_wayNamed_X4_nameIs : GoodIn wsX4_wayNamed wsX4_nameIs := goodIn_r _ [5, 6, 7, 8, 9, 10, 11, 12, 13, 14, 15, 16, 17, 18, 19, 20, 21, 22, 23, 24, 25, 26, 27, 28, 29, 30, 31, 32, 33, 34, 35, 36, 37, 38, 39, 40, 41, 42, 43, 44, 45, 46, 47, 48, 49, 50, 51, 52, 53, 54, 55, 56, 57, 58, 59, 60, 61, 62, 63, 64, 65, 66, 67, 68, 69, 70, 71, 72, 73, 74] (by decide +kernel) (by decide +kernel)
set_option maxRecDepth 20000 in
theorem gX4_wayNamed_X4_nameIs : GoodIn wsX4_wayNamed (wsV RX4 99 RX4 yX4_nameIs wsX4_nameIs) := goodIn_app (goodIn_of _ (by decide +kernel)) ggX4_wayNamed_X4_nameIs
theorem dX4_wayNamed_0 : decode cX4_wayNamed 0 = .ok (.aload_n 0, 1) := by decide +kernel
theorem dX4_wayNamed_1 : decode cX4_wayNamed 1 = .ok (.ldc 151, 2) := by decide +kernel
theorem dX4_wayNamed_3 : decode cX4_wayNamed 3 = .ok (.invokevirtual 99, 3) := by decide +kernel
theorem dX4_wayNamed_6 : decode cX4_wayNamed 6 = .ok (.ifCond .eq 5, 3) := by decide +kernel
theorem dX4_wayNamed_9 : decode cX4_wayNamed 9 = .ok (.iconst 1, 1) := by decide +kernel
theorem dX4_wayNamed_10 : decode cX4_wayNamed 10 = .ok (.ireturn, 1) := by decide +kernel
theorem dX4_wayNamed_11 : decode cX4_wayNamed 11 = .ok (.aload_n 0, 1) := by decide +kernel
theorem dX4_wayNamed_12 : decode cX4_wayNamed 12 = .ok (.ldc 155, 2) := by decide +kernel
theorem dX4_wayNamed_14 : decode cX4_wayNamed 14 = .ok (.invokevirtual 99, 3) := by decide +kernel
theorem dX4_wayNamed_17 : decode cX4_wayNamed 17 = .ok (.ifCond .eq 5, 3) := by decide +kernel
theorem dX4_wayNamed_20 : decode cX4_wayNamed 20 = .ok (.iconst 2, 1) := by decide +kernel
theorem dX4_wayNamed_21 : decode cX4_wayNamed 21 = .ok (.ireturn, 1) := by decide +kernel
theorem dX4_wayNamed_22 : decode cX4_wayNamed 22 = .ok (.aload_n 0, 1) := by decide +kernel
theorem dX4_wayNamed_23 : decode cX4_wayNamed 23 = .ok (.ldc 157, 2) := by decide +kernel
theorem dX4_wayNamed_25 : decode cX4_wayNamed 25 = .ok (.invokevirtual 99, 3) := by decide +kernel
theorem dX4_wayNamed_28 : decode cX4_wayNamed 28 = .ok (.ifCond .eq 5, 3) := by decide +kernel
theorem dX4_wayNamed_31 : decode cX4_wayNamed 31 = .ok (.iconst 3, 1) := by decide +kernel
theorem dX4_wayNamed_32 : decode cX4_wayNamed 32 = .ok (.ireturn, 1) := by decide +kernel
theorem dX4_wayNamed_33 : decode cX4_wayNamed 33 = .ok (.aload_n 0, 1) := by decide +kernel
theorem dX4_wayNamed_34 : decode cX4_wayNamed 34 = .ok (.ldc 159, 2) := by decide +kernel
theorem dX4_wayNamed_36 : decode cX4_wayNamed 36 = .ok (.invokevirtual 99, 3) := by decide +kernel
theorem dX4_wayNamed_39 : decode cX4_wayNamed 39 = .ok (.ifCond .eq 5, 3) := by decide +kernel
theorem dX4_wayNamed_42 : decode cX4_wayNamed 42 = .ok (.iconst 4, 1) := by decide +kernel
theorem dX4_wayNamed_43 : decode cX4_wayNamed 43 = .ok (.ireturn, 1) := by decide +kernel
theorem dX4_wayNamed_44 : decode cX4_wayNamed 44 = .ok (.aload_n 0, 1) := by decide +kernel
theorem dX4_wayNamed_45 : decode cX4_wayNamed 45 = .ok (.ldc 161, 2) := by decide +kernel
theorem dX4_wayNamed_47 : decode cX4_wayNamed 47 = .ok (.invokevirtual 99, 3) := by decide +kernel
theorem dX4_wayNamed_50 : decode cX4_wayNamed 50 = .ok (.ifCond .eq 5, 3) := by decide +kernel
theorem dX4_wayNamed_53 : decode cX4_wayNamed 53 = .ok (.iconst 5, 1) := by decide +kernel
theorem dX4_wayNamed_54 : decode cX4_wayNamed 54 = .ok (.ireturn, 1) := by decide +kernel
theorem dX4_wayNamed_55 : decode cX4_wayNamed 55 = .ok (.aload_n 0, 1) := by decide +kernel
theorem dX4_wayNamed_56 : decode cX4_wayNamed 56 = .ok (.ldc 163, 2) := by decide +kernel
theorem dX4_wayNamed_58 : decode cX4_wayNamed 58 = .ok (.invokevirtual 99, 3) := by decide +kernel
theorem dX4_wayNamed_61 : decode cX4_wayNamed 61 = .ok (.ifCond .eq 8, 3) := by decide +kernel
theorem dX4_wayNamed_64 : decode cX4_wayNamed 64 = .ok (.bipush 6, 2) := by decide +kernel
theorem dX4_wayNamed_66 : decode cX4_wayNamed 66 = .ok (.goto 4, 3) := by decide +kernel
theorem dX4_wayNamed_69 : decode cX4_wayNamed 69 = .ok (.iconst 0, 1) := by decide +kernel
theorem dX4_wayNamed_70 : decode cX4_wayNamed 70 = .ok (.ireturn, 1) := by decide +kernel
set_option maxRecDepth 20000 in
theorem ggX4_takeName_X4_scan : GoodIn wsX4_takeName wsX4_scan := goodIn_r _ [5, 6, 7, 8, 9, 10, 11, 12, 13, 14, 15, 16, 17, 18, 19, 20, 4, 21, 80, 81, 82, 83, 84, 85, 86, 87, 88] (by decide +kernel) (by decide +kernel)
set_option maxRecDepth 20000 in
theorem gX4_takeName_X4_scan : GoodIn wsX4_takeName (wsV RX4 47 RX4 yX4_scan wsX4_scan) := goodIn_app (goodIn_of _ (by decide +kernel)) ggX4_takeName_X4_scan
set_option maxRecDepth 20000 in
theorem ggX4_takeName_X4_nameIs : GoodIn wsX4_takeName wsX4_nameIs := goodIn_r _ [25, 10, 6, 9, 7, 26, 27, 28, 29, 30, 31, 32, 33, 34, 35, 36, 37, 12, 13, 14, 15, 16, 17, 18, 38, 39, 40, 41, 42, 43, 44, 45, 46, 47, 48, 49, 50, 51, 52, 53, 54, 55, 56, 57, 58, 59, 60, 61, 62, 63, 64, 65, 66, 67, 68, 69, 70, 71, 72, 73, 74, 80, 81, 82, 83, 84, 85, 86, 87, 88] (by decide +kernel) (by decide +kernel)
set_option maxRecDepth 20000 in
theorem gX4_takeName_X4_nameIs : GoodIn wsX4_takeName (wsV RX4 99 RX4 yX4_nameIs wsX4_nameIs) := goodIn_app (goodIn_of _ (by decide +kernel)) ggX4_takeName_X4_nameIs
set_option maxRecDepth 20000 in
theorem ggX4_takeName_X4_failed : GoodIn wsX4_takeName wsX4_failed := goodIn_r _ [78, 79, 80, 81, 82, 83, 84, 85, 86] (by decide +kernel) (by decide +kernel)
set_option maxRecDepth 20000 in
theorem gX4_takeName_X4_failed : GoodIn wsX4_takeName (wsV RX4 102 RX4 yX4_failed wsX4_failed) := goodIn_app (goodIn_of _ (by decide +kernel)) ggX4_takeName_X4_failed
theorem dX4_takeName_0 : decode cX4_takeName 0 = .ok (.aload_n 0, 1) := by decide +kernel
theorem dX4_takeName_1 : decode cX4_takeName 1 = .ok (.invokevirtual 47, 3) := by decide +kernel
theorem dX4_takeName_4 : decode cX4_takeName 4 = .ok (.aload_n 0, 1) := by decide +kernel
theorem dX4_takeName_5 : decode cX4_takeName 5 = .ok (.aload_n 1, 1) := by decide +kernel
theorem dX4_takeName_6 : decode cX4_takeName 6 = .ok (.invokevirtual 99, 3) := by decide +kernel
theorem dX4_takeName_9 : decode cX4_takeName 9 = .ok (.ifCond .ne 11, 3) := by decide +kernel
theorem dX4_takeName_12 : decode cX4_takeName 12 = .ok (.aload_n 0, 1) := by decide +kernel
theorem dX4_takeName_13 : decode cX4_takeName 13 = .ok (.iconst 1, 1) := by decide +kernel
theorem dX4_takeName_14 : decode cX4_takeName 14 = .ok (.invokevirtual 102, 3) := by decide +kernel
theorem dX4_takeName_17 : decode cX4_takeName 17 = .ok (.ifCond .eq 7, 3) := by decide +kernel
theorem dX4_takeName_20 : decode cX4_takeName 20 = .ok (.iconst 1, 1) := by decide +kernel
theorem dX4_takeName_21 : decode cX4_takeName 21 = .ok (.goto 4, 3) := by decide +kernel
theorem dX4_takeName_24 : decode cX4_takeName 24 = .ok (.iconst 0, 1) := by decide +kernel
theorem dX4_takeName_25 : decode cX4_takeName 25 = .ok (.ireturn, 1) := by decide +kernel
set_option maxRecDepth 20000 in
theorem ggX4_takeNumbers_X4_takeNumber : GoodIn wsX4_takeNumbers wsX4_takeNumber := goodIn_r _ [8, 3, 2, 9, 10, 11, 7, 12, 13, 14, 15, 16, 17, 18, 19, 20, 21, 22, 23, 24, 25, 26, 27, 28, 29, 30, 31, 32, 33, 34, 35, 36, 37, 38, 39, 40] (by decide +kernel) (by decide +kernel)
set_option maxRecDepth 20000 in
theorem gX4_takeNumbers_X4_takeNumber : GoodIn wsX4_takeNumbers (wsV RX4 147 RX4 yX4_takeNumber wsX4_takeNumber) := goodIn_app (goodIn_of _ (by decide +kernel)) ggX4_takeNumbers_X4_takeNumber
set_option maxRecDepth 20000 in
theorem ggX4_takeNumbers_X4_scan : GoodIn wsX4_takeNumbers wsX4_scan := goodIn_r _ [12, 13, 14, 15, 16, 3, 2, 17, 18, 19, 20, 21, 22, 23, 24, 25, 7, 26, 32, 33, 34, 35, 36, 37, 38, 39, 40] (by decide +kernel) (by decide +kernel)
set_option maxRecDepth 20000 in
theorem gX4_takeNumbers_X4_scan : GoodIn wsX4_takeNumbers (wsV RX4 47 RX4 yX4_scan wsX4_scan) := goodIn_app (goodIn_of _ (by decide +kernel)) ggX4_takeNumbers_X4_scan
set_option maxRecDepth 20000 in
theorem ggX4_takeNumbers_X4_failed : GoodIn wsX4_takeNumbers wsX4_failed := goodIn_r _ [30, 31, 32, 33, 34, 35, 36, 37, 38] (by decide +kernel) (by decide +kernel)
set_option maxRecDepth 20000 in
theorem gX4_takeNumbers_X4_failed : GoodIn wsX4_takeNumbers (wsV RX4 102 RX4 yX4_failed wsX4_failed) := goodIn_app (goodIn_of _ (by decide +kernel)) ggX4_takeNumbers_X4_failed
theorem dX4_takeNumbers_0 : decode cX4_takeNumbers 0 = .ok (.iconst 0, 1) := by decide +kernel
theorem dX4_takeNumbers_1 : decode cX4_takeNumbers 1 = .ok (.istore_n 3, 1) := by decide +kernel
theorem dX4_takeNumbers_2 : decode cX4_takeNumbers 2 = .ok (.iload_n 3, 1) := by decide +kernel
theorem dX4_takeNumbers_3 : decode cX4_takeNumbers 3 = .ok (.aload_n 1, 1) := by decide +kernel
theorem dX4_takeNumbers_4 : decode cX4_takeNumbers 4 = .ok (.arraylength, 1) := by decide +kernel
theorem dX4_takeNumbers_5 : decode cX4_takeNumbers 5 = .ok (.if_icmp .ge 49, 3) := by decide +kernel
theorem dX4_takeNumbers_8 : decode cX4_takeNumbers 8 = .ok (.iload_n 3, 1) := by decide +kernel
theorem dX4_takeNumbers_9 : decode cX4_takeNumbers 9 = .ok (.aload_n 2, 1) := by decide +kernel
theorem dX4_takeNumbers_10 : decode cX4_takeNumbers 10 = .ok (.arraylength, 1) := by decide +kernel
theorem dX4_takeNumbers_11 : decode cX4_takeNumbers 11 = .ok (.if_icmp .ge 43, 3) := by decide +kernel
theorem dX4_takeNumbers_14 : decode cX4_takeNumbers 14 = .ok (.iload_n 3, 1) := by decide +kernel
theorem dX4_takeNumbers_15 : decode cX4_takeNumbers 15 = .ok (.aload_n 0, 1) := by decide +kernel
theorem dX4_takeNumbers_16 : decode cX4_takeNumbers 16 = .ok (.getfield 9, 3) := by decide +kernel
theorem dX4_takeNumbers_19 : decode cX4_takeNumbers 19 = .ok (.arraylength, 1) := by decide +kernel
theorem dX4_takeNumbers_20 : decode cX4_takeNumbers 20 = .ok (.if_icmp .ge 34, 3) := by decide +kernel
theorem dX4_takeNumbers_23 : decode cX4_takeNumbers 23 = .ok (.aload_n 0, 1) := by decide +kernel
theorem dX4_takeNumbers_24 : decode cX4_takeNumbers 24 = .ok (.aload_n 1, 1) := by decide +kernel
theorem dX4_takeNumbers_25 : decode cX4_takeNumbers 25 = .ok (.iload_n 3, 1) := by decide +kernel
theorem dX4_takeNumbers_26 : decode cX4_takeNumbers 26 = .ok (.iaload, 1) := by decide +kernel
theorem dX4_takeNumbers_27 : decode cX4_takeNumbers 27 = .ok (.aload_n 2, 1) := by decide +kernel
theorem dX4_takeNumbers_28 : decode cX4_takeNumbers 28 = .ok (.iload_n 3, 1) := by decide +kernel
theorem dX4_takeNumbers_29 : decode cX4_takeNumbers 29 = .ok (.iaload, 1) := by decide +kernel
theorem dX4_takeNumbers_30 : decode cX4_takeNumbers 30 = .ok (.invokevirtual 147, 3) := by decide +kernel
theorem dX4_takeNumbers_33 : decode cX4_takeNumbers 33 = .ok (.ifCond .ne 5, 3) := by decide +kernel
theorem dX4_takeNumbers_36 : decode cX4_takeNumbers 36 = .ok (.iconst 0, 1) := by decide +kernel
theorem dX4_takeNumbers_37 : decode cX4_takeNumbers 37 = .ok (.ireturn, 1) := by decide +kernel
theorem dX4_takeNumbers_38 : decode cX4_takeNumbers 38 = .ok (.aload_n 0, 1) := by decide +kernel
theorem dX4_takeNumbers_39 : decode cX4_takeNumbers 39 = .ok (.getfield 9, 3) := by decide +kernel
theorem dX4_takeNumbers_42 : decode cX4_takeNumbers 42 = .ok (.iload_n 3, 1) := by decide +kernel
theorem dX4_takeNumbers_43 : decode cX4_takeNumbers 43 = .ok (.aload_n 0, 1) := by decide +kernel
theorem dX4_takeNumbers_44 : decode cX4_takeNumbers 44 = .ok (.getfield 22, 3) := by decide +kernel
theorem dX4_takeNumbers_47 : decode cX4_takeNumbers 47 = .ok (.iastore, 1) := by decide +kernel
theorem dX4_takeNumbers_48 : decode cX4_takeNumbers 48 = .ok (.iinc 3 1, 3) := by decide +kernel
theorem dX4_takeNumbers_51 : decode cX4_takeNumbers 51 = .ok (.goto (-49), 3) := by decide +kernel
theorem dX4_takeNumbers_54 : decode cX4_takeNumbers 54 = .ok (.aload_n 0, 1) := by decide +kernel
theorem dX4_takeNumbers_55 : decode cX4_takeNumbers 55 = .ok (.invokevirtual 47, 3) := by decide +kernel
theorem dX4_takeNumbers_58 : decode cX4_takeNumbers 58 = .ok (.aload_n 0, 1) := by decide +kernel
theorem dX4_takeNumbers_59 : decode cX4_takeNumbers 59 = .ok (.getfield 19, 3) := by decide +kernel
theorem dX4_takeNumbers_62 : decode cX4_takeNumbers 62 = .ok (.iconst 3, 1) := by decide +kernel
theorem dX4_takeNumbers_63 : decode cX4_takeNumbers 63 = .ok (.if_icmp .eq 11, 3) := by decide +kernel
theorem dX4_takeNumbers_66 : decode cX4_takeNumbers 66 = .ok (.aload_n 0, 1) := by decide +kernel
theorem dX4_takeNumbers_67 : decode cX4_takeNumbers 67 = .ok (.iconst 1, 1) := by decide +kernel
theorem dX4_takeNumbers_68 : decode cX4_takeNumbers 68 = .ok (.invokevirtual 102, 3) := by decide +kernel
theorem dX4_takeNumbers_71 : decode cX4_takeNumbers 71 = .ok (.ifCond .eq 7, 3) := by decide +kernel
theorem dX4_takeNumbers_74 : decode cX4_takeNumbers 74 = .ok (.iconst 1, 1) := by decide +kernel
theorem dX4_takeNumbers_75 : decode cX4_takeNumbers 75 = .ok (.goto 4, 3) := by decide +kernel
theorem dX4_takeNumbers_78 : decode cX4_takeNumbers 78 = .ok (.iconst 0, 1) := by decide +kernel
theorem dX4_takeNumbers_79 : decode cX4_takeNumbers 79 = .ok (.ireturn, 1) := by decide +kernel
set_option maxRecDepth 20000 in
theorem ggX4_takeNumber_X4_scan : GoodIn wsX4_takeNumber wsX4_scan := goodIn_r _ [7, 8, 9, 10, 11, 1, 2, 12, 13, 14, 15, 16, 17, 18, 19, 20, 6, 21, 27, 28, 29, 30, 31, 32, 33, 34, 35] (by decide +kernel) (by decide +kernel)
set_option maxRecDepth 20000 in
theorem gX4_takeNumber_X4_scan : GoodIn wsX4_takeNumber (wsV RX4 47 RX4 yX4_scan wsX4_scan) := goodIn_app (goodIn_of _ (by decide +kernel)) ggX4_takeNumber_X4_scan
set_option maxRecDepth 20000 in
theorem ggX4_takeNumber_X4_failed : GoodIn wsX4_takeNumber wsX4_failed := goodIn_r _ [25, 26, 27, 28, 29, 30, 31, 32, 33] (by decide +kernel) (by decide +kernel)
set_option maxRecDepth 20000 in
theorem gX4_takeNumber_X4_failed : GoodIn wsX4_takeNumber (wsV RX4 102 RX4 yX4_failed wsX4_failed) := goodIn_app (goodIn_of _ (by decide +kernel)) ggX4_takeNumber_X4_failed
theorem dX4_takeNumber_0 : decode cX4_takeNumber 0 = .ok (.aload_n 0, 1) := by decide +kernel
theorem dX4_takeNumber_1 : decode cX4_takeNumber 1 = .ok (.invokevirtual 47, 3) := by decide +kernel
theorem dX4_takeNumber_4 : decode cX4_takeNumber 4 = .ok (.aload_n 0, 1) := by decide +kernel
theorem dX4_takeNumber_5 : decode cX4_takeNumber 5 = .ok (.getfield 19, 3) := by decide +kernel
theorem dX4_takeNumber_8 : decode cX4_takeNumber 8 = .ok (.iconst 2, 1) := by decide +kernel
theorem dX4_takeNumber_9 : decode cX4_takeNumber 9 = .ok (.if_icmp .eq 9, 3) := by decide +kernel
theorem dX4_takeNumber_12 : decode cX4_takeNumber 12 = .ok (.aload_n 0, 1) := by decide +kernel
theorem dX4_takeNumber_13 : decode cX4_takeNumber 13 = .ok (.iconst 1, 1) := by decide +kernel
theorem dX4_takeNumber_14 : decode cX4_takeNumber 14 = .ok (.invokevirtual 102, 3) := by decide +kernel
theorem dX4_takeNumber_17 : decode cX4_takeNumber 17 = .ok (.ireturn, 1) := by decide +kernel
theorem dX4_takeNumber_18 : decode cX4_takeNumber 18 = .ok (.aload_n 0, 1) := by decide +kernel
theorem dX4_takeNumber_19 : decode cX4_takeNumber 19 = .ok (.getfield 22, 3) := by decide +kernel
theorem dX4_takeNumber_22 : decode cX4_takeNumber 22 = .ok (.iload_n 1, 1) := by decide +kernel
theorem dX4_takeNumber_23 : decode cX4_takeNumber 23 = .ok (.if_icmp .lt 11, 3) := by decide +kernel
theorem dX4_takeNumber_26 : decode cX4_takeNumber 26 = .ok (.aload_n 0, 1) := by decide +kernel
theorem dX4_takeNumber_27 : decode cX4_takeNumber 27 = .ok (.getfield 22, 3) := by decide +kernel
theorem dX4_takeNumber_30 : decode cX4_takeNumber 30 = .ok (.iload_n 2, 1) := by decide +kernel
theorem dX4_takeNumber_31 : decode cX4_takeNumber 31 = .ok (.if_icmp .le 11, 3) := by decide +kernel
theorem dX4_takeNumber_34 : decode cX4_takeNumber 34 = .ok (.aload_n 0, 1) := by decide +kernel
theorem dX4_takeNumber_35 : decode cX4_takeNumber 35 = .ok (.iconst 2, 1) := by decide +kernel
theorem dX4_takeNumber_36 : decode cX4_takeNumber 36 = .ok (.invokevirtual 102, 3) := by decide +kernel
theorem dX4_takeNumber_39 : decode cX4_takeNumber 39 = .ok (.ifCond .eq 7, 3) := by decide +kernel
theorem dX4_takeNumber_42 : decode cX4_takeNumber 42 = .ok (.iconst 1, 1) := by decide +kernel
theorem dX4_takeNumber_43 : decode cX4_takeNumber 43 = .ok (.goto 4, 3) := by decide +kernel
theorem dX4_takeNumber_46 : decode cX4_takeNumber 46 = .ok (.iconst 0, 1) := by decide +kernel
theorem dX4_takeNumber_47 : decode cX4_takeNumber 47 = .ok (.ireturn, 1) := by decide +kernel
theorem dX4_failed_0 : decode cX4_failed 0 = .ok (.aload_n 0, 1) := by decide +kernel
theorem dX4_failed_1 : decode cX4_failed 1 = .ok (.iload_n 1, 1) := by decide +kernel
theorem dX4_failed_2 : decode cX4_failed 2 = .ok (.putfield 28, 3) := by decide +kernel
theorem dX4_failed_5 : decode cX4_failed 5 = .ok (.iconst 0, 1) := by decide +kernel
theorem dX4_failed_6 : decode cX4_failed 6 = .ok (.ireturn, 1) := by decide +kernel
set_option maxRecDepth 20000 in
theorem ggX4_nameIs_J0_length_8abf5 : GoodIn wsX4_nameIs wsJ0_length_8abf5 := goodIn_r _ [9, 10, 11, 12, 13, 8, 14, 15, 16] (by decide +kernel) (by decide +kernel)
set_option maxRecDepth 20000 in
theorem gX4_nameIs_J0_length_8abf5 : GoodIn wsX4_nameIs (wsV RX4 165 RJ0 yJ0_length_8abf5 wsJ0_length_8abf5) := goodIn_app (goodIn_of _ (by decide +kernel)) ggX4_nameIs_J0_length_8abf5
set_option maxRecDepth 20000 in
theorem ggX4_nameIs_X7_byteAt : GoodIn wsX4_nameIs wsX7_byteAt := goodIn_r _ [21, 22, 23, 68, 69] (by decide +kernel) (by decide +kernel)
set_option maxRecDepth 20000 in
theorem gX4_nameIs_X7_byteAt : GoodIn wsX4_nameIs (wsV RX4 170 RX7 yX7_byteAt wsX7_byteAt) := goodIn_app (goodIn_of _ (by decide +kernel)) ggX4_nameIs_X7_byteAt
set_option maxRecDepth 20000 in
theorem ggX4_nameIs_J0_charAt_5068e : GoodIn wsX4_nameIs wsJ0_charAt_5068e := goodIn_r _ [27, 10, 28, 29, 30, 8, 31, 15, 16, 32, 33, 34, 35, 36, 37, 38, 39, 40, 41, 42, 43, 44, 45, 46, 47, 48, 49, 50, 51, 52, 53, 54, 55, 56, 57, 58, 59, 60] (by decide +kernel) (by decide +kernel)
set_option maxRecDepth 20000 in
theorem gX4_nameIs_J0_charAt_5068e : GoodIn wsX4_nameIs (wsV RX4 176 RJ0 yJ0_charAt_5068e wsJ0_charAt_5068e) := goodIn_app (goodIn_of _ (by decide +kernel)) ggX4_nameIs_J0_charAt_5068e
theorem dX4_nameIs_0 : decode cX4_nameIs 0 = .ok (.aload_n 0, 1) := by decide +kernel
theorem dX4_nameIs_1 : decode cX4_nameIs 1 = .ok (.getfield 19, 3) := by decide +kernel
theorem dX4_nameIs_4 : decode cX4_nameIs 4 = .ok (.iconst 1, 1) := by decide +kernel
theorem dX4_nameIs_5 : decode cX4_nameIs 5 = .ok (.if_icmp .ne 19, 3) := by decide +kernel
theorem dX4_nameIs_8 : decode cX4_nameIs 8 = .ok (.aload_n 0, 1) := by decide +kernel
theorem dX4_nameIs_9 : decode cX4_nameIs 9 = .ok (.getfield 15, 3) := by decide +kernel
theorem dX4_nameIs_12 : decode cX4_nameIs 12 = .ok (.aload_n 0, 1) := by decide +kernel
theorem dX4_nameIs_13 : decode cX4_nameIs 13 = .ok (.getfield 25, 3) := by decide +kernel
theorem dX4_nameIs_16 : decode cX4_nameIs 16 = .ok (.isub, 1) := by decide +kernel
theorem dX4_nameIs_17 : decode cX4_nameIs 17 = .ok (.aload_n 1, 1) := by decide +kernel
theorem dX4_nameIs_18 : decode cX4_nameIs 18 = .ok (.invokevirtual 165, 3) := by decide +kernel
theorem dX4_nameIs_21 : decode cX4_nameIs 21 = .ok (.if_icmp .eq 5, 3) := by decide +kernel
theorem dX4_nameIs_24 : decode cX4_nameIs 24 = .ok (.iconst 0, 1) := by decide +kernel
theorem dX4_nameIs_25 : decode cX4_nameIs 25 = .ok (.ireturn, 1) := by decide +kernel
theorem dX4_nameIs_26 : decode cX4_nameIs 26 = .ok (.iconst 0, 1) := by decide +kernel
theorem dX4_nameIs_27 : decode cX4_nameIs 27 = .ok (.istore_n 2, 1) := by decide +kernel
theorem dX4_nameIs_28 : decode cX4_nameIs 28 = .ok (.iload_n 2, 1) := by decide +kernel
theorem dX4_nameIs_29 : decode cX4_nameIs 29 = .ok (.aload_n 1, 1) := by decide +kernel
theorem dX4_nameIs_30 : decode cX4_nameIs 30 = .ok (.invokevirtual 165, 3) := by decide +kernel
theorem dX4_nameIs_33 : decode cX4_nameIs 33 = .ok (.if_icmp .ge 32, 3) := by decide +kernel
theorem dX4_nameIs_36 : decode cX4_nameIs 36 = .ok (.aload_n 0, 1) := by decide +kernel
theorem dX4_nameIs_37 : decode cX4_nameIs 37 = .ok (.getfield 31, 3) := by decide +kernel
theorem dX4_nameIs_40 : decode cX4_nameIs 40 = .ok (.aload_n 0, 1) := by decide +kernel
theorem dX4_nameIs_41 : decode cX4_nameIs 41 = .ok (.getfield 25, 3) := by decide +kernel
theorem dX4_nameIs_44 : decode cX4_nameIs 44 = .ok (.iload_n 2, 1) := by decide +kernel
theorem dX4_nameIs_45 : decode cX4_nameIs 45 = .ok (.iadd, 1) := by decide +kernel
theorem dX4_nameIs_46 : decode cX4_nameIs 46 = .ok (.invokevirtual 170, 3) := by decide +kernel
theorem dX4_nameIs_49 : decode cX4_nameIs 49 = .ok (.aload_n 1, 1) := by decide +kernel
theorem dX4_nameIs_50 : decode cX4_nameIs 50 = .ok (.iload_n 2, 1) := by decide +kernel
theorem dX4_nameIs_51 : decode cX4_nameIs 51 = .ok (.invokevirtual 176, 3) := by decide +kernel
theorem dX4_nameIs_54 : decode cX4_nameIs 54 = .ok (.if_icmp .eq 5, 3) := by decide +kernel
theorem dX4_nameIs_57 : decode cX4_nameIs 57 = .ok (.iconst 0, 1) := by decide +kernel
theorem dX4_nameIs_58 : decode cX4_nameIs 58 = .ok (.ireturn, 1) := by decide +kernel
theorem dX4_nameIs_59 : decode cX4_nameIs 59 = .ok (.iinc 2 1, 3) := by decide +kernel
theorem dX4_nameIs_62 : decode cX4_nameIs 62 = .ok (.goto (-34), 3) := by decide +kernel
theorem dX4_nameIs_65 : decode cX4_nameIs 65 = .ok (.iconst 1, 1) := by decide +kernel
theorem dX4_nameIs_66 : decode cX4_nameIs 66 = .ok (.ireturn, 1) := by decide +kernel
set_option maxRecDepth 20000 in
theorem ggX4_scan_X7_byteAt : GoodIn wsX4_scan wsX7_byteAt := goodIn_r _ [11, 12, 13, 25, 26] (by decide +kernel) (by decide +kernel)
set_option maxRecDepth 20000 in
theorem gX4_scan_X7_byteAt : GoodIn wsX4_scan (wsV RX4 170 RX7 yX7_byteAt wsX7_byteAt) := goodIn_app (goodIn_of _ (by decide +kernel)) ggX4_scan_X7_byteAt
set_option maxRecDepth 20000 in
theorem ggX4_scan_X4_classOf : GoodIn wsX4_scan wsX4_classOf := goodIn_r _ [17] (by decide +kernel) (by decide +kernel)
set_option maxRecDepth 20000 in
theorem gX4_scan_X4_classOf : GoodIn wsX4_scan (va_wsS RX4 182 yX4_classOf wsX4_classOf) := goodIn_app (goodIn_of _ (by decide +kernel)) ggX4_scan_X4_classOf
theorem dX4_scan_0 : decode cX4_scan 0 = .ok (.aload_n 0, 1) := by decide +kernel
theorem dX4_scan_1 : decode cX4_scan 1 = .ok (.getfield 15, 3) := by decide +kernel
theorem dX4_scan_4 : decode cX4_scan 4 = .ok (.aload_n 0, 1) := by decide +kernel
theorem dX4_scan_5 : decode cX4_scan 5 = .ok (.getfield 31, 3) := by decide +kernel
theorem dX4_scan_8 : decode cX4_scan 8 = .ok (.getfield 180, 3) := by decide +kernel
theorem dX4_scan_11 : decode cX4_scan 11 = .ok (.if_icmp .ge 34, 3) := by decide +kernel
theorem dX4_scan_14 : decode cX4_scan 14 = .ok (.aload_n 0, 1) := by decide +kernel
theorem dX4_scan_15 : decode cX4_scan 15 = .ok (.getfield 31, 3) := by decide +kernel
theorem dX4_scan_18 : decode cX4_scan 18 = .ok (.aload_n 0, 1) := by decide +kernel
theorem dX4_scan_19 : decode cX4_scan 19 = .ok (.getfield 15, 3) := by decide +kernel
theorem dX4_scan_22 : decode cX4_scan 22 = .ok (.invokevirtual 170, 3) := by decide +kernel
theorem dX4_scan_25 : decode cX4_scan 25 = .ok (.invokestatic 182, 3) := by decide +kernel
theorem dX4_scan_28 : decode cX4_scan 28 = .ok (.iconst 4, 1) := by decide +kernel
theorem dX4_scan_29 : decode cX4_scan 29 = .ok (.if_icmp .ne 16, 3) := by decide +kernel
theorem dX4_scan_32 : decode cX4_scan 32 = .ok (.aload_n 0, 1) := by decide +kernel
theorem dX4_scan_33 : decode cX4_scan 33 = .ok (.dup, 1) := by decide +kernel
theorem dX4_scan_34 : decode cX4_scan 34 = .ok (.getfield 15, 3) := by decide +kernel
theorem dX4_scan_37 : decode cX4_scan 37 = .ok (.iconst 1, 1) := by decide +kernel
theorem dX4_scan_38 : decode cX4_scan 38 = .ok (.iadd, 1) := by decide +kernel
theorem dX4_scan_39 : decode cX4_scan 39 = .ok (.putfield 15, 3) := by decide +kernel
theorem dX4_scan_42 : decode cX4_scan 42 = .ok (.goto (-42), 3) := by decide +kernel
theorem dX4_scan_45 : decode cX4_scan 45 = .ok (.aload_n 0, 1) := by decide +kernel
theorem dX4_scan_46 : decode cX4_scan 46 = .ok (.aload_n 0, 1) := by decide +kernel
theorem dX4_scan_47 : decode cX4_scan 47 = .ok (.getfield 15, 3) := by decide +kernel
theorem dX4_scan_50 : decode cX4_scan 50 = .ok (.putfield 25, 3) := by decide +kernel
theorem dX4_scan_53 : decode cX4_scan 53 = .ok (.aload_n 0, 1) := by decide +kernel
theorem dX4_scan_54 : decode cX4_scan 54 = .ok (.aload_n 0, 1) := by decide +kernel
theorem dX4_scan_55 : decode cX4_scan 55 = .ok (.getfield 31, 3) := by decide +kernel
theorem dX4_scan_58 : decode cX4_scan 58 = .ok (.aload_n 0, 1) := by decide +kernel
theorem dX4_scan_59 : decode cX4_scan 59 = .ok (.getfield 25, 3) := by decide +kernel
theorem dX4_scan_62 : decode cX4_scan 62 = .ok (.invokevirtual 170, 3) := by decide +kernel
theorem dX4_scan_65 : decode cX4_scan 65 = .ok (.invokestatic 182, 3) := by decide +kernel
theorem dX4_scan_68 : decode cX4_scan 68 = .ok (.putfield 19, 3) := by decide +kernel
theorem dX4_scan_71 : decode cX4_scan 71 = .ok (.aload_n 0, 1) := by decide +kernel
theorem dX4_scan_72 : decode cX4_scan 72 = .ok (.iconst 0, 1) := by decide +kernel
theorem dX4_scan_73 : decode cX4_scan 73 = .ok (.putfield 22, 3) := by decide +kernel
theorem dX4_scan_76 : decode cX4_scan 76 = .ok (.aload_n 0, 1) := by decide +kernel
theorem dX4_scan_77 : decode cX4_scan 77 = .ok (.getfield 19, 3) := by decide +kernel
theorem dX4_scan_80 : decode cX4_scan 80 = .ok (.ifCond .eq 7, 3) := by decide +kernel
theorem dX4_scan_83 : decode cX4_scan 83 = .ok (.iconst 1, 1) := by decide +kernel
theorem dX4_scan_84 : decode cX4_scan 84 = .ok (.goto 4, 3) := by decide +kernel
theorem dX4_scan_87 : decode cX4_scan 87 = .ok (.iconst 0, 1) := by decide +kernel
theorem dX4_scan_88 : decode cX4_scan 88 = .ok (.istore_n 1, 1) := by decide +kernel
theorem dX4_scan_89 : decode cX4_scan 89 = .ok (.iload_n 1, 1) := by decide +kernel
theorem dX4_scan_90 : decode cX4_scan 90 = .ok (.ifCond .eq 99, 3) := by decide +kernel
theorem dX4_scan_93 : decode cX4_scan 93 = .ok (.aload_n 0, 1) := by decide +kernel
theorem dX4_scan_94 : decode cX4_scan 94 = .ok (.getfield 15, 3) := by decide +kernel
theorem dX4_scan_97 : decode cX4_scan 97 = .ok (.aload_n 0, 1) := by decide +kernel
theorem dX4_scan_98 : decode cX4_scan 98 = .ok (.getfield 31, 3) := by decide +kernel
theorem dX4_scan_101 : decode cX4_scan 101 = .ok (.getfield 180, 3) := by decide +kernel
theorem dX4_scan_104 : decode cX4_scan 104 = .ok (.if_icmp .ge 85, 3) := by decide +kernel
theorem dX4_scan_107 : decode cX4_scan 107 = .ok (.aload_n 0, 1) := by decide +kernel
theorem dX4_scan_108 : decode cX4_scan 108 = .ok (.aload_n 0, 1) := by decide +kernel
theorem dX4_scan_109 : decode cX4_scan 109 = .ok (.getfield 22, 3) := by decide +kernel
theorem dX4_scan_112 : decode cX4_scan 112 = .ok (.bipush 10, 2) := by decide +kernel
theorem dX4_scan_114 : decode cX4_scan 114 = .ok (.imul, 1) := by decide +kernel
theorem dX4_scan_115 : decode cX4_scan 115 = .ok (.aload_n 0, 1) := by decide +kernel
theorem dX4_scan_116 : decode cX4_scan 116 = .ok (.getfield 31, 3) := by decide +kernel
theorem dX4_scan_119 : decode cX4_scan 119 = .ok (.aload_n 0, 1) := by decide +kernel
theorem dX4_scan_120 : decode cX4_scan 120 = .ok (.getfield 15, 3) := by decide +kernel
theorem dX4_scan_123 : decode cX4_scan 123 = .ok (.invokevirtual 170, 3) := by decide +kernel
theorem dX4_scan_126 : decode cX4_scan 126 = .ok (.iadd, 1) := by decide +kernel
theorem dX4_scan_127 : decode cX4_scan 127 = .ok (.bipush 48, 2) := by decide +kernel
theorem dX4_scan_129 : decode cX4_scan 129 = .ok (.isub, 1) := by decide +kernel
theorem dX4_scan_130 : decode cX4_scan 130 = .ok (.putfield 22, 3) := by decide +kernel
theorem dX4_scan_133 : decode cX4_scan 133 = .ok (.aload_n 0, 1) := by decide +kernel
theorem dX4_scan_134 : decode cX4_scan 134 = .ok (.dup, 1) := by decide +kernel
theorem dX4_scan_135 : decode cX4_scan 135 = .ok (.getfield 15, 3) := by decide +kernel
theorem dX4_scan_138 : decode cX4_scan 138 = .ok (.iconst 1, 1) := by decide +kernel
theorem dX4_scan_139 : decode cX4_scan 139 = .ok (.iadd, 1) := by decide +kernel
theorem dX4_scan_140 : decode cX4_scan 140 = .ok (.putfield 15, 3) := by decide +kernel
theorem dX4_scan_143 : decode cX4_scan 143 = .ok (.aload_n 0, 1) := by decide +kernel
theorem dX4_scan_144 : decode cX4_scan 144 = .ok (.getfield 19, 3) := by decide +kernel
theorem dX4_scan_147 : decode cX4_scan 147 = .ok (.iconst 1, 1) := by decide +kernel
theorem dX4_scan_148 : decode cX4_scan 148 = .ok (.if_icmp .eq 11, 3) := by decide +kernel
theorem dX4_scan_151 : decode cX4_scan 151 = .ok (.aload_n 0, 1) := by decide +kernel
theorem dX4_scan_152 : decode cX4_scan 152 = .ok (.getfield 19, 3) := by decide +kernel
theorem dX4_scan_155 : decode cX4_scan 155 = .ok (.iconst 2, 1) := by decide +kernel
theorem dX4_scan_156 : decode cX4_scan 156 = .ok (.if_icmp .ne 28, 3) := by decide +kernel
theorem dX4_scan_159 : decode cX4_scan 159 = .ok (.aload_n 0, 1) := by decide +kernel
theorem dX4_scan_160 : decode cX4_scan 160 = .ok (.getfield 31, 3) := by decide +kernel
theorem dX4_scan_163 : decode cX4_scan 163 = .ok (.aload_n 0, 1) := by decide +kernel
theorem dX4_scan_164 : decode cX4_scan 164 = .ok (.getfield 15, 3) := by decide +kernel
theorem dX4_scan_167 : decode cX4_scan 167 = .ok (.invokevirtual 170, 3) := by decide +kernel
theorem dX4_scan_170 : decode cX4_scan 170 = .ok (.invokestatic 182, 3) := by decide +kernel
theorem dX4_scan_173 : decode cX4_scan 173 = .ok (.aload_n 0, 1) := by decide +kernel
theorem dX4_scan_174 : decode cX4_scan 174 = .ok (.getfield 19, 3) := by decide +kernel
theorem dX4_scan_177 : decode cX4_scan 177 = .ok (.if_icmp .ne 7, 3) := by decide +kernel
theorem dX4_scan_180 : decode cX4_scan 180 = .ok (.iconst 1, 1) := by decide +kernel
theorem dX4_scan_181 : decode cX4_scan 181 = .ok (.goto 4, 3) := by decide +kernel
theorem dX4_scan_184 : decode cX4_scan 184 = .ok (.iconst 0, 1) := by decide +kernel
theorem dX4_scan_185 : decode cX4_scan 185 = .ok (.istore_n 1, 1) := by decide +kernel
theorem dX4_scan_186 : decode cX4_scan 186 = .ok (.goto (-97), 3) := by decide +kernel
theorem dX4_scan_189 : decode cX4_scan 189 = .ok (.aload_n 0, 1) := by decide +kernel
theorem dX4_scan_190 : decode cX4_scan 190 = .ok (.getfield 19, 3) := by decide +kernel
theorem dX4_scan_193 : decode cX4_scan 193 = .ok (.iconst 2, 1) := by decide +kernel
theorem dX4_scan_194 : decode cX4_scan 194 = .ok (.if_icmp .ne 21, 3) := by decide +kernel
theorem dX4_scan_197 : decode cX4_scan 197 = .ok (.aload_n 0, 1) := by decide +kernel
theorem dX4_scan_198 : decode cX4_scan 198 = .ok (.getfield 15, 3) := by decide +kernel
theorem dX4_scan_201 : decode cX4_scan 201 = .ok (.aload_n 0, 1) := by decide +kernel
theorem dX4_scan_202 : decode cX4_scan 202 = .ok (.getfield 25, 3) := by decide +kernel
theorem dX4_scan_205 : decode cX4_scan 205 = .ok (.isub, 1) := by decide +kernel
theorem dX4_scan_206 : decode cX4_scan 206 = .ok (.iconst 3, 1) := by decide +kernel
theorem dX4_scan_207 : decode cX4_scan 207 = .ok (.if_icmp .le 8, 3) := by decide +kernel
theorem dX4_scan_210 : decode cX4_scan 210 = .ok (.aload_n 0, 1) := by decide +kernel
theorem dX4_scan_211 : decode cX4_scan 211 = .ok (.iconst 5, 1) := by decide +kernel
theorem dX4_scan_212 : decode cX4_scan 212 = .ok (.putfield 19, 3) := by decide +kernel
theorem dX4_scan_215 : decode cX4_scan 215 = .ok (.return_, 1) := by decide +kernel
theorem dX4_classOf_0 : decode cX4_classOf 0 = .ok (.iload_n 0, 1) := by decide +kernel
theorem dX4_classOf_1 : decode cX4_classOf 1 = .ok (.iconst (-1), 1) := by decide +kernel
theorem dX4_classOf_2 : decode cX4_classOf 2 = .ok (.if_icmp .ne 5, 3) := by decide +kernel
theorem dX4_classOf_5 : decode cX4_classOf 5 = .ok (.iconst 0, 1) := by decide +kernel
theorem dX4_classOf_6 : decode cX4_classOf 6 = .ok (.ireturn, 1) := by decide +kernel
theorem dX4_classOf_7 : decode cX4_classOf 7 = .ok (.iload_n 0, 1) := by decide +kernel
theorem dX4_classOf_8 : decode cX4_classOf 8 = .ok (.bipush 97, 2) := by decide +kernel
theorem dX4_classOf_10 : decode cX4_classOf 10 = .ok (.if_icmp .lt 11, 3) := by decide +kernel
theorem dX4_classOf_13 : decode cX4_classOf 13 = .ok (.iload_n 0, 1) := by decide +kernel
theorem dX4_classOf_14 : decode cX4_classOf 14 = .ok (.bipush 122, 2) := by decide +kernel
theorem dX4_classOf_16 : decode cX4_classOf 16 = .ok (.if_icmp .gt 5, 3) := by decide +kernel
theorem dX4_classOf_19 : decode cX4_classOf 19 = .ok (.iconst 1, 1) := by decide +kernel
theorem dX4_classOf_20 : decode cX4_classOf 20 = .ok (.ireturn, 1) := by decide +kernel
theorem dX4_classOf_21 : decode cX4_classOf 21 = .ok (.iload_n 0, 1) := by decide +kernel
theorem dX4_classOf_22 : decode cX4_classOf 22 = .ok (.bipush 48, 2) := by decide +kernel
theorem dX4_classOf_24 : decode cX4_classOf 24 = .ok (.if_icmp .lt 11, 3) := by decide +kernel
theorem dX4_classOf_27 : decode cX4_classOf 27 = .ok (.iload_n 0, 1) := by decide +kernel
theorem dX4_classOf_28 : decode cX4_classOf 28 = .ok (.bipush 57, 2) := by decide +kernel
theorem dX4_classOf_30 : decode cX4_classOf 30 = .ok (.if_icmp .gt 5, 3) := by decide +kernel
theorem dX4_classOf_33 : decode cX4_classOf 33 = .ok (.iconst 2, 1) := by decide +kernel
theorem dX4_classOf_34 : decode cX4_classOf 34 = .ok (.ireturn, 1) := by decide +kernel
theorem dX4_classOf_35 : decode cX4_classOf 35 = .ok (.iload_n 0, 1) := by decide +kernel
theorem dX4_classOf_36 : decode cX4_classOf 36 = .ok (.bipush 59, 2) := by decide +kernel
theorem dX4_classOf_38 : decode cX4_classOf 38 = .ok (.if_icmp .ne 5, 3) := by decide +kernel
theorem dX4_classOf_41 : decode cX4_classOf 41 = .ok (.iconst 3, 1) := by decide +kernel
theorem dX4_classOf_42 : decode cX4_classOf 42 = .ok (.ireturn, 1) := by decide +kernel
theorem dX4_classOf_43 : decode cX4_classOf 43 = .ok (.iload_n 0, 1) := by decide +kernel
theorem dX4_classOf_44 : decode cX4_classOf 44 = .ok (.bipush 32, 2) := by decide +kernel
theorem dX4_classOf_46 : decode cX4_classOf 46 = .ok (.if_icmp .eq 9, 3) := by decide +kernel
theorem dX4_classOf_49 : decode cX4_classOf 49 = .ok (.iload_n 0, 1) := by decide +kernel
theorem dX4_classOf_50 : decode cX4_classOf 50 = .ok (.bipush 10, 2) := by decide +kernel
theorem dX4_classOf_52 : decode cX4_classOf 52 = .ok (.if_icmp .ne 7, 3) := by decide +kernel
theorem dX4_classOf_55 : decode cX4_classOf 55 = .ok (.iconst 4, 1) := by decide +kernel
theorem dX4_classOf_56 : decode cX4_classOf 56 = .ok (.goto 4, 3) := by decide +kernel
theorem dX4_classOf_59 : decode cX4_classOf 59 = .ok (.iconst 5, 1) := by decide +kernel
theorem dX4_classOf_60 : decode cX4_classOf 60 = .ok (.ireturn, 1) := by decide +kernel
theorem dX5_arePrices_0 : decode cX5_arePrices 0 = .ok (.iconst 0, 1) := by decide +kernel
theorem dX5_arePrices_1 : decode cX5_arePrices 1 = .ok (.iload_n 1, 1) := by decide +kernel
theorem dX5_arePrices_2 : decode cX5_arePrices 2 = .ok (.invokestatic 9, 3) := by decide +kernel
theorem dX5_arePrices_5 : decode cX5_arePrices 5 = .ok (.istore_n 3, 1) := by decide +kernel
theorem dX5_arePrices_6 : decode cX5_arePrices 6 = .ok (.iload_n 3, 1) := by decide +kernel
theorem dX5_arePrices_7 : decode cX5_arePrices 7 = .ok (.iload_n 1, 1) := by decide +kernel
theorem dX5_arePrices_8 : decode cX5_arePrices 8 = .ok (.iload_n 2, 1) := by decide +kernel
theorem dX5_arePrices_9 : decode cX5_arePrices 9 = .ok (.iconst 4, 1) := by decide +kernel
theorem dX5_arePrices_10 : decode cX5_arePrices 10 = .ok (.imul, 1) := by decide +kernel
theorem dX5_arePrices_11 : decode cX5_arePrices 11 = .ok (.iadd, 1) := by decide +kernel
theorem dX5_arePrices_12 : decode cX5_arePrices 12 = .ok (.if_icmp .ge 31, 3) := by decide +kernel
theorem dX5_arePrices_15 : decode cX5_arePrices 15 = .ok (.iload_n 3, 1) := by decide +kernel
theorem dX5_arePrices_16 : decode cX5_arePrices 16 = .ok (.aload_n 0, 1) := by decide +kernel
theorem dX5_arePrices_17 : decode cX5_arePrices 17 = .ok (.arraylength, 1) := by decide +kernel
theorem dX5_arePrices_18 : decode cX5_arePrices 18 = .ok (.if_icmp .ge 25, 3) := by decide +kernel
theorem dX5_arePrices_21 : decode cX5_arePrices 21 = .ok (.aload_n 0, 1) := by decide +kernel
theorem dX5_arePrices_22 : decode cX5_arePrices 22 = .ok (.iload_n 3, 1) := by decide +kernel
theorem dX5_arePrices_23 : decode cX5_arePrices 23 = .ok (.iaload, 1) := by decide +kernel
theorem dX5_arePrices_24 : decode cX5_arePrices 24 = .ok (.ifCond .lt 11, 3) := by decide +kernel
theorem dX5_arePrices_27 : decode cX5_arePrices 27 = .ok (.aload_n 0, 1) := by decide +kernel
theorem dX5_arePrices_28 : decode cX5_arePrices 28 = .ok (.iload_n 3, 1) := by decide +kernel
theorem dX5_arePrices_29 : decode cX5_arePrices 29 = .ok (.iaload, 1) := by decide +kernel
theorem dX5_arePrices_30 : decode cX5_arePrices 30 = .ok (.bipush 99, 2) := by decide +kernel
theorem dX5_arePrices_32 : decode cX5_arePrices 32 = .ok (.if_icmp .le 5, 3) := by decide +kernel
theorem dX5_arePrices_35 : decode cX5_arePrices 35 = .ok (.iconst 0, 1) := by decide +kernel
theorem dX5_arePrices_36 : decode cX5_arePrices 36 = .ok (.ireturn, 1) := by decide +kernel
theorem dX5_arePrices_37 : decode cX5_arePrices 37 = .ok (.iinc 3 1, 3) := by decide +kernel
theorem dX5_arePrices_40 : decode cX5_arePrices 40 = .ok (.goto (-34), 3) := by decide +kernel
theorem dX5_arePrices_43 : decode cX5_arePrices 43 = .ok (.iconst 1, 1) := by decide +kernel
theorem dX5_arePrices_44 : decode cX5_arePrices 44 = .ok (.ireturn, 1) := by decide +kernel
set_option maxRecDepth 20000 in
theorem ggX5_waysShown_X5_waysOfRow : GoodIn wsX5_waysShown wsX5_waysOfRow := goodIn_r _ [4, 5, 6, 3, 7, 8, 9, 10, 11, 12, 13, 14, 15, 16, 17, 18, 19, 20, 21] (by decide +kernel) (by decide +kernel)
set_option maxRecDepth 20000 in
theorem gX5_waysShown_X5_waysOfRow : GoodIn wsX5_waysShown (va_wsS RX5 17 yX5_waysOfRow wsX5_waysOfRow) := goodIn_app (goodIn_of _ (by decide +kernel)) ggX5_waysShown_X5_waysOfRow
theorem dX5_waysShown_0 : decode cX5_waysShown 0 = .ok (.sipush 8191, 3) := by decide +kernel
theorem dX5_waysShown_3 : decode cX5_waysShown 3 = .ok (.istore_n 3, 1) := by decide +kernel
theorem dX5_waysShown_4 : decode cX5_waysShown 4 = .ok (.iconst 0, 1) := by decide +kernel
theorem dX5_waysShown_5 : decode cX5_waysShown 5 = .ok (.istore 4, 2) := by decide +kernel
theorem dX5_waysShown_7 : decode cX5_waysShown 7 = .ok (.iload 4, 2) := by decide +kernel
theorem dX5_waysShown_9 : decode cX5_waysShown 9 = .ok (.iload_n 2, 1) := by decide +kernel
theorem dX5_waysShown_10 : decode cX5_waysShown 10 = .ok (.if_icmp .ge 22, 3) := by decide +kernel
theorem dX5_waysShown_13 : decode cX5_waysShown 13 = .ok (.iload_n 3, 1) := by decide +kernel
theorem dX5_waysShown_14 : decode cX5_waysShown 14 = .ok (.aload_n 0, 1) := by decide +kernel
theorem dX5_waysShown_15 : decode cX5_waysShown 15 = .ok (.iload_n 1, 1) := by decide +kernel
theorem dX5_waysShown_16 : decode cX5_waysShown 16 = .ok (.iload 4, 2) := by decide +kernel
theorem dX5_waysShown_18 : decode cX5_waysShown 18 = .ok (.iconst 4, 1) := by decide +kernel
theorem dX5_waysShown_19 : decode cX5_waysShown 19 = .ok (.imul, 1) := by decide +kernel
theorem dX5_waysShown_20 : decode cX5_waysShown 20 = .ok (.iadd, 1) := by decide +kernel
theorem dX5_waysShown_21 : decode cX5_waysShown 21 = .ok (.invokestatic 17, 3) := by decide +kernel
theorem dX5_waysShown_24 : decode cX5_waysShown 24 = .ok (.iand, 1) := by decide +kernel
theorem dX5_waysShown_25 : decode cX5_waysShown 25 = .ok (.istore_n 3, 1) := by decide +kernel
theorem dX5_waysShown_26 : decode cX5_waysShown 26 = .ok (.iinc 4 1, 3) := by decide +kernel
theorem dX5_waysShown_29 : decode cX5_waysShown 29 = .ok (.goto (-22), 3) := by decide +kernel
theorem dX5_waysShown_32 : decode cX5_waysShown 32 = .ok (.iload_n 3, 1) := by decide +kernel
theorem dX5_waysShown_33 : decode cX5_waysShown 33 = .ok (.ireturn, 1) := by decide +kernel
set_option maxRecDepth 20000 in
theorem ggX5_waysOfRow_X5_guessOfBit : GoodIn wsX5_waysOfRow wsX5_guessOfBit := goodIn_r _ [4, 5, 6, 7, 8, 9, 10, 11, 12, 13, 14, 15, 16, 17, 18] (by decide +kernel) (by decide +kernel)
set_option maxRecDepth 20000 in
theorem gX5_waysOfRow_X5_guessOfBit : GoodIn wsX5_waysOfRow (va_wsS RX5 21 yX5_guessOfBit wsX5_guessOfBit) := goodIn_app (goodIn_of _ (by decide +kernel)) ggX5_waysOfRow_X5_guessOfBit
theorem dX5_waysOfRow_0 : decode cX5_waysOfRow 0 = .ok (.iload_n 1, 1) := by decide +kernel
theorem dX5_waysOfRow_1 : decode cX5_waysOfRow 1 = .ok (.ifCond .lt 11, 3) := by decide +kernel
theorem dX5_waysOfRow_4 : decode cX5_waysOfRow 4 = .ok (.iload_n 1, 1) := by decide +kernel
theorem dX5_waysOfRow_5 : decode cX5_waysOfRow 5 = .ok (.aload_n 0, 1) := by decide +kernel
theorem dX5_waysOfRow_6 : decode cX5_waysOfRow 6 = .ok (.arraylength, 1) := by decide +kernel
theorem dX5_waysOfRow_7 : decode cX5_waysOfRow 7 = .ok (.iconst 4, 1) := by decide +kernel
theorem dX5_waysOfRow_8 : decode cX5_waysOfRow 8 = .ok (.isub, 1) := by decide +kernel
theorem dX5_waysOfRow_9 : decode cX5_waysOfRow 9 = .ok (.if_icmp .le 5, 3) := by decide +kernel
theorem dX5_waysOfRow_12 : decode cX5_waysOfRow 12 = .ok (.iconst 0, 1) := by decide +kernel
theorem dX5_waysOfRow_13 : decode cX5_waysOfRow 13 = .ok (.ireturn, 1) := by decide +kernel
theorem dX5_waysOfRow_14 : decode cX5_waysOfRow 14 = .ok (.iconst 0, 1) := by decide +kernel
theorem dX5_waysOfRow_15 : decode cX5_waysOfRow 15 = .ok (.istore_n 2, 1) := by decide +kernel
theorem dX5_waysOfRow_16 : decode cX5_waysOfRow 16 = .ok (.iconst 0, 1) := by decide +kernel
theorem dX5_waysOfRow_17 : decode cX5_waysOfRow 17 = .ok (.istore_n 3, 1) := by decide +kernel
theorem dX5_waysOfRow_18 : decode cX5_waysOfRow 18 = .ok (.iload_n 3, 1) := by decide +kernel
theorem dX5_waysOfRow_19 : decode cX5_waysOfRow 19 = .ok (.bipush 13, 2) := by decide +kernel
theorem dX5_waysOfRow_21 : decode cX5_waysOfRow 21 = .ok (.if_icmp .ge 40, 3) := by decide +kernel
theorem dX5_waysOfRow_24 : decode cX5_waysOfRow 24 = .ok (.iload_n 3, 1) := by decide +kernel
theorem dX5_waysOfRow_25 : decode cX5_waysOfRow 25 = .ok (.aload_n 0, 1) := by decide +kernel
theorem dX5_waysOfRow_26 : decode cX5_waysOfRow 26 = .ok (.iload_n 1, 1) := by decide +kernel
theorem dX5_waysOfRow_27 : decode cX5_waysOfRow 27 = .ok (.iaload, 1) := by decide +kernel
theorem dX5_waysOfRow_28 : decode cX5_waysOfRow 28 = .ok (.aload_n 0, 1) := by decide +kernel
theorem dX5_waysOfRow_29 : decode cX5_waysOfRow 29 = .ok (.iload_n 1, 1) := by decide +kernel
theorem dX5_waysOfRow_30 : decode cX5_waysOfRow 30 = .ok (.iconst 1, 1) := by decide +kernel
theorem dX5_waysOfRow_31 : decode cX5_waysOfRow 31 = .ok (.iadd, 1) := by decide +kernel
theorem dX5_waysOfRow_32 : decode cX5_waysOfRow 32 = .ok (.iaload, 1) := by decide +kernel
theorem dX5_waysOfRow_33 : decode cX5_waysOfRow 33 = .ok (.aload_n 0, 1) := by decide +kernel
theorem dX5_waysOfRow_34 : decode cX5_waysOfRow 34 = .ok (.iload_n 1, 1) := by decide +kernel
theorem dX5_waysOfRow_35 : decode cX5_waysOfRow 35 = .ok (.iconst 2, 1) := by decide +kernel
theorem dX5_waysOfRow_36 : decode cX5_waysOfRow 36 = .ok (.iadd, 1) := by decide +kernel
theorem dX5_waysOfRow_37 : decode cX5_waysOfRow 37 = .ok (.iaload, 1) := by decide +kernel
theorem dX5_waysOfRow_38 : decode cX5_waysOfRow 38 = .ok (.invokestatic 21, 3) := by decide +kernel
theorem dX5_waysOfRow_41 : decode cX5_waysOfRow 41 = .ok (.aload_n 0, 1) := by decide +kernel
theorem dX5_waysOfRow_42 : decode cX5_waysOfRow 42 = .ok (.iload_n 1, 1) := by decide +kernel
theorem dX5_waysOfRow_43 : decode cX5_waysOfRow 43 = .ok (.iconst 3, 1) := by decide +kernel
theorem dX5_waysOfRow_44 : decode cX5_waysOfRow 44 = .ok (.iadd, 1) := by decide +kernel
theorem dX5_waysOfRow_45 : decode cX5_waysOfRow 45 = .ok (.iaload, 1) := by decide +kernel
theorem dX5_waysOfRow_46 : decode cX5_waysOfRow 46 = .ok (.if_icmp .ne 9, 3) := by decide +kernel
theorem dX5_waysOfRow_49 : decode cX5_waysOfRow 49 = .ok (.iload_n 2, 1) := by decide +kernel
theorem dX5_waysOfRow_50 : decode cX5_waysOfRow 50 = .ok (.iconst 1, 1) := by decide +kernel
theorem dX5_waysOfRow_51 : decode cX5_waysOfRow 51 = .ok (.iload_n 3, 1) := by decide +kernel
theorem dX5_waysOfRow_52 : decode cX5_waysOfRow 52 = .ok (.ishl, 1) := by decide +kernel
theorem dX5_waysOfRow_53 : decode cX5_waysOfRow 53 = .ok (.ior, 1) := by decide +kernel
theorem dX5_waysOfRow_54 : decode cX5_waysOfRow 54 = .ok (.istore_n 2, 1) := by decide +kernel
theorem dX5_waysOfRow_55 : decode cX5_waysOfRow 55 = .ok (.iinc 3 1, 3) := by decide +kernel
theorem dX5_waysOfRow_58 : decode cX5_waysOfRow 58 = .ok (.goto (-40), 3) := by decide +kernel
theorem dX5_waysOfRow_61 : decode cX5_waysOfRow 61 = .ok (.iload_n 2, 1) := by decide +kernel
theorem dX5_waysOfRow_62 : decode cX5_waysOfRow 62 = .ok (.ireturn, 1) := by decide +kernel
set_option maxRecDepth 20000 in
theorem ggX5_guessOfBit_X9_guessBy : GoodIn wsX5_guessOfBit wsX9_guessBy := goodIn_r _ [4, 5, 6, 7, 8, 9, 10, 11, 12, 13, 3, 14] (by decide +kernel) (by decide +kernel)
set_option maxRecDepth 20000 in
theorem gX5_guessOfBit_X9_guessBy : GoodIn wsX5_guessOfBit (va_wsS RX5 27 yX9_guessBy wsX9_guessBy) := goodIn_app (goodIn_of _ (by decide +kernel)) ggX5_guessOfBit_X9_guessBy
theorem dX5_guessOfBit_0 : decode cX5_guessOfBit 0 = .ok (.iload_n 0, 1) := by decide +kernel
theorem dX5_guessOfBit_1 : decode cX5_guessOfBit 1 = .ok (.iconst 1, 1) := by decide +kernel
theorem dX5_guessOfBit_2 : decode cX5_guessOfBit 2 = .ok (.if_icmp .eq 8, 3) := by decide +kernel
theorem dX5_guessOfBit_5 : decode cX5_guessOfBit 5 = .ok (.iload_n 0, 1) := by decide +kernel
theorem dX5_guessOfBit_6 : decode cX5_guessOfBit 6 = .ok (.iconst 2, 1) := by decide +kernel
theorem dX5_guessOfBit_7 : decode cX5_guessOfBit 7 = .ok (.if_icmp .ne 17, 3) := by decide +kernel
theorem dX5_guessOfBit_10 : decode cX5_guessOfBit 10 = .ok (.iconst 2, 1) := by decide +kernel
theorem dX5_guessOfBit_11 : decode cX5_guessOfBit 11 = .ok (.iload_n 0, 1) := by decide +kernel
theorem dX5_guessOfBit_12 : decode cX5_guessOfBit 12 = .ok (.iconst 1, 1) := by decide +kernel
theorem dX5_guessOfBit_13 : decode cX5_guessOfBit 13 = .ok (.isub, 1) := by decide +kernel
theorem dX5_guessOfBit_14 : decode cX5_guessOfBit 14 = .ok (.iconst 2, 1) := by decide +kernel
theorem dX5_guessOfBit_15 : decode cX5_guessOfBit 15 = .ok (.iadd, 1) := by decide +kernel
theorem dX5_guessOfBit_16 : decode cX5_guessOfBit 16 = .ok (.iload_n 1, 1) := by decide +kernel
theorem dX5_guessOfBit_17 : decode cX5_guessOfBit 17 = .ok (.iload_n 2, 1) := by decide +kernel
theorem dX5_guessOfBit_18 : decode cX5_guessOfBit 18 = .ok (.iload_n 3, 1) := by decide +kernel
theorem dX5_guessOfBit_19 : decode cX5_guessOfBit 19 = .ok (.iconst 0, 1) := by decide +kernel
theorem dX5_guessOfBit_20 : decode cX5_guessOfBit 20 = .ok (.invokestatic 27, 3) := by decide +kernel
theorem dX5_guessOfBit_23 : decode cX5_guessOfBit 23 = .ok (.ireturn, 1) := by decide +kernel
theorem dX5_guessOfBit_24 : decode cX5_guessOfBit 24 = .ok (.iload_n 0, 1) := by decide +kernel
theorem dX5_guessOfBit_25 : decode cX5_guessOfBit 25 = .ok (.iconst 3, 1) := by decide +kernel
theorem dX5_guessOfBit_26 : decode cX5_guessOfBit 26 = .ok (.if_icmp .lt 23, 3) := by decide +kernel
theorem dX5_guessOfBit_29 : decode cX5_guessOfBit 29 = .ok (.iload_n 0, 1) := by decide +kernel
theorem dX5_guessOfBit_30 : decode cX5_guessOfBit 30 = .ok (.bipush 11, 2) := by decide +kernel
theorem dX5_guessOfBit_32 : decode cX5_guessOfBit 32 = .ok (.if_icmp .gt 17, 3) := by decide +kernel
theorem dX5_guessOfBit_35 : decode cX5_guessOfBit 35 = .ok (.iconst 3, 1) := by decide +kernel
theorem dX5_guessOfBit_36 : decode cX5_guessOfBit 36 = .ok (.iload_n 0, 1) := by decide +kernel
theorem dX5_guessOfBit_37 : decode cX5_guessOfBit 37 = .ok (.iconst 3, 1) := by decide +kernel
theorem dX5_guessOfBit_38 : decode cX5_guessOfBit 38 = .ok (.isub, 1) := by decide +kernel
theorem dX5_guessOfBit_39 : decode cX5_guessOfBit 39 = .ok (.iconst 1, 1) := by decide +kernel
theorem dX5_guessOfBit_40 : decode cX5_guessOfBit 40 = .ok (.iadd, 1) := by decide +kernel
theorem dX5_guessOfBit_41 : decode cX5_guessOfBit 41 = .ok (.iload_n 1, 1) := by decide +kernel
theorem dX5_guessOfBit_42 : decode cX5_guessOfBit 42 = .ok (.iload_n 2, 1) := by decide +kernel
theorem dX5_guessOfBit_43 : decode cX5_guessOfBit 43 = .ok (.iload_n 3, 1) := by decide +kernel
theorem dX5_guessOfBit_44 : decode cX5_guessOfBit 44 = .ok (.iconst 0, 1) := by decide +kernel
theorem dX5_guessOfBit_45 : decode cX5_guessOfBit 45 = .ok (.invokestatic 27, 3) := by decide +kernel
theorem dX5_guessOfBit_48 : decode cX5_guessOfBit 48 = .ok (.ireturn, 1) := by decide +kernel
theorem dX5_guessOfBit_49 : decode cX5_guessOfBit 49 = .ok (.iload_n 0, 1) := by decide +kernel
theorem dX5_guessOfBit_50 : decode cX5_guessOfBit 50 = .ok (.bipush 12, 2) := by decide +kernel
theorem dX5_guessOfBit_52 : decode cX5_guessOfBit 52 = .ok (.if_icmp .ne 7, 3) := by decide +kernel
theorem dX5_guessOfBit_55 : decode cX5_guessOfBit 55 = .ok (.iconst 4, 1) := by decide +kernel
theorem dX5_guessOfBit_56 : decode cX5_guessOfBit 56 = .ok (.goto 4, 3) := by decide +kernel
theorem dX5_guessOfBit_59 : decode cX5_guessOfBit 59 = .ok (.iconst 1, 1) := by decide +kernel
theorem dX5_guessOfBit_60 : decode cX5_guessOfBit 60 = .ok (.iconst 0, 1) := by decide +kernel
theorem dX5_guessOfBit_61 : decode cX5_guessOfBit 61 = .ok (.iload_n 1, 1) := by decide +kernel
theorem dX5_guessOfBit_62 : decode cX5_guessOfBit 62 = .ok (.iload_n 2, 1) := by decide +kernel
theorem dX5_guessOfBit_63 : decode cX5_guessOfBit 63 = .ok (.iload_n 3, 1) := by decide +kernel
theorem dX5_guessOfBit_64 : decode cX5_guessOfBit 64 = .ok (.iconst 0, 1) := by decide +kernel
theorem dX5_guessOfBit_65 : decode cX5_guessOfBit 65 = .ok (.invokestatic 27, 3) := by decide +kernel
theorem dX5_guessOfBit_68 : decode cX5_guessOfBit 68 = .ok (.ireturn, 1) := by decide +kernel
theorem dX6_init_0 : decode cX6_init 0 = .ok (.aload_n 0, 1) := by decide +kernel
theorem dX6_init_1 : decode cX6_init 1 = .ok (.invokespecial 1, 3) := by decide +kernel
theorem dX6_init_4 : decode cX6_init 4 = .ok (.aload_n 0, 1) := by decide +kernel
theorem dX6_init_5 : decode cX6_init 5 = .ok (.bipush 60, 2) := by decide +kernel
theorem dX6_init_7 : decode cX6_init 7 = .ok (.newarray .int, 2) := by decide +kernel
theorem dX6_init_9 : decode cX6_init 9 = .ok (.putfield 9, 3) := by decide +kernel
theorem dX6_init_12 : decode cX6_init 12 = .ok (.aload_n 0, 1) := by decide +kernel
theorem dX6_init_13 : decode cX6_init 13 = .ok (.iconst 1, 1) := by decide +kernel
theorem dX6_init_14 : decode cX6_init 14 = .ok (.putfield 13, 3) := by decide +kernel
theorem dX6_init_17 : decode cX6_init 17 = .ok (.aload_n 0, 1) := by decide +kernel
theorem dX6_init_18 : decode cX6_init 18 = .ok (.iconst 0, 1) := by decide +kernel
theorem dX6_init_19 : decode cX6_init 19 = .ok (.putfield 17, 3) := by decide +kernel
theorem dX6_init_22 : decode cX6_init 22 = .ok (.aload_n 0, 1) := by decide +kernel
theorem dX6_init_23 : decode cX6_init 23 = .ok (.iconst 0, 1) := by decide +kernel
theorem dX6_init_24 : decode cX6_init 24 = .ok (.putfield 21, 3) := by decide +kernel
theorem dX6_init_27 : decode cX6_init 27 = .ok (.return_, 1) := by decide +kernel
set_option maxRecDepth 20000 in
theorem ggX6_begin_J7_fill_53178 : GoodIn wsX6_begin wsJ7_fill_53178 := goodIn_r _ [8] (by decide +kernel) (by decide +kernel)
set_option maxRecDepth 20000 in
theorem gX6_begin_J7_fill_53178 : GoodIn wsX6_begin (va_wsS RX6 24 yJ7_fill_53178 wsJ7_fill_53178) := goodIn_app (goodIn_of _ (by decide +kernel)) ggX6_begin_J7_fill_53178
theorem dX6_begin_0 : decode cX6_begin 0 = .ok (.aload_n 0, 1) := by decide +kernel
theorem dX6_begin_1 : decode cX6_begin 1 = .ok (.iconst 0, 1) := by decide +kernel
theorem dX6_begin_2 : decode cX6_begin 2 = .ok (.putfield 13, 3) := by decide +kernel
theorem dX6_begin_5 : decode cX6_begin 5 = .ok (.aload_n 0, 1) := by decide +kernel
theorem dX6_begin_6 : decode cX6_begin 6 = .ok (.iload_n 1, 1) := by decide +kernel
theorem dX6_begin_7 : decode cX6_begin 7 = .ok (.putfield 17, 3) := by decide +kernel
theorem dX6_begin_10 : decode cX6_begin 10 = .ok (.aload_n 0, 1) := by decide +kernel
theorem dX6_begin_11 : decode cX6_begin 11 = .ok (.iload_n 2, 1) := by decide +kernel
theorem dX6_begin_12 : decode cX6_begin 12 = .ok (.putfield 21, 3) := by decide +kernel
theorem dX6_begin_15 : decode cX6_begin 15 = .ok (.aload_n 0, 1) := by decide +kernel
theorem dX6_begin_16 : decode cX6_begin 16 = .ok (.getfield 9, 3) := by decide +kernel
theorem dX6_begin_19 : decode cX6_begin 19 = .ok (.iconst 0, 1) := by decide +kernel
theorem dX6_begin_20 : decode cX6_begin 20 = .ok (.invokestatic 24, 3) := by decide +kernel
theorem dX6_begin_23 : decode cX6_begin 23 = .ok (.return_, 1) := by decide +kernel
theorem dX6_holds_0 : decode cX6_holds 0 = .ok (.iload_n 2, 1) := by decide +kernel
theorem dX6_holds_1 : decode cX6_holds 1 = .ok (.ifCond .lt 21, 3) := by decide +kernel
theorem dX6_holds_4 : decode cX6_holds 4 = .ok (.iload_n 1, 1) := by decide +kernel
theorem dX6_holds_5 : decode cX6_holds 5 = .ok (.ifCond .lt 17, 3) := by decide +kernel
theorem dX6_holds_8 : decode cX6_holds 8 = .ok (.iload_n 1, 1) := by decide +kernel
theorem dX6_holds_9 : decode cX6_holds 9 = .ok (.aload_n 0, 1) := by decide +kernel
theorem dX6_holds_10 : decode cX6_holds 10 = .ok (.getfield 21, 3) := by decide +kernel
theorem dX6_holds_13 : decode cX6_holds 13 = .ok (.iload_n 2, 1) := by decide +kernel
theorem dX6_holds_14 : decode cX6_holds 14 = .ok (.isub, 1) := by decide +kernel
theorem dX6_holds_15 : decode cX6_holds 15 = .ok (.if_icmp .gt 7, 3) := by decide +kernel
theorem dX6_holds_18 : decode cX6_holds 18 = .ok (.iconst 1, 1) := by decide +kernel
theorem dX6_holds_19 : decode cX6_holds 19 = .ok (.goto 4, 3) := by decide +kernel
theorem dX6_holds_22 : decode cX6_holds 22 = .ok (.iconst 0, 1) := by decide +kernel
theorem dX6_holds_23 : decode cX6_holds 23 = .ok (.ireturn, 1) := by decide +kernel
theorem dX6_cutToLane_0 : decode cX6_cutToLane 0 = .ok (.aload_n 0, 1) := by decide +kernel
theorem dX6_cutToLane_1 : decode cX6_cutToLane 1 = .ok (.getfield 17, 3) := by decide +kernel
theorem dX6_cutToLane_4 : decode cX6_cutToLane 4 = .ok (.ifCond .ne 6, 3) := by decide +kernel
theorem dX6_cutToLane_7 : decode cX6_cutToLane 7 = .ok (.iload_n 1, 1) := by decide +kernel
theorem dX6_cutToLane_8 : decode cX6_cutToLane 8 = .ok (.i2b, 1) := by decide +kernel
theorem dX6_cutToLane_9 : decode cX6_cutToLane 9 = .ok (.ireturn, 1) := by decide +kernel
theorem dX6_cutToLane_10 : decode cX6_cutToLane 10 = .ok (.aload_n 0, 1) := by decide +kernel
theorem dX6_cutToLane_11 : decode cX6_cutToLane 11 = .ok (.getfield 17, 3) := by decide +kernel
theorem dX6_cutToLane_14 : decode cX6_cutToLane 14 = .ok (.iconst 1, 1) := by decide +kernel
theorem dX6_cutToLane_15 : decode cX6_cutToLane 15 = .ok (.if_icmp .ne 8, 3) := by decide +kernel
theorem dX6_cutToLane_18 : decode cX6_cutToLane 18 = .ok (.iload_n 1, 1) := by decide +kernel
theorem dX6_cutToLane_19 : decode cX6_cutToLane 19 = .ok (.i2s, 1) := by decide +kernel
theorem dX6_cutToLane_20 : decode cX6_cutToLane 20 = .ok (.goto 4, 3) := by decide +kernel
theorem dX6_cutToLane_23 : decode cX6_cutToLane 23 = .ok (.iload_n 1, 1) := by decide +kernel
theorem dX6_cutToLane_24 : decode cX6_cutToLane 24 = .ok (.ireturn, 1) := by decide +kernel
theorem dX7_init_0 : decode cX7_init 0 = .ok (.aload_n 0, 1) := by decide +kernel
theorem dX7_init_1 : decode cX7_init 1 = .ok (.invokespecial 1, 3) := by decide +kernel
theorem dX7_init_4 : decode cX7_init 4 = .ok (.aload_n 0, 1) := by decide +kernel
theorem dX7_init_5 : decode cX7_init 5 = .ok (.sipush 400, 3) := by decide +kernel
theorem dX7_init_8 : decode cX7_init 8 = .ok (.newarray .byte, 2) := by decide +kernel
theorem dX7_init_10 : decode cX7_init 10 = .ok (.putfield 9, 3) := by decide +kernel
theorem dX7_init_13 : decode cX7_init 13 = .ok (.aload_n 0, 1) := by decide +kernel
theorem dX7_init_14 : decode cX7_init 14 = .ok (.iconst 0, 1) := by decide +kernel
theorem dX7_init_15 : decode cX7_init 15 = .ok (.putfield 13, 3) := by decide +kernel
theorem dX7_init_18 : decode cX7_init 18 = .ok (.return_, 1) := by decide +kernel
theorem dX7_hasRoomFor_0 : decode cX7_hasRoomFor 0 = .ok (.iload_n 1, 1) := by decide +kernel
theorem dX7_hasRoomFor_1 : decode cX7_hasRoomFor 1 = .ok (.aload_n 0, 1) := by decide +kernel
theorem dX7_hasRoomFor_2 : decode cX7_hasRoomFor 2 = .ok (.getfield 9, 3) := by decide +kernel
theorem dX7_hasRoomFor_5 : decode cX7_hasRoomFor 5 = .ok (.arraylength, 1) := by decide +kernel
theorem dX7_hasRoomFor_6 : decode cX7_hasRoomFor 6 = .ok (.aload_n 0, 1) := by decide +kernel
theorem dX7_hasRoomFor_7 : decode cX7_hasRoomFor 7 = .ok (.getfield 13, 3) := by decide +kernel
theorem dX7_hasRoomFor_10 : decode cX7_hasRoomFor 10 = .ok (.isub, 1) := by decide +kernel
theorem dX7_hasRoomFor_11 : decode cX7_hasRoomFor 11 = .ok (.if_icmp .gt 7, 3) := by decide +kernel
theorem dX7_hasRoomFor_14 : decode cX7_hasRoomFor 14 = .ok (.iconst 1, 1) := by decide +kernel
theorem dX7_hasRoomFor_15 : decode cX7_hasRoomFor 15 = .ok (.goto 4, 3) := by decide +kernel
theorem dX7_hasRoomFor_18 : decode cX7_hasRoomFor 18 = .ok (.iconst 0, 1) := by decide +kernel
theorem dX7_hasRoomFor_19 : decode cX7_hasRoomFor 19 = .ok (.ireturn, 1) := by decide +kernel
theorem dX7_append_0 : decode cX7_append 0 = .ok (.iload_n 3, 1) := by decide +kernel
theorem dX7_append_1 : decode cX7_append 1 = .ok (.iconst 1, 1) := by decide +kernel
theorem dX7_append_2 : decode cX7_append 2 = .ok (.isub, 1) := by decide +kernel
theorem dX7_append_3 : decode cX7_append 3 = .ok (.istore 4, 2) := by decide +kernel
theorem dX7_append_5 : decode cX7_append 5 = .ok (.iload 4, 2) := by decide +kernel
theorem dX7_append_7 : decode cX7_append 7 = .ok (.ifCond .lt 49, 3) := by decide +kernel
theorem dX7_append_10 : decode cX7_append 10 = .ok (.aload_n 0, 1) := by decide +kernel
theorem dX7_append_11 : decode cX7_append 11 = .ok (.getfield 13, 3) := by decide +kernel
theorem dX7_append_14 : decode cX7_append 14 = .ok (.aload_n 0, 1) := by decide +kernel
theorem dX7_append_15 : decode cX7_append 15 = .ok (.getfield 9, 3) := by decide +kernel
theorem dX7_append_18 : decode cX7_append 18 = .ok (.arraylength, 1) := by decide +kernel
theorem dX7_append_19 : decode cX7_append 19 = .ok (.if_icmp .ge 37, 3) := by decide +kernel
theorem dX7_append_22 : decode cX7_append 22 = .ok (.aload_n 0, 1) := by decide +kernel
theorem dX7_append_23 : decode cX7_append 23 = .ok (.getfield 9, 3) := by decide +kernel
theorem dX7_append_26 : decode cX7_append 26 = .ok (.aload_n 0, 1) := by decide +kernel
theorem dX7_append_27 : decode cX7_append 27 = .ok (.getfield 13, 3) := by decide +kernel
theorem dX7_append_30 : decode cX7_append 30 = .ok (.lload_n 1, 1) := by decide +kernel
theorem dX7_append_31 : decode cX7_append 31 = .ok (.bipush 8, 2) := by decide +kernel
theorem dX7_append_33 : decode cX7_append 33 = .ok (.iload 4, 2) := by decide +kernel
theorem dX7_append_35 : decode cX7_append 35 = .ok (.imul, 1) := by decide +kernel
theorem dX7_append_36 : decode cX7_append 36 = .ok (.lshr, 1) := by decide +kernel
theorem dX7_append_37 : decode cX7_append 37 = .ok (.l2i, 1) := by decide +kernel
theorem dX7_append_38 : decode cX7_append 38 = .ok (.i2b, 1) := by decide +kernel
theorem dX7_append_39 : decode cX7_append 39 = .ok (.bastore, 1) := by decide +kernel
theorem dX7_append_40 : decode cX7_append 40 = .ok (.aload_n 0, 1) := by decide +kernel
theorem dX7_append_41 : decode cX7_append 41 = .ok (.dup, 1) := by decide +kernel
theorem dX7_append_42 : decode cX7_append 42 = .ok (.getfield 13, 3) := by decide +kernel
theorem dX7_append_45 : decode cX7_append 45 = .ok (.iconst 1, 1) := by decide +kernel
theorem dX7_append_46 : decode cX7_append 46 = .ok (.iadd, 1) := by decide +kernel
theorem dX7_append_47 : decode cX7_append 47 = .ok (.putfield 13, 3) := by decide +kernel
theorem dX7_append_50 : decode cX7_append 50 = .ok (.iinc 4 (-1), 3) := by decide +kernel
theorem dX7_append_53 : decode cX7_append 53 = .ok (.goto (-48), 3) := by decide +kernel
theorem dX7_append_56 : decode cX7_append 56 = .ok (.return_, 1) := by decide +kernel
theorem dX7_byteAt_0 : decode cX7_byteAt 0 = .ok (.iload_n 1, 1) := by decide +kernel
theorem dX7_byteAt_1 : decode cX7_byteAt 1 = .ok (.ifCond .lt 33, 3) := by decide +kernel
theorem dX7_byteAt_4 : decode cX7_byteAt 4 = .ok (.iload_n 1, 1) := by decide +kernel
theorem dX7_byteAt_5 : decode cX7_byteAt 5 = .ok (.aload_n 0, 1) := by decide +kernel
theorem dX7_byteAt_6 : decode cX7_byteAt 6 = .ok (.getfield 13, 3) := by decide +kernel
theorem dX7_byteAt_9 : decode cX7_byteAt 9 = .ok (.if_icmp .ge 25, 3) := by decide +kernel
theorem dX7_byteAt_12 : decode cX7_byteAt 12 = .ok (.iload_n 1, 1) := by decide +kernel
theorem dX7_byteAt_13 : decode cX7_byteAt 13 = .ok (.aload_n 0, 1) := by decide +kernel
theorem dX7_byteAt_14 : decode cX7_byteAt 14 = .ok (.getfield 9, 3) := by decide +kernel
theorem dX7_byteAt_17 : decode cX7_byteAt 17 = .ok (.arraylength, 1) := by decide +kernel
theorem dX7_byteAt_18 : decode cX7_byteAt 18 = .ok (.if_icmp .ge 16, 3) := by decide +kernel
theorem dX7_byteAt_21 : decode cX7_byteAt 21 = .ok (.aload_n 0, 1) := by decide +kernel
theorem dX7_byteAt_22 : decode cX7_byteAt 22 = .ok (.getfield 9, 3) := by decide +kernel
theorem dX7_byteAt_25 : decode cX7_byteAt 25 = .ok (.iload_n 1, 1) := by decide +kernel
theorem dX7_byteAt_26 : decode cX7_byteAt 26 = .ok (.baload, 1) := by decide +kernel
theorem dX7_byteAt_27 : decode cX7_byteAt 27 = .ok (.sipush 255, 3) := by decide +kernel
theorem dX7_byteAt_30 : decode cX7_byteAt 30 = .ok (.iand, 1) := by decide +kernel
theorem dX7_byteAt_31 : decode cX7_byteAt 31 = .ok (.goto 4, 3) := by decide +kernel
theorem dX7_byteAt_34 : decode cX7_byteAt 34 = .ok (.iconst (-1), 1) := by decide +kernel
theorem dX7_byteAt_35 : decode cX7_byteAt 35 = .ok (.ireturn, 1) := by decide +kernel
set_option maxRecDepth 20000 in
theorem ggX8_init_X2_init : GoodIn wsX8_init wsX2_init := goodIn_r _ [15, 16, 2, 3, 17, 18, 19, 20, 21, 22, 23, 24, 25, 26, 27, 28, 29, 30, 31, 32, 33, 34, 35, 36, 37, 38, 39, 40, 41, 42, 43, 44, 45, 46, 47, 48, 49, 50, 51, 52, 53, 54, 55, 56, 57, 58, 59, 60, 61, 62, 63, 64, 65, 66, 71, 72, 73, 74, 75, 76, 77, 78, 79, 80, 81, 82, 83, 84] (by decide +kernel) (by decide +kernel)
set_option maxRecDepth 20000 in
theorem gX8_init_X2_init : GoodIn wsX8_init (wsX2_init) := ggX8_init_X2_init
theorem dX8_init_0 : decode cX8_init 0 = .ok (.aload_n 0, 1) := by decide +kernel
theorem dX8_init_1 : decode cX8_init 1 = .ok (.invokespecial 3, 3) := by decide +kernel
theorem dX8_init_4 : decode cX8_init 4 = .ok (.aload_n 0, 1) := by decide +kernel
theorem dX8_init_5 : decode cX8_init 5 = .ok (.new 9, 3) := by decide +kernel
theorem dX8_init_8 : decode cX8_init 8 = .ok (.dup, 1) := by decide +kernel
theorem dX8_init_9 : decode cX8_init 9 = .ok (.invokespecial 11, 3) := by decide +kernel
theorem dX8_init_12 : decode cX8_init 12 = .ok (.putfield 12, 3) := by decide +kernel
theorem dX8_init_15 : decode cX8_init 15 = .ok (.aload_n 0, 1) := by decide +kernel
theorem dX8_init_16 : decode cX8_init 16 = .ok (.bipush 61, 2) := by decide +kernel
theorem dX8_init_18 : decode cX8_init 18 = .ok (.newarray .int, 2) := by decide +kernel
theorem dX8_init_20 : decode cX8_init 20 = .ok (.putfield 18, 3) := by decide +kernel
theorem dX8_init_23 : decode cX8_init 23 = .ok (.aload_n 0, 1) := by decide +kernel
theorem dX8_init_24 : decode cX8_init 24 = .ok (.ldc 22, 2) := by decide +kernel
theorem dX8_init_26 : decode cX8_init 26 = .ok (.putfield 23, 3) := by decide +kernel
theorem dX8_init_29 : decode cX8_init 29 = .ok (.aload_n 0, 1) := by decide +kernel
theorem dX8_init_30 : decode cX8_init 30 = .ok (.ldc 22, 2) := by decide +kernel
theorem dX8_init_32 : decode cX8_init 32 = .ok (.putfield 27, 3) := by decide +kernel
theorem dX8_init_35 : decode cX8_init 35 = .ok (.return_, 1) := by decide +kernel
set_option maxRecDepth 20000 in
theorem ggX8_seekRound_X2_takeAll : GoodIn wsX8_seekRound wsX2_takeAll := goodIn_r _ [10, 11, 12, 13, 14, 15, 16, 17, 18, 19, 20, 21, 22, 23, 24, 25, 26, 27, 28, 29, 30, 31, 32, 33, 34, 35, 36, 37, 38, 39, 40, 41, 42, 43, 44, 45, 46, 47, 48, 49, 133, 134, 135, 136, 137, 138, 139, 140, 141, 142, 143, 144, 145, 146, 147, 148, 149, 150, 151, 152, 153, 154, 155, 156, 157, 158] (by decide +kernel) (by decide +kernel)
set_option maxRecDepth 20000 in
theorem gX8_seekRound_X2_takeAll : GoodIn wsX8_seekRound (wsV RX8 30 RX2 yX2_takeAll wsX2_takeAll) := goodIn_app (goodIn_of _ (by decide +kernel)) ggX8_seekRound_X2_takeAll
set_option maxRecDepth 20000 in
theorem ggX8_seekRound_X2_likeness : GoodIn wsX8_seekRound wsX2_likeness := goodIn_r _ [53, 17, 18, 19, 54, 55, 56, 9, 57, 13, 11, 58, 133, 134, 135, 136, 137, 138, 139, 140, 141, 142, 143, 144, 145, 146, 147, 148, 149, 150, 151, 152, 153] (by decide +kernel) (by decide +kernel)
set_option maxRecDepth 20000 in
theorem gX8_seekRound_X2_likeness : GoodIn wsX8_seekRound (wsV RX8 34 RX2 yX2_likeness wsX2_likeness) := goodIn_app (goodIn_of _ (by decide +kernel)) ggX8_seekRound_X2_likeness
set_option maxRecDepth 20000 in
theorem ggX8_seekRound_X2_liveYear : GoodIn wsX8_seekRound wsX2_liveYear := goodIn_r _ [62, 21, 12, 16, 18, 19, 17, 22, 63, 64, 65, 9, 66, 13, 11, 58, 67, 68, 20, 69, 70, 71, 72, 73, 74, 75, 76, 77, 78, 79, 80, 81, 82, 83, 84, 85, 86, 87, 26, 88, 31, 32, 89, 90, 91, 92, 93, 94, 95, 96, 97, 98, 99, 100, 101, 102, 103, 104, 15, 14, 105, 106, 107, 108, 39, 109, 43, 41, 110, 42, 44, 111, 112, 113, 114, 45, 115, 116, 117, 118, 119, 120, 121, 122, 34, 123, 33, 35, 133, 134, 135, 136, 137, 138, 139, 140, 141, 142, 143, 144, 145, 146, 147, 148, 149, 150, 151, 152, 153, 154, 155, 156, 157, 158] (by decide +kernel) (by decide +kernel)
set_option maxRecDepth 20000 in
theorem gX8_seekRound_X2_liveYear : GoodIn wsX8_seekRound (wsV RX8 38 RX2 yX2_liveYear wsX2_liveYear) := goodIn_app (goodIn_of _ (by decide +kernel)) ggX8_seekRound_X2_liveYear
set_option maxRecDepth 20000 in
theorem ggX8_seekRound_X8_yearsSinceLike : GoodIn wsX8_seekRound wsX8_yearsSinceLike := goodIn_r _ [128, 5, 1, 129, 130, 131, 132] (by decide +kernel) (by decide +kernel)
set_option maxRecDepth 20000 in
theorem gX8_seekRound_X8_yearsSinceLike : GoodIn wsX8_seekRound (wsV RX8 41 RX8 yX8_yearsSinceLike wsX8_yearsSinceLike) := goodIn_app (goodIn_of _ (by decide +kernel)) ggX8_seekRound_X8_yearsSinceLike
theorem dX8_seekRound_0 : decode cX8_seekRound 0 = .ok (.aload_n 0, 1) := by decide +kernel
theorem dX8_seekRound_1 : decode cX8_seekRound 1 = .ok (.ldc 22, 2) := by decide +kernel
theorem dX8_seekRound_3 : decode cX8_seekRound 3 = .ok (.putfield 23, 3) := by decide +kernel
theorem dX8_seekRound_6 : decode cX8_seekRound 6 = .ok (.aload_n 0, 1) := by decide +kernel
theorem dX8_seekRound_7 : decode cX8_seekRound 7 = .ok (.ldc 22, 2) := by decide +kernel
theorem dX8_seekRound_9 : decode cX8_seekRound 9 = .ok (.putfield 27, 3) := by decide +kernel
theorem dX8_seekRound_12 : decode cX8_seekRound 12 = .ok (.aload_n 0, 1) := by decide +kernel
theorem dX8_seekRound_13 : decode cX8_seekRound 13 = .ok (.getfield 12, 3) := by decide +kernel
theorem dX8_seekRound_16 : decode cX8_seekRound 16 = .ok (.aload_n 1, 1) := by decide +kernel
theorem dX8_seekRound_17 : decode cX8_seekRound 17 = .ok (.invokevirtual 30, 3) := by decide +kernel
theorem dX8_seekRound_20 : decode cX8_seekRound 20 = .ok (.aload_n 0, 1) := by decide +kernel
theorem dX8_seekRound_21 : decode cX8_seekRound 21 = .ok (.getfield 18, 3) := by decide +kernel
theorem dX8_seekRound_24 : decode cX8_seekRound 24 = .ok (.iconst 0, 1) := by decide +kernel
theorem dX8_seekRound_25 : decode cX8_seekRound 25 = .ok (.aload_n 0, 1) := by decide +kernel
theorem dX8_seekRound_26 : decode cX8_seekRound 26 = .ok (.getfield 12, 3) := by decide +kernel
theorem dX8_seekRound_29 : decode cX8_seekRound 29 = .ok (.invokevirtual 34, 3) := by decide +kernel
theorem dX8_seekRound_32 : decode cX8_seekRound 32 = .ok (.iastore, 1) := by decide +kernel
theorem dX8_seekRound_33 : decode cX8_seekRound 33 = .ok (.iconst 1, 1) := by decide +kernel
theorem dX8_seekRound_34 : decode cX8_seekRound 34 = .ok (.istore_n 2, 1) := by decide +kernel
theorem dX8_seekRound_35 : decode cX8_seekRound 35 = .ok (.iload_n 2, 1) := by decide +kernel
theorem dX8_seekRound_36 : decode cX8_seekRound 36 = .ok (.aload_n 0, 1) := by decide +kernel
theorem dX8_seekRound_37 : decode cX8_seekRound 37 = .ok (.getfield 18, 3) := by decide +kernel
theorem dX8_seekRound_40 : decode cX8_seekRound 40 = .ok (.arraylength, 1) := by decide +kernel
theorem dX8_seekRound_41 : decode cX8_seekRound 41 = .ok (.if_icmp .ge 67, 3) := by decide +kernel
theorem dX8_seekRound_44 : decode cX8_seekRound 44 = .ok (.aload_n 0, 1) := by decide +kernel
theorem dX8_seekRound_45 : decode cX8_seekRound 45 = .ok (.getfield 27, 3) := by decide +kernel
theorem dX8_seekRound_48 : decode cX8_seekRound 48 = .ok (.ldc 22, 2) := by decide +kernel
theorem dX8_seekRound_50 : decode cX8_seekRound 50 = .ok (.if_icmp .ne 58, 3) := by decide +kernel
theorem dX8_seekRound_53 : decode cX8_seekRound 53 = .ok (.aload_n 0, 1) := by decide +kernel
theorem dX8_seekRound_54 : decode cX8_seekRound 54 = .ok (.getfield 12, 3) := by decide +kernel
theorem dX8_seekRound_57 : decode cX8_seekRound 57 = .ok (.invokevirtual 38, 3) := by decide +kernel
theorem dX8_seekRound_60 : decode cX8_seekRound 60 = .ok (.pop, 1) := by decide +kernel
theorem dX8_seekRound_61 : decode cX8_seekRound 61 = .ok (.aload_n 0, 1) := by decide +kernel
theorem dX8_seekRound_62 : decode cX8_seekRound 62 = .ok (.getfield 18, 3) := by decide +kernel
theorem dX8_seekRound_65 : decode cX8_seekRound 65 = .ok (.iload_n 2, 1) := by decide +kernel
theorem dX8_seekRound_66 : decode cX8_seekRound 66 = .ok (.aload_n 0, 1) := by decide +kernel
theorem dX8_seekRound_67 : decode cX8_seekRound 67 = .ok (.getfield 12, 3) := by decide +kernel
theorem dX8_seekRound_70 : decode cX8_seekRound 70 = .ok (.invokevirtual 34, 3) := by decide +kernel
theorem dX8_seekRound_73 : decode cX8_seekRound 73 = .ok (.iastore, 1) := by decide +kernel
theorem dX8_seekRound_74 : decode cX8_seekRound 74 = .ok (.aload_n 0, 1) := by decide +kernel
theorem dX8_seekRound_75 : decode cX8_seekRound 75 = .ok (.aload_n 0, 1) := by decide +kernel
theorem dX8_seekRound_76 : decode cX8_seekRound 76 = .ok (.iload_n 2, 1) := by decide +kernel
theorem dX8_seekRound_77 : decode cX8_seekRound 77 = .ok (.invokevirtual 41, 3) := by decide +kernel
theorem dX8_seekRound_80 : decode cX8_seekRound 80 = .ok (.putfield 23, 3) := by decide +kernel
theorem dX8_seekRound_83 : decode cX8_seekRound 83 = .ok (.aload_n 0, 1) := by decide +kernel
theorem dX8_seekRound_84 : decode cX8_seekRound 84 = .ok (.aload_n 0, 1) := by decide +kernel
theorem dX8_seekRound_85 : decode cX8_seekRound 85 = .ok (.getfield 23, 3) := by decide +kernel
theorem dX8_seekRound_88 : decode cX8_seekRound 88 = .ok (.ldc 22, 2) := by decide +kernel
theorem dX8_seekRound_90 : decode cX8_seekRound 90 = .ok (.if_icmp .ne 8, 3) := by decide +kernel
theorem dX8_seekRound_93 : decode cX8_seekRound 93 = .ok (.ldc 22, 2) := by decide +kernel
theorem dX8_seekRound_95 : decode cX8_seekRound 95 = .ok (.goto 4, 3) := by decide +kernel
theorem dX8_seekRound_98 : decode cX8_seekRound 98 = .ok (.iload_n 2, 1) := by decide +kernel
theorem dX8_seekRound_99 : decode cX8_seekRound 99 = .ok (.putfield 27, 3) := by decide +kernel
theorem dX8_seekRound_102 : decode cX8_seekRound 102 = .ok (.iinc 2 1, 3) := by decide +kernel
theorem dX8_seekRound_105 : decode cX8_seekRound 105 = .ok (.goto (-70), 3) := by decide +kernel
theorem dX8_seekRound_108 : decode cX8_seekRound 108 = .ok (.return_, 1) := by decide +kernel
theorem dX8_yearsSinceLike_0 : decode cX8_yearsSinceLike 0 = .ok (.iconst 1, 1) := by decide +kernel
theorem dX8_yearsSinceLike_1 : decode cX8_yearsSinceLike 1 = .ok (.istore_n 2, 1) := by decide +kernel
theorem dX8_yearsSinceLike_2 : decode cX8_yearsSinceLike 2 = .ok (.iload_n 2, 1) := by decide +kernel
theorem dX8_yearsSinceLike_3 : decode cX8_yearsSinceLike 3 = .ok (.bipush 30, 2) := by decide +kernel
theorem dX8_yearsSinceLike_5 : decode cX8_yearsSinceLike 5 = .ok (.if_icmp .gt 42, 3) := by decide +kernel
theorem dX8_yearsSinceLike_8 : decode cX8_yearsSinceLike 8 = .ok (.iload_n 2, 1) := by decide +kernel
theorem dX8_yearsSinceLike_9 : decode cX8_yearsSinceLike 9 = .ok (.iload_n 1, 1) := by decide +kernel
theorem dX8_yearsSinceLike_10 : decode cX8_yearsSinceLike 10 = .ok (.if_icmp .gt 37, 3) := by decide +kernel
theorem dX8_yearsSinceLike_13 : decode cX8_yearsSinceLike 13 = .ok (.iload_n 1, 1) := by decide +kernel
theorem dX8_yearsSinceLike_14 : decode cX8_yearsSinceLike 14 = .ok (.aload_n 0, 1) := by decide +kernel
theorem dX8_yearsSinceLike_15 : decode cX8_yearsSinceLike 15 = .ok (.getfield 18, 3) := by decide +kernel
theorem dX8_yearsSinceLike_18 : decode cX8_yearsSinceLike 18 = .ok (.arraylength, 1) := by decide +kernel
theorem dX8_yearsSinceLike_19 : decode cX8_yearsSinceLike 19 = .ok (.if_icmp .ge 28, 3) := by decide +kernel
theorem dX8_yearsSinceLike_22 : decode cX8_yearsSinceLike 22 = .ok (.aload_n 0, 1) := by decide +kernel
theorem dX8_yearsSinceLike_23 : decode cX8_yearsSinceLike 23 = .ok (.getfield 18, 3) := by decide +kernel
theorem dX8_yearsSinceLike_26 : decode cX8_yearsSinceLike 26 = .ok (.iload_n 1, 1) := by decide +kernel
theorem dX8_yearsSinceLike_27 : decode cX8_yearsSinceLike 27 = .ok (.iload_n 2, 1) := by decide +kernel
theorem dX8_yearsSinceLike_28 : decode cX8_yearsSinceLike 28 = .ok (.isub, 1) := by decide +kernel
theorem dX8_yearsSinceLike_29 : decode cX8_yearsSinceLike 29 = .ok (.iaload, 1) := by decide +kernel
theorem dX8_yearsSinceLike_30 : decode cX8_yearsSinceLike 30 = .ok (.aload_n 0, 1) := by decide +kernel
theorem dX8_yearsSinceLike_31 : decode cX8_yearsSinceLike 31 = .ok (.getfield 18, 3) := by decide +kernel
