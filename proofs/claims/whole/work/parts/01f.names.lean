theorem dX10_print_14 : decode cX10_print 14 = .ok (.getfield 55, 3) := by decide +kernel
theorem dX10_print_17 : decode cX10_print 17 = .ok (.ifCond .ne 6, 3) := by decide +kernel
theorem dX10_print_20 : decode cX10_print 20 = .ok (.ldc 165, 2) := by decide +kernel
theorem dX10_print_22 : decode cX10_print 22 = .ok (.ireturn, 1) := by decide +kernel
theorem dX10_print_23 : decode cX10_print 23 = .ok (.aload_n 0, 1) := by decide +kernel
theorem dX10_print_24 : decode cX10_print 24 = .ok (.getfield 48, 3) := by decide +kernel
theorem dX10_print_27 : decode cX10_print 27 = .ok (.getfield 166, 3) := by decide +kernel
theorem dX10_print_30 : decode cX10_print 30 = .ok (.istore_n 2, 1) := by decide +kernel
theorem dX10_print_31 : decode cX10_print 31 = .ok (.aload_n 0, 1) := by decide +kernel
theorem dX10_print_32 : decode cX10_print 32 = .ok (.getfield 48, 3) := by decide +kernel
theorem dX10_print_35 : decode cX10_print 35 = .ok (.iload_n 1, 1) := by decide +kernel
theorem dX10_print_36 : decode cX10_print 36 = .ok (.putfield 166, 3) := by decide +kernel
theorem dX10_print_39 : decode cX10_print 39 = .ok (.iload_n 2, 1) := by decide +kernel
theorem dX10_print_40 : decode cX10_print 40 = .ok (.ireturn, 1) := by decide +kernel
set_option maxRecDepth 20000 in
theorem ggX10_ministry_X3_order : GoodIn wsX10_ministry wsX3_order := goodIn_r _ [10, 11, 12, 13, 36, 37, 38, 39, 40] (by decide +kernel) (by decide +kernel)
set_option maxRecDepth 20000 in
theorem gX10_ministry_X3_order : GoodIn wsX10_ministry (wsV RX10 173 RX3 yX3_order wsX3_order) := goodIn_app (goodIn_of _ (by decide +kernel)) ggX10_ministry_X3_order
theorem dX10_ministry_0 : decode cX10_ministry 0 = .ok (.iload_n 1, 1) := by decide +kernel
theorem dX10_ministry_1 : decode cX10_ministry 1 = .ok (.ifCond .lt 24, 3) := by decide +kernel
theorem dX10_ministry_4 : decode cX10_ministry 4 = .ok (.iload_n 2, 1) := by decide +kernel
theorem dX10_ministry_5 : decode cX10_ministry 5 = .ok (.iload_n 1, 1) := by decide +kernel
theorem dX10_ministry_6 : decode cX10_ministry 6 = .ok (.if_icmp .lt 19, 3) := by decide +kernel
theorem dX10_ministry_9 : decode cX10_ministry 9 = .ok (.iload_n 2, 1) := by decide +kernel
theorem dX10_ministry_10 : decode cX10_ministry 10 = .ok (.bipush 99, 2) := by decide +kernel
theorem dX10_ministry_12 : decode cX10_ministry 12 = .ok (.if_icmp .gt 13, 3) := by decide +kernel
theorem dX10_ministry_15 : decode cX10_ministry 15 = .ok (.iload_n 3, 1) := by decide +kernel
theorem dX10_ministry_16 : decode cX10_ministry 16 = .ok (.ifCond .lt 9, 3) := by decide +kernel
theorem dX10_ministry_19 : decode cX10_ministry 19 = .ok (.iload_n 3, 1) := by decide +kernel
theorem dX10_ministry_20 : decode cX10_ministry 20 = .ok (.bipush 99, 2) := by decide +kernel
theorem dX10_ministry_22 : decode cX10_ministry 22 = .ok (.if_icmp .le 6, 3) := by decide +kernel
theorem dX10_ministry_25 : decode cX10_ministry 25 = .ok (.ldc 71, 2) := by decide +kernel
theorem dX10_ministry_27 : decode cX10_ministry 27 = .ok (.ireturn, 1) := by decide +kernel
theorem dX10_ministry_28 : decode cX10_ministry 28 = .ok (.aload_n 0, 1) := by decide +kernel
theorem dX10_ministry_29 : decode cX10_ministry 29 = .ok (.getfield 55, 3) := by decide +kernel
theorem dX10_ministry_32 : decode cX10_ministry 32 = .ok (.ifCond .ne 6, 3) := by decide +kernel
theorem dX10_ministry_35 : decode cX10_ministry 35 = .ok (.ldc 165, 2) := by decide +kernel
theorem dX10_ministry_37 : decode cX10_ministry 37 = .ok (.ireturn, 1) := by decide +kernel
theorem dX10_ministry_38 : decode cX10_ministry 38 = .ok (.aload_n 0, 1) := by decide +kernel
theorem dX10_ministry_39 : decode cX10_ministry 39 = .ok (.getfield 48, 3) := by decide +kernel
theorem dX10_ministry_42 : decode cX10_ministry 42 = .ok (.getfield 169, 3) := by decide +kernel
theorem dX10_ministry_45 : decode cX10_ministry 45 = .ok (.iload_n 1, 1) := by decide +kernel
theorem dX10_ministry_46 : decode cX10_ministry 46 = .ok (.iload_n 2, 1) := by decide +kernel
theorem dX10_ministry_47 : decode cX10_ministry 47 = .ok (.iload_n 3, 1) := by decide +kernel
theorem dX10_ministry_48 : decode cX10_ministry 48 = .ok (.invokevirtual 173, 3) := by decide +kernel
theorem dX10_ministry_51 : decode cX10_ministry 51 = .ok (.iconst 1, 1) := by decide +kernel
theorem dX10_ministry_52 : decode cX10_ministry 52 = .ok (.ireturn, 1) := by decide +kernel
set_option maxRecDepth 20000 in
theorem ggX10_years_X2_liveYear : GoodIn wsX10_years wsX2_liveYear := goodIn_r _ [10, 11, 12, 13, 14, 15, 16, 17, 18, 19, 20, 9, 21, 22, 23, 24, 25, 26, 27, 28, 29, 30, 31, 32, 33, 34, 35, 36, 37, 38, 39, 40, 41, 42, 43, 44, 45, 46, 47, 48, 49, 50, 51, 52, 53, 54, 55, 56, 57, 58, 59, 60, 61, 62, 63, 64, 65, 66, 67, 68, 69, 70, 71, 72, 73, 74, 75, 76, 77, 78, 79, 80, 81, 82, 83, 84, 85, 86, 87, 88, 89, 90, 91, 92, 93, 94, 95, 96, 107, 108, 109, 110, 111, 112, 113, 114, 115, 116, 117, 118, 119, 120, 121, 122, 123, 124, 125, 126, 127, 128, 129, 130, 131, 132] (by decide +kernel) (by decide +kernel)
set_option maxRecDepth 20000 in
theorem gX10_years_X2_liveYear : GoodIn wsX10_years (wsV RX10 179 RX2 yX2_liveYear wsX2_liveYear) := goodIn_app (goodIn_of _ (by decide +kernel)) ggX10_years_X2_liveYear
theorem dX10_years_0 : decode cX10_years 0 = .ok (.iload_n 1, 1) := by decide +kernel
theorem dX10_years_1 : decode cX10_years 1 = .ok (.iconst 1, 1) := by decide +kernel
theorem dX10_years_2 : decode cX10_years 2 = .ok (.if_icmp .lt 9, 3) := by decide +kernel
theorem dX10_years_5 : decode cX10_years 5 = .ok (.iload_n 1, 1) := by decide +kernel
theorem dX10_years_6 : decode cX10_years 6 = .ok (.bipush 100, 2) := by decide +kernel
theorem dX10_years_8 : decode cX10_years 8 = .ok (.if_icmp .le 6, 3) := by decide +kernel
theorem dX10_years_11 : decode cX10_years 11 = .ok (.ldc 71, 2) := by decide +kernel
theorem dX10_years_13 : decode cX10_years 13 = .ok (.ireturn, 1) := by decide +kernel
theorem dX10_years_14 : decode cX10_years 14 = .ok (.aload_n 0, 1) := by decide +kernel
theorem dX10_years_15 : decode cX10_years 15 = .ok (.getfield 55, 3) := by decide +kernel
theorem dX10_years_18 : decode cX10_years 18 = .ok (.ifCond .ne 6, 3) := by decide +kernel
theorem dX10_years_21 : decode cX10_years 21 = .ok (.ldc 165, 2) := by decide +kernel
theorem dX10_years_23 : decode cX10_years 23 = .ok (.ireturn, 1) := by decide +kernel
theorem dX10_years_24 : decode cX10_years 24 = .ok (.iconst 0, 1) := by decide +kernel
theorem dX10_years_25 : decode cX10_years 25 = .ok (.istore_n 2, 1) := by decide +kernel
theorem dX10_years_26 : decode cX10_years 26 = .ok (.iload_n 2, 1) := by decide +kernel
theorem dX10_years_27 : decode cX10_years 27 = .ok (.iload_n 1, 1) := by decide +kernel
theorem dX10_years_28 : decode cX10_years 28 = .ok (.if_icmp .ge 17, 3) := by decide +kernel
theorem dX10_years_31 : decode cX10_years 31 = .ok (.aload_n 0, 1) := by decide +kernel
theorem dX10_years_32 : decode cX10_years 32 = .ok (.getfield 48, 3) := by decide +kernel
theorem dX10_years_35 : decode cX10_years 35 = .ok (.invokevirtual 179, 3) := by decide +kernel
theorem dX10_years_38 : decode cX10_years 38 = .ok (.pop, 1) := by decide +kernel
theorem dX10_years_39 : decode cX10_years 39 = .ok (.iinc 2 1, 3) := by decide +kernel
theorem dX10_years_42 : decode cX10_years 42 = .ok (.goto (-16), 3) := by decide +kernel
theorem dX10_years_45 : decode cX10_years 45 = .ok (.aload_n 0, 1) := by decide +kernel
theorem dX10_years_46 : decode cX10_years 46 = .ok (.getfield 48, 3) := by decide +kernel
theorem dX10_years_49 : decode cX10_years 49 = .ok (.getfield 183, 3) := by decide +kernel
theorem dX10_years_52 : decode cX10_years 52 = .ok (.ireturn, 1) := by decide +kernel
theorem dX10_now_0 : decode cX10_now 0 = .ok (.iload_n 1, 1) := by decide +kernel
theorem dX10_now_1 : decode cX10_now 1 = .ok (.ifCond .lt 9, 3) := by decide +kernel
theorem dX10_now_4 : decode cX10_now 4 = .ok (.iload_n 1, 1) := by decide +kernel
theorem dX10_now_5 : decode cX10_now 5 = .ok (.bipush 6, 2) := by decide +kernel
theorem dX10_now_7 : decode cX10_now 7 = .ok (.if_icmp .le 6, 3) := by decide +kernel
theorem dX10_now_10 : decode cX10_now 10 = .ok (.ldc 71, 2) := by decide +kernel
theorem dX10_now_12 : decode cX10_now 12 = .ok (.ireturn, 1) := by decide +kernel
theorem dX10_now_13 : decode cX10_now 13 = .ok (.aload_n 0, 1) := by decide +kernel
theorem dX10_now_14 : decode cX10_now 14 = .ok (.getfield 55, 3) := by decide +kernel
theorem dX10_now_17 : decode cX10_now 17 = .ok (.ifCond .ne 6, 3) := by decide +kernel
theorem dX10_now_20 : decode cX10_now 20 = .ok (.ldc 165, 2) := by decide +kernel
theorem dX10_now_22 : decode cX10_now 22 = .ok (.ireturn, 1) := by decide +kernel
theorem dX10_now_23 : decode cX10_now 23 = .ok (.iload_n 1, 1) := by decide +kernel
theorem dX10_now_24 : decode cX10_now 24 = .ok (.tableswitch 94 0 5 #[40, 48, 56, 64, 72, 83], 40) := by decide +kernel
theorem dX10_now_64 : decode cX10_now 64 = .ok (.aload_n 0, 1) := by decide +kernel
theorem dX10_now_65 : decode cX10_now 65 = .ok (.getfield 48, 3) := by decide +kernel
theorem dX10_now_68 : decode cX10_now 68 = .ok (.getfield 183, 3) := by decide +kernel
theorem dX10_now_71 : decode cX10_now 71 = .ok (.ireturn, 1) := by decide +kernel
theorem dX10_now_72 : decode cX10_now 72 = .ok (.aload_n 0, 1) := by decide +kernel
theorem dX10_now_73 : decode cX10_now 73 = .ok (.getfield 48, 3) := by decide +kernel
theorem dX10_now_76 : decode cX10_now 76 = .ok (.getfield 186, 3) := by decide +kernel
theorem dX10_now_79 : decode cX10_now 79 = .ok (.ireturn, 1) := by decide +kernel
theorem dX10_now_80 : decode cX10_now 80 = .ok (.aload_n 0, 1) := by decide +kernel
theorem dX10_now_81 : decode cX10_now 81 = .ok (.getfield 48, 3) := by decide +kernel
theorem dX10_now_84 : decode cX10_now 84 = .ok (.getfield 189, 3) := by decide +kernel
theorem dX10_now_87 : decode cX10_now 87 = .ok (.ireturn, 1) := by decide +kernel
theorem dX10_now_88 : decode cX10_now 88 = .ok (.aload_n 0, 1) := by decide +kernel
theorem dX10_now_89 : decode cX10_now 89 = .ok (.getfield 48, 3) := by decide +kernel
theorem dX10_now_92 : decode cX10_now 92 = .ok (.getfield 192, 3) := by decide +kernel
theorem dX10_now_95 : decode cX10_now 95 = .ok (.ireturn, 1) := by decide +kernel
theorem dX10_now_96 : decode cX10_now 96 = .ok (.aload_n 0, 1) := by decide +kernel
theorem dX10_now_97 : decode cX10_now 97 = .ok (.getfield 48, 3) := by decide +kernel
theorem dX10_now_100 : decode cX10_now 100 = .ok (.getfield 169, 3) := by decide +kernel
theorem dX10_now_103 : decode cX10_now 103 = .ok (.getfield 195, 3) := by decide +kernel
theorem dX10_now_106 : decode cX10_now 106 = .ok (.ireturn, 1) := by decide +kernel
theorem dX10_now_107 : decode cX10_now 107 = .ok (.aload_n 0, 1) := by decide +kernel
theorem dX10_now_108 : decode cX10_now 108 = .ok (.getfield 48, 3) := by decide +kernel
theorem dX10_now_111 : decode cX10_now 111 = .ok (.getfield 169, 3) := by decide +kernel
theorem dX10_now_114 : decode cX10_now 114 = .ok (.getfield 198, 3) := by decide +kernel
theorem dX10_now_117 : decode cX10_now 117 = .ok (.ireturn, 1) := by decide +kernel
theorem dX10_now_118 : decode cX10_now 118 = .ok (.aload_n 0, 1) := by decide +kernel
theorem dX10_now_119 : decode cX10_now 119 = .ok (.getfield 48, 3) := by decide +kernel
theorem dX10_now_122 : decode cX10_now 122 = .ok (.getfield 201, 3) := by decide +kernel
theorem dX10_now_125 : decode cX10_now 125 = .ok (.ireturn, 1) := by decide +kernel
set_option maxRecDepth 20000 in
theorem ggX10_dies_X2_outlookAt : GoodIn wsX10_dies wsX2_outlookAt := goodIn_r _ [9, 10, 11, 12, 13, 14, 15, 16, 17, 18, 19, 20, 21, 22, 23, 24, 25, 26, 27, 28, 8, 29, 30, 31, 32, 33, 34, 35, 36, 47, 48, 49, 50, 51, 52, 53, 54, 55, 56, 57, 58, 59, 60, 61, 62, 63, 64, 65, 66, 67] (by decide +kernel) (by decide +kernel)
set_option maxRecDepth 20000 in
theorem gX10_dies_X2_outlookAt : GoodIn wsX10_dies (wsV RX10 207 RX2 yX2_outlookAt wsX2_outlookAt) := goodIn_app (goodIn_of _ (by decide +kernel)) ggX10_dies_X2_outlookAt
theorem dX10_dies_0 : decode cX10_dies 0 = .ok (.aload_n 0, 1) := by decide +kernel
theorem dX10_dies_1 : decode cX10_dies 1 = .ok (.getfield 55, 3) := by decide +kernel
theorem dX10_dies_4 : decode cX10_dies 4 = .ok (.ifCond .eq 20, 3) := by decide +kernel
theorem dX10_dies_7 : decode cX10_dies 7 = .ok (.aload_n 0, 1) := by decide +kernel
theorem dX10_dies_8 : decode cX10_dies 8 = .ok (.getfield 48, 3) := by decide +kernel
theorem dX10_dies_11 : decode cX10_dies 11 = .ok (.aload_n 0, 1) := by decide +kernel
theorem dX10_dies_12 : decode cX10_dies 12 = .ok (.getfield 48, 3) := by decide +kernel
theorem dX10_dies_15 : decode cX10_dies 15 = .ok (.getfield 204, 3) := by decide +kernel
theorem dX10_dies_18 : decode cX10_dies 18 = .ok (.invokevirtual 207, 3) := by decide +kernel
theorem dX10_dies_21 : decode cX10_dies 21 = .ok (.goto 5, 3) := by decide +kernel
theorem dX10_dies_24 : decode cX10_dies 24 = .ok (.ldc 165, 2) := by decide +kernel
theorem dX10_dies_26 : decode cX10_dies 26 = .ok (.ireturn, 1) := by decide +kernel
set_option maxRecDepth 20000 in
theorem ggX10_steep_X2_outlookAt : GoodIn wsX10_steep wsX2_outlookAt := goodIn_r _ [9, 10, 11, 12, 13, 14, 15, 16, 17, 18, 19, 20, 21, 22, 23, 24, 25, 26, 27, 28, 8, 29, 30, 31, 32, 33, 34, 35, 36, 47, 48, 49, 50, 51, 52, 53, 54, 55, 56, 57, 58, 59, 60, 61, 62, 63, 64, 65, 66, 67] (by decide +kernel) (by decide +kernel)
set_option maxRecDepth 20000 in
theorem gX10_steep_X2_outlookAt : GoodIn wsX10_steep (wsV RX10 207 RX2 yX2_outlookAt wsX2_outlookAt) := goodIn_app (goodIn_of _ (by decide +kernel)) ggX10_steep_X2_outlookAt
theorem dX10_steep_0 : decode cX10_steep 0 = .ok (.aload_n 0, 1) := by decide +kernel
theorem dX10_steep_1 : decode cX10_steep 1 = .ok (.getfield 55, 3) := by decide +kernel
theorem dX10_steep_4 : decode cX10_steep 4 = .ok (.ifCond .ne 6, 3) := by decide +kernel
theorem dX10_steep_7 : decode cX10_steep 7 = .ok (.ldc 165, 2) := by decide +kernel
theorem dX10_steep_9 : decode cX10_steep 9 = .ok (.ireturn, 1) := by decide +kernel
theorem dX10_steep_10 : decode cX10_steep 10 = .ok (.iconst 1, 1) := by decide +kernel
theorem dX10_steep_11 : decode cX10_steep 11 = .ok (.istore_n 1, 1) := by decide +kernel
theorem dX10_steep_12 : decode cX10_steep 12 = .ok (.iload_n 1, 1) := by decide +kernel
theorem dX10_steep_13 : decode cX10_steep 13 = .ok (.bipush 20, 2) := by decide +kernel
theorem dX10_steep_15 : decode cX10_steep 15 = .ok (.if_icmp .gt 22, 3) := by decide +kernel
theorem dX10_steep_18 : decode cX10_steep 18 = .ok (.aload_n 0, 1) := by decide +kernel
theorem dX10_steep_19 : decode cX10_steep 19 = .ok (.getfield 48, 3) := by decide +kernel
theorem dX10_steep_22 : decode cX10_steep 22 = .ok (.iload_n 1, 1) := by decide +kernel
theorem dX10_steep_23 : decode cX10_steep 23 = .ok (.invokevirtual 207, 3) := by decide +kernel
theorem dX10_steep_26 : decode cX10_steep 26 = .ok (.ifCond .ne 5, 3) := by decide +kernel
theorem dX10_steep_29 : decode cX10_steep 29 = .ok (.iload_n 1, 1) := by decide +kernel
theorem dX10_steep_30 : decode cX10_steep 30 = .ok (.ireturn, 1) := by decide +kernel
theorem dX10_steep_31 : decode cX10_steep 31 = .ok (.iinc 1 1, 3) := by decide +kernel
theorem dX10_steep_34 : decode cX10_steep 34 = .ok (.goto (-22), 3) := by decide +kernel
theorem dX10_steep_37 : decode cX10_steep 37 = .ok (.ldc 210, 2) := by decide +kernel
theorem dX10_steep_39 : decode cX10_steep 39 = .ok (.ireturn, 1) := by decide +kernel
set_option maxRecDepth 20000 in
theorem ggX10_round_X8_seekRound : GoodIn wsX10_round wsX8_seekRound := goodIn_r _ [12, 13, 14, 15, 16, 17, 18, 19, 20, 21, 22, 23, 24, 25, 26, 27, 28, 29, 30, 31, 32, 33, 34, 35, 36, 37, 38, 39, 40, 41, 42, 43, 44, 45, 46, 47, 48, 49, 50, 51, 52, 53, 54, 55, 56, 57, 58, 59, 60, 61, 62, 63, 64, 65, 66, 67, 68, 69, 70, 71, 72, 73, 74, 75, 76, 77, 78, 79, 80, 81, 82, 83, 84, 85, 86, 87, 88, 89, 90, 91, 92, 93, 94, 95, 96, 97, 98, 99, 100, 101, 102, 103, 104, 105, 106, 107, 108, 109, 110, 111, 112, 113, 114, 115, 116, 117, 118, 119, 120, 121, 122, 123, 124, 125, 126, 127, 128, 129, 130, 131, 132, 133, 134, 135, 136, 137, 138, 11, 139, 150, 151, 152, 153, 154, 155, 156, 157, 158, 159, 160, 161, 162, 163, 164, 165, 166, 167, 168, 169, 170, 171, 172, 173, 174, 175, 176, 177, 178, 179] (by decide +kernel) (by decide +kernel)
set_option maxRecDepth 20000 in
theorem gX10_round_X8_seekRound : GoodIn wsX10_round (wsV RX10 211 RX8 yX8_seekRound wsX8_seekRound) := goodIn_app (goodIn_of _ (by decide +kernel)) ggX10_round_X8_seekRound
theorem dX10_round_0 : decode cX10_round 0 = .ok (.iload_n 1, 1) := by decide +kernel
theorem dX10_round_1 : decode cX10_round 1 = .ok (.ifCond .lt 8, 3) := by decide +kernel
theorem dX10_round_4 : decode cX10_round 4 = .ok (.iload_n 1, 1) := by decide +kernel
theorem dX10_round_5 : decode cX10_round 5 = .ok (.iconst 1, 1) := by decide +kernel
theorem dX10_round_6 : decode cX10_round 6 = .ok (.if_icmp .le 6, 3) := by decide +kernel
theorem dX10_round_9 : decode cX10_round 9 = .ok (.ldc 71, 2) := by decide +kernel
theorem dX10_round_11 : decode cX10_round 11 = .ok (.ireturn, 1) := by decide +kernel
theorem dX10_round_12 : decode cX10_round 12 = .ok (.aload_n 0, 1) := by decide +kernel
theorem dX10_round_13 : decode cX10_round 13 = .ok (.getfield 55, 3) := by decide +kernel
theorem dX10_round_16 : decode cX10_round 16 = .ok (.ifCond .ne 6, 3) := by decide +kernel
theorem dX10_round_19 : decode cX10_round 19 = .ok (.ldc 165, 2) := by decide +kernel
theorem dX10_round_21 : decode cX10_round 21 = .ok (.ireturn, 1) := by decide +kernel
theorem dX10_round_22 : decode cX10_round 22 = .ok (.aload_n 0, 1) := by decide +kernel
theorem dX10_round_23 : decode cX10_round 23 = .ok (.getfield 34, 3) := by decide +kernel
theorem dX10_round_26 : decode cX10_round 26 = .ok (.aload_n 0, 1) := by decide +kernel
theorem dX10_round_27 : decode cX10_round 27 = .ok (.getfield 48, 3) := by decide +kernel
theorem dX10_round_30 : decode cX10_round 30 = .ok (.invokevirtual 211, 3) := by decide +kernel
theorem dX10_round_33 : decode cX10_round 33 = .ok (.iload_n 1, 1) := by decide +kernel
theorem dX10_round_34 : decode cX10_round 34 = .ok (.ifCond .ne 13, 3) := by decide +kernel
theorem dX10_round_37 : decode cX10_round 37 = .ok (.aload_n 0, 1) := by decide +kernel
theorem dX10_round_38 : decode cX10_round 38 = .ok (.getfield 34, 3) := by decide +kernel
theorem dX10_round_41 : decode cX10_round 41 = .ok (.getfield 214, 3) := by decide +kernel
theorem dX10_round_44 : decode cX10_round 44 = .ok (.goto 10, 3) := by decide +kernel
theorem dX10_round_47 : decode cX10_round 47 = .ok (.aload_n 0, 1) := by decide +kernel
theorem dX10_round_48 : decode cX10_round 48 = .ok (.getfield 34, 3) := by decide +kernel
theorem dX10_round_51 : decode cX10_round 51 = .ok (.getfield 217, 3) := by decide +kernel
theorem dX10_round_54 : decode cX10_round 54 = .ok (.ireturn, 1) := by decide +kernel
set_option maxRecDepth 20000 in
theorem ggX10_bears_X10_kindOf : GoodIn wsX10_bears wsX10_kindOf := goodIn_r _ [8, 3, 9, 10, 11, 12, 13, 14, 15, 136, 137, 138, 139, 140, 141, 142, 143, 144, 145, 146, 147, 148, 149, 150, 151, 152, 153, 154, 155, 156, 157] (by decide +kernel) (by decide +kernel)
set_option maxRecDepth 20000 in
theorem gX10_bears_X10_kindOf : GoodIn wsX10_bears (wsV RX10 134 RX10 yX10_kindOf wsX10_kindOf) := goodIn_app (goodIn_of _ (by decide +kernel)) ggX10_bears_X10_kindOf
set_option maxRecDepth 20000 in
theorem ggX10_bears_X8_mostBorne : GoodIn wsX10_bears wsX8_mostBorne := goodIn_r _ [20, 21, 22, 23, 19, 24, 25, 26, 27, 28, 29, 30, 12, 31, 15, 32, 14, 33, 34, 35, 36, 37, 38, 39, 40, 41, 42, 43, 44, 45, 46, 47, 48, 49, 50, 51, 52, 53, 54, 55, 56, 57, 58, 59, 60, 61, 62, 63, 64, 65, 66, 67, 68, 69, 10, 11, 13, 70, 71, 72, 73, 74, 75, 76, 77, 78, 79, 80, 81, 82, 83, 84, 85, 86, 87, 88, 89, 90, 91, 92, 93, 94, 95, 96, 97, 98, 99, 100, 101, 102, 103, 104, 105, 106, 107, 108, 109, 110, 111, 112, 113, 114, 115, 116, 117, 118, 119, 120, 121, 122, 123, 124, 125, 126, 127, 128, 129, 130, 131, 132, 133, 134, 135, 158, 159, 160, 161, 162, 163, 164, 165, 166, 167, 168, 169, 170, 146, 147, 148, 149, 150, 151, 152, 153, 154, 155, 156, 157, 171, 172, 173, 174, 175] (by decide +kernel) (by decide +kernel)
set_option maxRecDepth 20000 in
theorem gX10_bears_X8_mostBorne : GoodIn wsX10_bears (wsV RX10 220 RX8 yX8_mostBorne wsX8_mostBorne) := goodIn_app (goodIn_of _ (by decide +kernel)) ggX10_bears_X8_mostBorne
theorem dX10_bears_0 : decode cX10_bears 0 = .ok (.iload_n 1, 1) := by decide +kernel
theorem dX10_bears_1 : decode cX10_bears 1 = .ok (.iconst 1, 1) := by decide +kernel
theorem dX10_bears_2 : decode cX10_bears 2 = .ok (.if_icmp .lt 22, 3) := by decide +kernel
theorem dX10_bears_5 : decode cX10_bears 5 = .ok (.aload_n 0, 1) := by decide +kernel
theorem dX10_bears_6 : decode cX10_bears 6 = .ok (.iload_n 1, 1) := by decide +kernel
theorem dX10_bears_7 : decode cX10_bears 7 = .ok (.invokevirtual 134, 3) := by decide +kernel
theorem dX10_bears_10 : decode cX10_bears 10 = .ok (.ifnull 14, 3) := by decide +kernel
theorem dX10_bears_13 : decode cX10_bears 13 = .ok (.iload_n 2, 1) := by decide +kernel
theorem dX10_bears_14 : decode cX10_bears 14 = .ok (.iconst 1, 1) := by decide +kernel
theorem dX10_bears_15 : decode cX10_bears 15 = .ok (.if_icmp .lt 9, 3) := by decide +kernel
theorem dX10_bears_18 : decode cX10_bears 18 = .ok (.iload_n 2, 1) := by decide +kernel
theorem dX10_bears_19 : decode cX10_bears 19 = .ok (.bipush 30, 2) := by decide +kernel
theorem dX10_bears_21 : decode cX10_bears 21 = .ok (.if_icmp .le 6, 3) := by decide +kernel
theorem dX10_bears_24 : decode cX10_bears 24 = .ok (.ldc 71, 2) := by decide +kernel
theorem dX10_bears_26 : decode cX10_bears 26 = .ok (.ireturn, 1) := by decide +kernel
theorem dX10_bears_27 : decode cX10_bears 27 = .ok (.aload_n 0, 1) := by decide +kernel
theorem dX10_bears_28 : decode cX10_bears 28 = .ok (.getfield 34, 3) := by decide +kernel
theorem dX10_bears_31 : decode cX10_bears 31 = .ok (.aload_n 0, 1) := by decide +kernel
theorem dX10_bears_32 : decode cX10_bears 32 = .ok (.getfield 48, 3) := by decide +kernel
theorem dX10_bears_35 : decode cX10_bears 35 = .ok (.iload_n 1, 1) := by decide +kernel
theorem dX10_bears_36 : decode cX10_bears 36 = .ok (.iload_n 2, 1) := by decide +kernel
theorem dX10_bears_37 : decode cX10_bears 37 = .ok (.invokevirtual 220, 3) := by decide +kernel
theorem dX10_bears_40 : decode cX10_bears 40 = .ok (.ireturn, 1) := by decide +kernel
set_option maxRecDepth 20000 in
theorem ggX10_prints_X8_truePrint : GoodIn wsX10_prints wsX8_truePrint := goodIn_r _ [10, 11, 12, 13, 14, 15, 16, 17, 18, 19, 20, 21, 22, 23, 24, 25, 26, 27, 28, 29, 30, 31, 32, 33, 34, 35, 36, 37, 38, 39, 40, 41, 42, 43, 44, 45, 46, 47, 48, 49, 50, 51, 52, 53, 54, 55, 56, 57, 58, 59, 60, 61, 62, 63, 64, 65, 66, 67, 68, 69, 70, 71, 72, 73, 74, 75, 76, 77, 78, 79, 80, 81, 82, 83, 84, 85, 86, 87, 88, 89, 90, 91, 92, 93, 94, 95, 96, 97, 98, 99, 100, 101, 102, 103, 104, 105, 106, 107, 108, 109, 110, 111, 112, 113, 114, 115, 116, 117, 118, 119, 120, 121, 122, 123, 134, 135, 136, 137, 138, 139, 140, 141, 142, 143, 144, 145, 146, 147, 148, 149, 150, 151, 152, 153, 154, 155, 156, 157, 158, 159, 160, 161, 162, 163] (by decide +kernel) (by decide +kernel)
set_option maxRecDepth 20000 in
theorem gX10_prints_X8_truePrint : GoodIn wsX10_prints (wsV RX10 224 RX8 yX8_truePrint wsX8_truePrint) := goodIn_app (goodIn_of _ (by decide +kernel)) ggX10_prints_X8_truePrint
theorem dX10_prints_0 : decode cX10_prints 0 = .ok (.iload_n 1, 1) := by decide +kernel
theorem dX10_prints_1 : decode cX10_prints 1 = .ok (.iconst (-1), 1) := by decide +kernel
theorem dX10_prints_2 : decode cX10_prints 2 = .ok (.if_icmp .ge 6, 3) := by decide +kernel
theorem dX10_prints_5 : decode cX10_prints 5 = .ok (.ldc 71, 2) := by decide +kernel
theorem dX10_prints_7 : decode cX10_prints 7 = .ok (.ireturn, 1) := by decide +kernel
theorem dX10_prints_8 : decode cX10_prints 8 = .ok (.aload_n 0, 1) := by decide +kernel
theorem dX10_prints_9 : decode cX10_prints 9 = .ok (.getfield 55, 3) := by decide +kernel
theorem dX10_prints_12 : decode cX10_prints 12 = .ok (.ifCond .eq 18, 3) := by decide +kernel
theorem dX10_prints_15 : decode cX10_prints 15 = .ok (.aload_n 0, 1) := by decide +kernel
theorem dX10_prints_16 : decode cX10_prints 16 = .ok (.getfield 34, 3) := by decide +kernel
theorem dX10_prints_19 : decode cX10_prints 19 = .ok (.aload_n 0, 1) := by decide +kernel
theorem dX10_prints_20 : decode cX10_prints 20 = .ok (.getfield 48, 3) := by decide +kernel
theorem dX10_prints_23 : decode cX10_prints 23 = .ok (.iload_n 1, 1) := by decide +kernel
theorem dX10_prints_24 : decode cX10_prints 24 = .ok (.invokevirtual 224, 3) := by decide +kernel
theorem dX10_prints_27 : decode cX10_prints 27 = .ok (.goto 5, 3) := by decide +kernel
theorem dX10_prints_30 : decode cX10_prints 30 = .ok (.ldc 165, 2) := by decide +kernel
theorem dX10_prints_32 : decode cX10_prints 32 = .ok (.ireturn, 1) := by decide +kernel
set_option maxRecDepth 20000 in
theorem ggX10_calm_X8_cheapestCalm : GoodIn wsX10_calm wsX8_cheapestCalm := goodIn_r _ [10, 11, 12, 13, 14, 15, 16, 17, 9, 18, 19, 20, 21, 22, 23, 24, 25, 26, 27, 28, 29, 30, 31, 32, 33, 34, 35, 36, 37, 38, 39, 40, 41, 42, 43, 44, 45, 46, 47, 48, 49, 50, 51, 52, 53, 54, 55, 56, 57, 58, 59, 60, 61, 62, 63, 64, 65, 66, 67, 68, 69, 70, 71, 72, 73, 74, 75, 76, 77, 78, 79, 80, 81, 82, 83, 84, 85, 86, 87, 88, 89, 90, 91, 92, 93, 94, 95, 96, 97, 98, 99, 100, 101, 102, 103, 104, 105, 106, 107, 108, 109, 110, 111, 112, 113, 114, 115, 116, 117, 118, 119, 120, 121, 122, 123, 124, 125, 126, 127, 128, 129, 130, 131, 132, 133, 134, 135, 146, 147, 148, 149, 150, 151, 152, 153, 154, 155, 156, 157, 158, 159, 160, 161, 162, 163, 164, 165, 166, 167, 168, 169, 170, 171, 172, 173, 174, 175] (by decide +kernel) (by decide +kernel)
set_option maxRecDepth 20000 in
theorem gX10_calm_X8_cheapestCalm : GoodIn wsX10_calm (wsV RX10 228 RX8 yX8_cheapestCalm wsX8_cheapestCalm) := goodIn_app (goodIn_of _ (by decide +kernel)) ggX10_calm_X8_cheapestCalm
theorem dX10_calm_0 : decode cX10_calm 0 = .ok (.iload_n 1, 1) := by decide +kernel
theorem dX10_calm_1 : decode cX10_calm 1 = .ok (.iconst 1, 1) := by decide +kernel
theorem dX10_calm_2 : decode cX10_calm 2 = .ok (.if_icmp .lt 19, 3) := by decide +kernel
theorem dX10_calm_5 : decode cX10_calm 5 = .ok (.iload_n 1, 1) := by decide +kernel
theorem dX10_calm_6 : decode cX10_calm 6 = .ok (.bipush 20, 2) := by decide +kernel
theorem dX10_calm_8 : decode cX10_calm 8 = .ok (.if_icmp .gt 13, 3) := by decide +kernel
theorem dX10_calm_11 : decode cX10_calm 11 = .ok (.iload_n 2, 1) := by decide +kernel
theorem dX10_calm_12 : decode cX10_calm 12 = .ok (.ifCond .lt 9, 3) := by decide +kernel
theorem dX10_calm_15 : decode cX10_calm 15 = .ok (.iload_n 2, 1) := by decide +kernel
theorem dX10_calm_16 : decode cX10_calm 16 = .ok (.bipush 99, 2) := by decide +kernel
theorem dX10_calm_18 : decode cX10_calm 18 = .ok (.if_icmp .le 6, 3) := by decide +kernel
theorem dX10_calm_21 : decode cX10_calm 21 = .ok (.ldc 71, 2) := by decide +kernel
theorem dX10_calm_23 : decode cX10_calm 23 = .ok (.ireturn, 1) := by decide +kernel
theorem dX10_calm_24 : decode cX10_calm 24 = .ok (.aload_n 0, 1) := by decide +kernel
theorem dX10_calm_25 : decode cX10_calm 25 = .ok (.getfield 55, 3) := by decide +kernel
theorem dX10_calm_28 : decode cX10_calm 28 = .ok (.ifCond .eq 19, 3) := by decide +kernel
theorem dX10_calm_31 : decode cX10_calm 31 = .ok (.aload_n 0, 1) := by decide +kernel
theorem dX10_calm_32 : decode cX10_calm 32 = .ok (.getfield 34, 3) := by decide +kernel
theorem dX10_calm_35 : decode cX10_calm 35 = .ok (.aload_n 0, 1) := by decide +kernel
theorem dX10_calm_36 : decode cX10_calm 36 = .ok (.getfield 48, 3) := by decide +kernel
theorem dX10_calm_39 : decode cX10_calm 39 = .ok (.iload_n 1, 1) := by decide +kernel
theorem dX10_calm_40 : decode cX10_calm 40 = .ok (.iload_n 2, 1) := by decide +kernel
theorem dX10_calm_41 : decode cX10_calm 41 = .ok (.invokevirtual 228, 3) := by decide +kernel
theorem dX10_calm_44 : decode cX10_calm 44 = .ok (.goto 5, 3) := by decide +kernel
theorem dX10_calm_47 : decode cX10_calm 47 = .ok (.ldc 165, 2) := by decide +kernel
theorem dX10_calm_49 : decode cX10_calm 49 = .ok (.ireturn, 1) := by decide +kernel
set_option maxRecDepth 20000 in
theorem ggX10_shown_X10_isSheet : GoodIn wsX10_shown wsX10_isSheet := goodIn_r _ [9, 2, 54, 55, 56, 57, 58, 59, 60, 61, 62, 63] (by decide +kernel) (by decide +kernel)
set_option maxRecDepth 20000 in
theorem gX10_shown_X10_isSheet : GoodIn wsX10_shown (wsV RX10 67 RX10 yX10_isSheet wsX10_isSheet) := goodIn_app (goodIn_of _ (by decide +kernel)) ggX10_shown_X10_isSheet
set_option maxRecDepth 20000 in
theorem ggX10_shown_X10_found : GoodIn wsX10_shown wsX10_found := goodIn_r _ [13, 14, 15, 54, 55, 56, 57, 58, 59, 60, 61, 62, 63] (by decide +kernel) (by decide +kernel)
set_option maxRecDepth 20000 in
theorem gX10_shown_X10_found : GoodIn wsX10_shown (wsV RX10 72 RX10 yX10_found wsX10_found) := goodIn_app (goodIn_of _ (by decide +kernel)) ggX10_shown_X10_found
set_option maxRecDepth 20000 in
theorem ggX10_shown_X6_holds : GoodIn wsX10_shown wsX6_holds := goodIn_r _ [20, 21, 64, 65, 66, 67] (by decide +kernel) (by decide +kernel)
set_option maxRecDepth 20000 in
theorem gX10_shown_X6_holds : GoodIn wsX10_shown (wsV RX10 86 RX6 yX6_holds wsX6_holds) := goodIn_app (goodIn_of _ (by decide +kernel)) ggX10_shown_X6_holds
set_option maxRecDepth 20000 in
theorem ggX10_shown_X5_arePrices : GoodIn wsX10_shown wsX5_arePrices := goodIn_r _ [25, 26, 27, 28, 29] (by decide +kernel) (by decide +kernel)
set_option maxRecDepth 20000 in
theorem gX10_shown_X5_arePrices : GoodIn wsX10_shown (va_wsS RX10 233 yX5_arePrices wsX5_arePrices) := goodIn_app (goodIn_of _ (by decide +kernel)) ggX10_shown_X5_arePrices
set_option maxRecDepth 20000 in
theorem ggX10_shown_X5_waysShown : GoodIn wsX10_shown wsX5_waysShown := goodIn_r _ [32, 33, 34, 24, 35, 36, 37, 38, 39, 40, 41, 42, 43, 44, 28, 45, 46, 27, 29, 47, 48, 49] (by decide +kernel) (by decide +kernel)
set_option maxRecDepth 20000 in
theorem gX10_shown_X5_waysShown : GoodIn wsX10_shown (va_wsS RX10 237 yX5_waysShown wsX5_waysShown) := goodIn_app (goodIn_of _ (by decide +kernel)) ggX10_shown_X5_waysShown
set_option maxRecDepth 20000 in
theorem ggX10_shown_X10_foundNone : GoodIn wsX10_shown wsX10_foundNone := goodIn_r _ [53, 14, 54, 55, 56, 57, 58, 59, 60, 61, 62, 63] (by decide +kernel) (by decide +kernel)
set_option maxRecDepth 20000 in
theorem gX10_shown_X10_foundNone : GoodIn wsX10_shown (wsV RX10 80 RX10 yX10_foundNone wsX10_foundNone) := goodIn_app (goodIn_of _ (by decide +kernel)) ggX10_shown_X10_foundNone
theorem dX10_shown_0 : decode cX10_shown 0 = .ok (.aload_n 0, 1) := by decide +kernel
theorem dX10_shown_1 : decode cX10_shown 1 = .ok (.iload_n 1, 1) := by decide +kernel
theorem dX10_shown_2 : decode cX10_shown 2 = .ok (.invokevirtual 67, 3) := by decide +kernel
theorem dX10_shown_5 : decode cX10_shown 5 = .ok (.ifCond .eq 14, 3) := by decide +kernel
theorem dX10_shown_8 : decode cX10_shown 8 = .ok (.iload_n 3, 1) := by decide +kernel
theorem dX10_shown_9 : decode cX10_shown 9 = .ok (.iconst 1, 1) := by decide +kernel
theorem dX10_shown_10 : decode cX10_shown 10 = .ok (.if_icmp .lt 9, 3) := by decide +kernel
theorem dX10_shown_13 : decode cX10_shown 13 = .ok (.iload_n 3, 1) := by decide +kernel
theorem dX10_shown_14 : decode cX10_shown 14 = .ok (.bipush 15, 2) := by decide +kernel
theorem dX10_shown_16 : decode cX10_shown 16 = .ok (.if_icmp .le 6, 3) := by decide +kernel
theorem dX10_shown_19 : decode cX10_shown 19 = .ok (.ldc 71, 2) := by decide +kernel
theorem dX10_shown_21 : decode cX10_shown 21 = .ok (.ireturn, 1) := by decide +kernel
theorem dX10_shown_22 : decode cX10_shown 22 = .ok (.aload_n 0, 1) := by decide +kernel
theorem dX10_shown_23 : decode cX10_shown 23 = .ok (.getfield 11, 3) := by decide +kernel
theorem dX10_shown_26 : decode cX10_shown 26 = .ok (.iload_n 1, 1) := by decide +kernel
theorem dX10_shown_27 : decode cX10_shown 27 = .ok (.aaload, 1) := by decide +kernel
theorem dX10_shown_28 : decode cX10_shown 28 = .ok (.astore 4, 2) := by decide +kernel
theorem dX10_shown_30 : decode cX10_shown 30 = .ok (.aload 4, 2) := by decide +kernel
theorem dX10_shown_32 : decode cX10_shown 32 = .ok (.getfield 83, 3) := by decide +kernel
theorem dX10_shown_35 : decode cX10_shown 35 = .ok (.ifCond .eq 9, 3) := by decide +kernel
theorem dX10_shown_38 : decode cX10_shown 38 = .ok (.aload_n 0, 1) := by decide +kernel
theorem dX10_shown_39 : decode cX10_shown 39 = .ok (.iconst 1, 1) := by decide +kernel
theorem dX10_shown_40 : decode cX10_shown 40 = .ok (.invokevirtual 72, 3) := by decide +kernel
theorem dX10_shown_43 : decode cX10_shown 43 = .ok (.ireturn, 1) := by decide +kernel
theorem dX10_shown_44 : decode cX10_shown 44 = .ok (.aload 4, 2) := by decide +kernel
theorem dX10_shown_46 : decode cX10_shown 46 = .ok (.iload_n 2, 1) := by decide +kernel
theorem dX10_shown_47 : decode cX10_shown 47 = .ok (.iload_n 3, 1) := by decide +kernel
theorem dX10_shown_48 : decode cX10_shown 48 = .ok (.iconst 4, 1) := by decide +kernel
theorem dX10_shown_49 : decode cX10_shown 49 = .ok (.imul, 1) := by decide +kernel
theorem dX10_shown_50 : decode cX10_shown 50 = .ok (.invokevirtual 86, 3) := by decide +kernel
theorem dX10_shown_53 : decode cX10_shown 53 = .ok (.ifCond .ne 9, 3) := by decide +kernel
theorem dX10_shown_56 : decode cX10_shown 56 = .ok (.aload_n 0, 1) := by decide +kernel
theorem dX10_shown_57 : decode cX10_shown 57 = .ok (.iconst 2, 1) := by decide +kernel
theorem dX10_shown_58 : decode cX10_shown 58 = .ok (.invokevirtual 72, 3) := by decide +kernel
theorem dX10_shown_61 : decode cX10_shown 61 = .ok (.ireturn, 1) := by decide +kernel
theorem dX10_shown_62 : decode cX10_shown 62 = .ok (.aload 4, 2) := by decide +kernel
theorem dX10_shown_64 : decode cX10_shown 64 = .ok (.getfield 90, 3) := by decide +kernel
theorem dX10_shown_67 : decode cX10_shown 67 = .ok (.iload_n 2, 1) := by decide +kernel
theorem dX10_shown_68 : decode cX10_shown 68 = .ok (.iload_n 3, 1) := by decide +kernel
theorem dX10_shown_69 : decode cX10_shown 69 = .ok (.invokestatic 233, 3) := by decide +kernel
theorem dX10_shown_72 : decode cX10_shown 72 = .ok (.ifCond .ne 6, 3) := by decide +kernel
theorem dX10_shown_75 : decode cX10_shown 75 = .ok (.ldc 71, 2) := by decide +kernel
theorem dX10_shown_77 : decode cX10_shown 77 = .ok (.ireturn, 1) := by decide +kernel
theorem dX10_shown_78 : decode cX10_shown 78 = .ok (.aload_n 0, 1) := by decide +kernel
theorem dX10_shown_79 : decode cX10_shown 79 = .ok (.aload 4, 2) := by decide +kernel
theorem dX10_shown_81 : decode cX10_shown 81 = .ok (.getfield 90, 3) := by decide +kernel
theorem dX10_shown_84 : decode cX10_shown 84 = .ok (.iload_n 2, 1) := by decide +kernel
theorem dX10_shown_85 : decode cX10_shown 85 = .ok (.iload_n 3, 1) := by decide +kernel
theorem dX10_shown_86 : decode cX10_shown 86 = .ok (.invokestatic 237, 3) := by decide +kernel
theorem dX10_shown_89 : decode cX10_shown 89 = .ok (.invokevirtual 80, 3) := by decide +kernel
theorem dX10_shown_92 : decode cX10_shown 92 = .ok (.ireturn, 1) := by decide +kernel
set_option maxRecDepth 20000 in
theorem ggX10_kind_X10_kindOf : GoodIn wsX10_kind wsX10_kindOf := goodIn_r _ [7, 8, 9, 10, 11, 12, 13, 14, 15, 25, 26, 27, 28, 29, 30, 31, 32, 33, 34, 35, 36, 37, 38, 39, 40, 41, 42, 43, 44, 45, 46] (by decide +kernel) (by decide +kernel)
set_option maxRecDepth 20000 in
theorem gX10_kind_X10_kindOf : GoodIn wsX10_kind (wsV RX10 134 RX10 yX10_kindOf wsX10_kindOf) := goodIn_app (goodIn_of _ (by decide +kernel)) ggX10_kind_X10_kindOf
theorem dX10_kind_0 : decode cX10_kind 0 = .ok (.aload_n 0, 1) := by decide +kernel
theorem dX10_kind_1 : decode cX10_kind 1 = .ok (.iload_n 1, 1) := by decide +kernel
theorem dX10_kind_2 : decode cX10_kind 2 = .ok (.invokevirtual 134, 3) := by decide +kernel
theorem dX10_kind_5 : decode cX10_kind 5 = .ok (.astore_n 2, 1) := by decide +kernel
theorem dX10_kind_6 : decode cX10_kind 6 = .ok (.aload_n 2, 1) := by decide +kernel
theorem dX10_kind_7 : decode cX10_kind 7 = .ok (.ifnonnull 8, 3) := by decide +kernel
theorem dX10_kind_10 : decode cX10_kind 10 = .ok (.ldc 71, 2) := by decide +kernel
theorem dX10_kind_12 : decode cX10_kind 12 = .ok (.goto 7, 3) := by decide +kernel
theorem dX10_kind_15 : decode cX10_kind 15 = .ok (.aload_n 2, 1) := by decide +kernel
theorem dX10_kind_16 : decode cX10_kind 16 = .ok (.getfield 241, 3) := by decide +kernel
theorem dX10_kind_19 : decode cX10_kind 19 = .ok (.ireturn, 1) := by decide +kernel
set_option maxRecDepth 20000 in
theorem ggX10_as_X10_kindOf : GoodIn wsX10_as wsX10_kindOf := goodIn_r _ [8, 9, 10, 11, 12, 13, 14, 15, 16, 44, 45, 46, 47, 48, 49, 50, 51, 52, 53, 54, 55, 56, 57, 58, 59, 60, 61, 62, 63, 64, 65] (by decide +kernel) (by decide +kernel)
set_option maxRecDepth 20000 in
theorem gX10_as_X10_kindOf : GoodIn wsX10_as (wsV RX10 134 RX10 yX10_kindOf wsX10_kindOf) := goodIn_app (goodIn_of _ (by decide +kernel)) ggX10_as_X10_kindOf
set_option maxRecDepth 20000 in
theorem ggX10_as_X9_isOne : GoodIn wsX10_as wsX9_isOne := goodIn_r _ [20, 21, 22, 23, 19, 24] (by decide +kernel) (by decide +kernel)
set_option maxRecDepth 20000 in
theorem gX10_as_X9_isOne : GoodIn wsX10_as (va_wsS RX10 246 yX9_isOne wsX9_isOne) := goodIn_app (goodIn_of _ (by decide +kernel)) ggX10_as_X9_isOne
set_option maxRecDepth 20000 in
theorem ggX10_as_X10_foundNone : GoodIn wsX10_as wsX10_foundNone := goodIn_r _ [28, 29, 44, 45, 46, 47, 48, 49, 50, 51, 52, 53] (by decide +kernel) (by decide +kernel)
set_option maxRecDepth 20000 in
theorem gX10_as_X10_foundNone : GoodIn wsX10_as (wsV RX10 80 RX10 yX10_foundNone wsX10_foundNone) := goodIn_app (goodIn_of _ (by decide +kernel)) ggX10_as_X10_foundNone
set_option maxRecDepth 20000 in
theorem ggX10_as_X10_found : GoodIn wsX10_as wsX10_found := goodIn_r _ [33, 29, 34, 44, 45, 46, 47, 48, 49, 50, 51, 52, 53] (by decide +kernel) (by decide +kernel)
set_option maxRecDepth 20000 in
theorem gX10_as_X10_found : GoodIn wsX10_as (wsV RX10 72 RX10 yX10_found wsX10_found) := goodIn_app (goodIn_of _ (by decide +kernel)) ggX10_as_X10_found
theorem dX10_as_0 : decode cX10_as 0 = .ok (.aload_n 0, 1) := by decide +kernel
theorem dX10_as_1 : decode cX10_as 1 = .ok (.iload_n 1, 1) := by decide +kernel
theorem dX10_as_2 : decode cX10_as 2 = .ok (.invokevirtual 134, 3) := by decide +kernel
theorem dX10_as_5 : decode cX10_as 5 = .ok (.astore_n 3, 1) := by decide +kernel
theorem dX10_as_6 : decode cX10_as 6 = .ok (.aload_n 3, 1) := by decide +kernel
theorem dX10_as_7 : decode cX10_as 7 = .ok (.ifnull 13, 3) := by decide +kernel
theorem dX10_as_10 : decode cX10_as 10 = .ok (.iload_n 2, 1) := by decide +kernel
theorem dX10_as_11 : decode cX10_as 11 = .ok (.ifCond .lt 9, 3) := by decide +kernel
theorem dX10_as_14 : decode cX10_as 14 = .ok (.iload_n 2, 1) := by decide +kernel
theorem dX10_as_15 : decode cX10_as 15 = .ok (.bipush 6, 2) := by decide +kernel
theorem dX10_as_17 : decode cX10_as 17 = .ok (.if_icmp .le 6, 3) := by decide +kernel
theorem dX10_as_20 : decode cX10_as 20 = .ok (.ldc 71, 2) := by decide +kernel
theorem dX10_as_22 : decode cX10_as 22 = .ok (.ireturn, 1) := by decide +kernel
theorem dX10_as_23 : decode cX10_as 23 = .ok (.aload_n 3, 1) := by decide +kernel
theorem dX10_as_24 : decode cX10_as 24 = .ok (.getfield 241, 3) := by decide +kernel
theorem dX10_as_27 : decode cX10_as 27 = .ok (.iload_n 2, 1) := by decide +kernel
theorem dX10_as_28 : decode cX10_as 28 = .ok (.invokestatic 246, 3) := by decide +kernel
theorem dX10_as_31 : decode cX10_as 31 = .ok (.ifCond .eq 14, 3) := by decide +kernel
theorem dX10_as_34 : decode cX10_as 34 = .ok (.aload_n 0, 1) := by decide +kernel
theorem dX10_as_35 : decode cX10_as 35 = .ok (.aload_n 3, 1) := by decide +kernel
theorem dX10_as_36 : decode cX10_as 36 = .ok (.getfield 138, 3) := by decide +kernel
theorem dX10_as_39 : decode cX10_as 39 = .ok (.invokevirtual 80, 3) := by decide +kernel
theorem dX10_as_42 : decode cX10_as 42 = .ok (.goto 8, 3) := by decide +kernel
theorem dX10_as_45 : decode cX10_as 45 = .ok (.aload_n 0, 1) := by decide +kernel
theorem dX10_as_46 : decode cX10_as 46 = .ok (.iconst 3, 1) := by decide +kernel
theorem dX10_as_47 : decode cX10_as 47 = .ok (.invokevirtual 72, 3) := by decide +kernel
theorem dX10_as_50 : decode cX10_as 50 = .ok (.ireturn, 1) := by decide +kernel
set_option maxRecDepth 20000 in
theorem ggX10_ask_X10_kindOf : GoodIn wsX10_ask wsX10_kindOf := goodIn_r _ [9, 3, 10, 11, 12, 13, 14, 15, 16, 55, 56, 57, 58, 59, 60, 61, 62, 63, 64, 65, 66, 67, 68, 69, 70, 71, 72, 73, 74, 75, 76] (by decide +kernel) (by decide +kernel)
set_option maxRecDepth 20000 in
theorem gX10_ask_X10_kindOf : GoodIn wsX10_ask (wsV RX10 134 RX10 yX10_kindOf wsX10_kindOf) := goodIn_app (goodIn_of _ (by decide +kernel)) ggX10_ask_X10_kindOf
set_option maxRecDepth 20000 in
theorem ggX10_ask_X0_answer : GoodIn wsX10_ask wsX0_answer := goodIn_r _ [21, 22, 23, 24, 25, 26, 27, 28, 29, 30, 31, 32, 33, 20, 34, 35, 36, 37, 38, 39, 40, 41, 42, 43, 44, 45, 46, 47, 48, 49, 50, 51, 52, 53, 54, 77, 78, 79, 80, 81, 82, 83, 84, 85, 86, 87, 88, 89, 90, 91, 92] (by decide +kernel) (by decide +kernel)
set_option maxRecDepth 20000 in
theorem gX10_ask_X0_answer : GoodIn wsX10_ask (wsV RX10 249 RX0 yX0_answer wsX0_answer) := goodIn_app (goodIn_of _ (by decide +kernel)) ggX10_ask_X0_answer
theorem dX10_ask_0 : decode cX10_ask 0 = .ok (.aload_n 0, 1) := by decide +kernel
theorem dX10_ask_1 : decode cX10_ask 1 = .ok (.iload_n 1, 1) := by decide +kernel
theorem dX10_ask_2 : decode cX10_ask 2 = .ok (.invokevirtual 134, 3) := by decide +kernel
theorem dX10_ask_5 : decode cX10_ask 5 = .ok (.astore_n 3, 1) := by decide +kernel
theorem dX10_ask_6 : decode cX10_ask 6 = .ok (.aload_n 3, 1) := by decide +kernel
theorem dX10_ask_7 : decode cX10_ask 7 = .ok (.ifnull 12, 3) := by decide +kernel
theorem dX10_ask_10 : decode cX10_ask 10 = .ok (.iload_n 2, 1) := by decide +kernel
theorem dX10_ask_11 : decode cX10_ask 11 = .ok (.ifCond .lt 8, 3) := by decide +kernel
theorem dX10_ask_14 : decode cX10_ask 14 = .ok (.iload_n 2, 1) := by decide +kernel
theorem dX10_ask_15 : decode cX10_ask 15 = .ok (.iconst 1, 1) := by decide +kernel
theorem dX10_ask_16 : decode cX10_ask 16 = .ok (.if_icmp .le 6, 3) := by decide +kernel
theorem dX10_ask_19 : decode cX10_ask 19 = .ok (.ldc 71, 2) := by decide +kernel
theorem dX10_ask_21 : decode cX10_ask 21 = .ok (.ireturn, 1) := by decide +kernel
theorem dX10_ask_22 : decode cX10_ask 22 = .ok (.aload_n 0, 1) := by decide +kernel
theorem dX10_ask_23 : decode cX10_ask 23 = .ok (.getfield 41, 3) := by decide +kernel
theorem dX10_ask_26 : decode cX10_ask 26 = .ok (.aload_n 3, 1) := by decide +kernel
theorem dX10_ask_27 : decode cX10_ask 27 = .ok (.iload_n 1, 1) := by decide +kernel
theorem dX10_ask_28 : decode cX10_ask 28 = .ok (.aload_n 0, 1) := by decide +kernel
theorem dX10_ask_29 : decode cX10_ask 29 = .ok (.getfield 48, 3) := by decide +kernel
theorem dX10_ask_32 : decode cX10_ask 32 = .ok (.getfield 166, 3) := by decide +kernel
theorem dX10_ask_35 : decode cX10_ask 35 = .ok (.iload_n 2, 1) := by decide +kernel
theorem dX10_ask_36 : decode cX10_ask 36 = .ok (.invokevirtual 249, 3) := by decide +kernel
theorem dX10_ask_39 : decode cX10_ask 39 = .ok (.ireturn, 1) := by decide +kernel
set_option maxRecDepth 20000 in
theorem ggX10_trace_X0_traceAt : GoodIn wsX10_trace wsX0_traceAt := goodIn_r _ [6, 7, 8, 9, 20, 21, 22, 23, 24, 25, 26] (by decide +kernel) (by decide +kernel)
set_option maxRecDepth 20000 in
theorem gX10_trace_X0_traceAt : GoodIn wsX10_trace (wsV RX10 253 RX0 yX0_traceAt wsX0_traceAt) := goodIn_app (goodIn_of _ (by decide +kernel)) ggX10_trace_X0_traceAt
theorem dX10_trace_0 : decode cX10_trace 0 = .ok (.aload_n 0, 1) := by decide +kernel
theorem dX10_trace_1 : decode cX10_trace 1 = .ok (.getfield 41, 3) := by decide +kernel
theorem dX10_trace_4 : decode cX10_trace 4 = .ok (.iload_n 1, 1) := by decide +kernel
theorem dX10_trace_5 : decode cX10_trace 5 = .ok (.invokevirtual 253, 3) := by decide +kernel
theorem dX10_trace_8 : decode cX10_trace 8 = .ok (.ireturn, 1) := by decide +kernel
set_option maxRecDepth 20000 in
theorem ggX10_count_X10_sheetCount : GoodIn wsX10_count wsX10_sheetCount := goodIn_r _ [10, 11, 12, 37, 38, 39, 40, 41, 42, 43, 44, 45, 46, 61, 62, 63, 64] (by decide +kernel) (by decide +kernel)
set_option maxRecDepth 20000 in
theorem gX10_count_X10_sheetCount : GoodIn wsX10_count (wsV RX10 256 RX10 yX10_sheetCount wsX10_sheetCount) := goodIn_app (goodIn_of _ (by decide +kernel)) ggX10_count_X10_sheetCount
set_option maxRecDepth 20000 in
theorem ggX10_count_X2_farmerCount : GoodIn wsX10_count wsX2_farmerCount := goodIn_r _ [17, 18, 19, 20, 47, 48, 49, 50, 51, 52, 53, 54, 55, 56, 57, 58, 65, 66, 67, 68, 69, 70, 71, 72, 73] (by decide +kernel) (by decide +kernel)
set_option maxRecDepth 20000 in
theorem gX10_count_X2_farmerCount : GoodIn wsX10_count (wsV RX10 259 RX2 yX2_farmerCount wsX2_farmerCount) := goodIn_app (goodIn_of _ (by decide +kernel)) ggX10_count_X2_farmerCount
set_option maxRecDepth 20000 in
theorem ggX10_count_X2_outCount : GoodIn wsX10_count wsX2_outCount := goodIn_r _ [24, 25, 26, 27, 16, 28, 18, 19, 29, 30, 31, 32, 33, 34, 35, 36, 47, 48, 49, 50, 51, 52, 53, 54, 55, 56, 57, 58, 65, 66, 67, 68, 69, 70, 71, 72, 73] (by decide +kernel) (by decide +kernel)
set_option maxRecDepth 20000 in
theorem gX10_count_X2_outCount : GoodIn wsX10_count (wsV RX10 262 RX2 yX2_outCount wsX2_outCount) := goodIn_app (goodIn_of _ (by decide +kernel)) ggX10_count_X2_outCount
theorem dX10_count_0 : decode cX10_count 0 = .ok (.iload_n 1, 1) := by decide +kernel
theorem dX10_count_1 : decode cX10_count 1 = .ok (.tableswitch 72 0 4 #[35, 40, 48, 56, 64], 35) := by decide +kernel
theorem dX10_count_36 : decode cX10_count 36 = .ok (.aload_n 0, 1) := by decide +kernel
theorem dX10_count_37 : decode cX10_count 37 = .ok (.invokevirtual 256, 3) := by decide +kernel
theorem dX10_count_40 : decode cX10_count 40 = .ok (.ireturn, 1) := by decide +kernel
theorem dX10_count_41 : decode cX10_count 41 = .ok (.aload_n 0, 1) := by decide +kernel
theorem dX10_count_42 : decode cX10_count 42 = .ok (.getfield 48, 3) := by decide +kernel
theorem dX10_count_45 : decode cX10_count 45 = .ok (.getfield 131, 3) := by decide +kernel
theorem dX10_count_48 : decode cX10_count 48 = .ok (.ireturn, 1) := by decide +kernel
theorem dX10_count_49 : decode cX10_count 49 = .ok (.aload_n 0, 1) := by decide +kernel
theorem dX10_count_50 : decode cX10_count 50 = .ok (.getfield 48, 3) := by decide +kernel
theorem dX10_count_53 : decode cX10_count 53 = .ok (.invokevirtual 259, 3) := by decide +kernel
theorem dX10_count_56 : decode cX10_count 56 = .ok (.ireturn, 1) := by decide +kernel
theorem dX10_count_57 : decode cX10_count 57 = .ok (.aload_n 0, 1) := by decide +kernel
theorem dX10_count_58 : decode cX10_count 58 = .ok (.getfield 48, 3) := by decide +kernel
theorem dX10_count_61 : decode cX10_count 61 = .ok (.invokevirtual 262, 3) := by decide +kernel
theorem dX10_count_64 : decode cX10_count 64 = .ok (.ireturn, 1) := by decide +kernel
theorem dX10_count_65 : decode cX10_count 65 = .ok (.aload_n 0, 1) := by decide +kernel
theorem dX10_count_66 : decode cX10_count 66 = .ok (.getfield 18, 3) := by decide +kernel
theorem dX10_count_69 : decode cX10_count 69 = .ok (.getfield 117, 3) := by decide +kernel
theorem dX10_count_72 : decode cX10_count 72 = .ok (.ireturn, 1) := by decide +kernel
theorem dX10_count_73 : decode cX10_count 73 = .ok (.ldc 71, 2) := by decide +kernel
theorem dX10_count_75 : decode cX10_count 75 = .ok (.ireturn, 1) := by decide +kernel
theorem dX10_status_0 : decode cX10_status 0 = .ok (.aload_n 0, 1) := by decide +kernel
theorem dX10_status_1 : decode cX10_status 1 = .ok (.getfield 63, 3) := by decide +kernel
theorem dX10_status_4 : decode cX10_status 4 = .ok (.ireturn, 1) := by decide +kernel
theorem dX10_isSheet_0 : decode cX10_isSheet 0 = .ok (.iload_n 1, 1) := by decide +kernel
theorem dX10_isSheet_1 : decode cX10_isSheet 1 = .ok (.ifCond .lt 16, 3) := by decide +kernel
theorem dX10_isSheet_4 : decode cX10_isSheet 4 = .ok (.iload_n 1, 1) := by decide +kernel
theorem dX10_isSheet_5 : decode cX10_isSheet 5 = .ok (.aload_n 0, 1) := by decide +kernel
theorem dX10_isSheet_6 : decode cX10_isSheet 6 = .ok (.getfield 11, 3) := by decide +kernel
theorem dX10_isSheet_9 : decode cX10_isSheet 9 = .ok (.arraylength, 1) := by decide +kernel
theorem dX10_isSheet_10 : decode cX10_isSheet 10 = .ok (.if_icmp .ge 7, 3) := by decide +kernel
theorem dX10_isSheet_13 : decode cX10_isSheet 13 = .ok (.iconst 1, 1) := by decide +kernel
theorem dX10_isSheet_14 : decode cX10_isSheet 14 = .ok (.goto 4, 3) := by decide +kernel
theorem dX10_isSheet_17 : decode cX10_isSheet 17 = .ok (.iconst 0, 1) := by decide +kernel
theorem dX10_isSheet_18 : decode cX10_isSheet 18 = .ok (.ireturn, 1) := by decide +kernel
theorem dX10_sheetCount_0 : decode cX10_sheetCount 0 = .ok (.iconst 0, 1) := by decide +kernel
theorem dX10_sheetCount_1 : decode cX10_sheetCount 1 = .ok (.istore_n 1, 1) := by decide +kernel
theorem dX10_sheetCount_2 : decode cX10_sheetCount 2 = .ok (.aload_n 0, 1) := by decide +kernel
theorem dX10_sheetCount_3 : decode cX10_sheetCount 3 = .ok (.getfield 11, 3) := by decide +kernel
theorem dX10_sheetCount_6 : decode cX10_sheetCount 6 = .ok (.astore_n 2, 1) := by decide +kernel
theorem dX10_sheetCount_7 : decode cX10_sheetCount 7 = .ok (.aload_n 2, 1) := by decide +kernel
theorem dX10_sheetCount_8 : decode cX10_sheetCount 8 = .ok (.arraylength, 1) := by decide +kernel
theorem dX10_sheetCount_9 : decode cX10_sheetCount 9 = .ok (.istore_n 3, 1) := by decide +kernel
theorem dX10_sheetCount_10 : decode cX10_sheetCount 10 = .ok (.iconst 0, 1) := by decide +kernel
theorem dX10_sheetCount_11 : decode cX10_sheetCount 11 = .ok (.istore 4, 2) := by decide +kernel
theorem dX10_sheetCount_13 : decode cX10_sheetCount 13 = .ok (.iload 4, 2) := by decide +kernel
theorem dX10_sheetCount_15 : decode cX10_sheetCount 15 = .ok (.iload_n 3, 1) := by decide +kernel
theorem dX10_sheetCount_16 : decode cX10_sheetCount 16 = .ok (.if_icmp .ge 26, 3) := by decide +kernel
theorem dX10_sheetCount_19 : decode cX10_sheetCount 19 = .ok (.aload_n 2, 1) := by decide +kernel
theorem dX10_sheetCount_20 : decode cX10_sheetCount 20 = .ok (.iload 4, 2) := by decide +kernel
theorem dX10_sheetCount_22 : decode cX10_sheetCount 22 = .ok (.aaload, 1) := by decide +kernel
theorem dX10_sheetCount_23 : decode cX10_sheetCount 23 = .ok (.astore 5, 2) := by decide +kernel
theorem dX10_sheetCount_25 : decode cX10_sheetCount 25 = .ok (.aload 5, 2) := by decide +kernel
theorem dX10_sheetCount_27 : decode cX10_sheetCount 27 = .ok (.getfield 83, 3) := by decide +kernel
theorem dX10_sheetCount_30 : decode cX10_sheetCount 30 = .ok (.ifCond .ne 6, 3) := by decide +kernel
theorem dX10_sheetCount_33 : decode cX10_sheetCount 33 = .ok (.iinc 1 1, 3) := by decide +kernel
theorem dX10_sheetCount_36 : decode cX10_sheetCount 36 = .ok (.iinc 4 1, 3) := by decide +kernel
theorem dX10_sheetCount_39 : decode cX10_sheetCount 39 = .ok (.goto (-26), 3) := by decide +kernel
theorem dX10_sheetCount_42 : decode cX10_sheetCount 42 = .ok (.iload_n 1, 1) := by decide +kernel
theorem dX10_sheetCount_43 : decode cX10_sheetCount 43 = .ok (.ireturn, 1) := by decide +kernel
set_option maxRecDepth 20000 in
theorem ggX10_kindOf_X2_kindAt : GoodIn wsX10_kindOf wsX2_kindAt := goodIn_r _ [6, 7, 8, 19, 20, 21, 22, 23, 24, 25, 26, 27, 28, 29, 30] (by decide +kernel) (by decide +kernel)
set_option maxRecDepth 20000 in
theorem gX10_kindOf_X2_kindAt : GoodIn wsX10_kindOf (wsV RX10 265 RX2 yX2_kindAt wsX2_kindAt) := goodIn_app (goodIn_of _ (by decide +kernel)) ggX10_kindOf_X2_kindAt
theorem dX10_kindOf_0 : decode cX10_kindOf 0 = .ok (.aload_n 0, 1) := by decide +kernel
theorem dX10_kindOf_1 : decode cX10_kindOf 1 = .ok (.getfield 48, 3) := by decide +kernel
theorem dX10_kindOf_4 : decode cX10_kindOf 4 = .ok (.iload_n 1, 1) := by decide +kernel
theorem dX10_kindOf_5 : decode cX10_kindOf 5 = .ok (.invokevirtual 265, 3) := by decide +kernel
theorem dX10_kindOf_8 : decode cX10_kindOf 8 = .ok (.areturn, 1) := by decide +kernel
theorem dX10_found_0 : decode cX10_found 0 = .ok (.aload_n 0, 1) := by decide +kernel
theorem dX10_found_1 : decode cX10_found 1 = .ok (.iload_n 1, 1) := by decide +kernel
theorem dX10_found_2 : decode cX10_found 2 = .ok (.putfield 63, 3) := by decide +kernel
theorem dX10_found_5 : decode cX10_found 5 = .ok (.ldc_w 268, 3) := by decide +kernel
theorem dX10_found_8 : decode cX10_found 8 = .ok (.iload_n 1, 1) := by decide +kernel
theorem dX10_found_9 : decode cX10_found 9 = .ok (.isub, 1) := by decide +kernel
theorem dX10_found_10 : decode cX10_found 10 = .ok (.ireturn, 1) := by decide +kernel
theorem dX10_foundNone_0 : decode cX10_foundNone 0 = .ok (.aload_n 0, 1) := by decide +kernel
theorem dX10_foundNone_1 : decode cX10_foundNone 1 = .ok (.iconst 0, 1) := by decide +kernel
theorem dX10_foundNone_2 : decode cX10_foundNone 2 = .ok (.putfield 63, 3) := by decide +kernel
theorem dX10_foundNone_5 : decode cX10_foundNone 5 = .ok (.iload_n 1, 1) := by decide +kernel
theorem dX10_foundNone_6 : decode cX10_foundNone 6 = .ok (.ireturn, 1) := by decide +kernel
theorem dX11_init_0 : decode cX11_init 0 = .ok (.aload_n 0, 1) := by decide +kernel
theorem dX11_init_1 : decode cX11_init 1 = .ok (.invokespecial 1, 3) := by decide +kernel
theorem dX11_init_4 : decode cX11_init 4 = .ok (.aload_n 0, 1) := by decide +kernel
theorem dX11_init_5 : decode cX11_init 5 = .ok (.bipush 8, 2) := by decide +kernel
theorem dX11_init_7 : decode cX11_init 7 = .ok (.newarray .int, 2) := by decide +kernel
theorem dX11_init_9 : decode cX11_init 9 = .ok (.dup, 1) := by decide +kernel
theorem dX11_init_10 : decode cX11_init 10 = .ok (.iconst 0, 1) := by decide +kernel
theorem dX11_init_11 : decode cX11_init 11 = .ok (.iconst (-1), 1) := by decide +kernel
theorem dX11_init_12 : decode cX11_init 12 = .ok (.iastore, 1) := by decide +kernel
theorem dX11_init_13 : decode cX11_init 13 = .ok (.dup, 1) := by decide +kernel
theorem dX11_init_14 : decode cX11_init 14 = .ok (.iconst 1, 1) := by decide +kernel
theorem dX11_init_15 : decode cX11_init 15 = .ok (.iconst (-1), 1) := by decide +kernel
theorem dX11_init_16 : decode cX11_init 16 = .ok (.iastore, 1) := by decide +kernel
theorem dX11_init_17 : decode cX11_init 17 = .ok (.dup, 1) := by decide +kernel
theorem dX11_init_18 : decode cX11_init 18 = .ok (.iconst 2, 1) := by decide +kernel
theorem dX11_init_19 : decode cX11_init 19 = .ok (.iconst (-1), 1) := by decide +kernel
theorem dX11_init_20 : decode cX11_init 20 = .ok (.iastore, 1) := by decide +kernel
theorem dX11_init_21 : decode cX11_init 21 = .ok (.dup, 1) := by decide +kernel
theorem dX11_init_22 : decode cX11_init 22 = .ok (.iconst 3, 1) := by decide +kernel
theorem dX11_init_23 : decode cX11_init 23 = .ok (.iconst (-1), 1) := by decide +kernel
theorem dX11_init_24 : decode cX11_init 24 = .ok (.iastore, 1) := by decide +kernel
theorem dX11_init_25 : decode cX11_init 25 = .ok (.dup, 1) := by decide +kernel
theorem dX11_init_26 : decode cX11_init 26 = .ok (.iconst 4, 1) := by decide +kernel
theorem dX11_init_27 : decode cX11_init 27 = .ok (.iconst (-1), 1) := by decide +kernel
theorem dX11_init_28 : decode cX11_init 28 = .ok (.iastore, 1) := by decide +kernel
theorem dX11_init_29 : decode cX11_init 29 = .ok (.dup, 1) := by decide +kernel
theorem dX11_init_30 : decode cX11_init 30 = .ok (.iconst 5, 1) := by decide +kernel
theorem dX11_init_31 : decode cX11_init 31 = .ok (.iconst (-1), 1) := by decide +kernel
theorem dX11_init_32 : decode cX11_init 32 = .ok (.iastore, 1) := by decide +kernel
theorem dX11_init_33 : decode cX11_init 33 = .ok (.dup, 1) := by decide +kernel
theorem dX11_init_34 : decode cX11_init 34 = .ok (.bipush 6, 2) := by decide +kernel
theorem dX11_init_36 : decode cX11_init 36 = .ok (.iconst (-1), 1) := by decide +kernel
theorem dX11_init_37 : decode cX11_init 37 = .ok (.iastore, 1) := by decide +kernel
theorem dX11_init_38 : decode cX11_init 38 = .ok (.dup, 1) := by decide +kernel
theorem dX11_init_39 : decode cX11_init 39 = .ok (.bipush 7, 2) := by decide +kernel
theorem dX11_init_41 : decode cX11_init 41 = .ok (.iconst (-1), 1) := by decide +kernel
theorem dX11_init_42 : decode cX11_init 42 = .ok (.iastore, 1) := by decide +kernel
theorem dX11_init_43 : decode cX11_init 43 = .ok (.putfield 7, 3) := by decide +kernel
theorem dX11_init_46 : decode cX11_init 46 = .ok (.aload_n 0, 1) := by decide +kernel
theorem dX11_init_47 : decode cX11_init 47 = .ok (.bipush 8, 2) := by decide +kernel
theorem dX11_init_49 : decode cX11_init 49 = .ok (.newarray .int, 2) := by decide +kernel
theorem dX11_init_51 : decode cX11_init 51 = .ok (.putfield 13, 3) := by decide +kernel
theorem dX11_init_54 : decode cX11_init 54 = .ok (.aload_n 0, 1) := by decide +kernel
theorem dX11_init_55 : decode cX11_init 55 = .ok (.sipush 480, 3) := by decide +kernel
theorem dX11_init_58 : decode cX11_init 58 = .ok (.newarray .int, 2) := by decide +kernel
theorem dX11_init_60 : decode cX11_init 60 = .ok (.putfield 16, 3) := by decide +kernel
theorem dX11_init_63 : decode cX11_init 63 = .ok (.aload_n 0, 1) := by decide +kernel
theorem dX11_init_64 : decode cX11_init 64 = .ok (.iconst 3, 1) := by decide +kernel
theorem dX11_init_65 : decode cX11_init 65 = .ok (.newarray .int, 2) := by decide +kernel
theorem dX11_init_67 : decode cX11_init 67 = .ok (.putfield 19, 3) := by decide +kernel
theorem dX11_init_70 : decode cX11_init 70 = .ok (.aload_n 0, 1) := by decide +kernel
theorem dX11_init_71 : decode cX11_init 71 = .ok (.bipush 30, 2) := by decide +kernel
theorem dX11_init_73 : decode cX11_init 73 = .ok (.newarray .int, 2) := by decide +kernel
theorem dX11_init_75 : decode cX11_init 75 = .ok (.putfield 22, 3) := by decide +kernel
theorem dX11_init_78 : decode cX11_init 78 = .ok (.aload_n 0, 1) := by decide +kernel
theorem dX11_init_79 : decode cX11_init 79 = .ok (.iconst 3, 1) := by decide +kernel
theorem dX11_init_80 : decode cX11_init 80 = .ok (.newarray .int, 2) := by decide +kernel
theorem dX11_init_82 : decode cX11_init 82 = .ok (.putfield 25, 3) := by decide +kernel
theorem dX11_init_85 : decode cX11_init 85 = .ok (.aload_n 0, 1) := by decide +kernel
theorem dX11_init_86 : decode cX11_init 86 = .ok (.iconst 3, 1) := by decide +kernel
theorem dX11_init_87 : decode cX11_init 87 = .ok (.newarray .int, 2) := by decide +kernel
theorem dX11_init_89 : decode cX11_init 89 = .ok (.putfield 28, 3) := by decide +kernel
theorem dX11_init_92 : decode cX11_init 92 = .ok (.aload_n 0, 1) := by decide +kernel
theorem dX11_init_93 : decode cX11_init 93 = .ok (.bipush 30, 2) := by decide +kernel
theorem dX11_init_95 : decode cX11_init 95 = .ok (.newarray .int, 2) := by decide +kernel
theorem dX11_init_97 : decode cX11_init 97 = .ok (.putfield 31, 3) := by decide +kernel
theorem dX11_init_100 : decode cX11_init 100 = .ok (.aload_n 0, 1) := by decide +kernel
theorem dX11_init_101 : decode cX11_init 101 = .ok (.iconst 5, 1) := by decide +kernel
theorem dX11_init_102 : decode cX11_init 102 = .ok (.newarray .int, 2) := by decide +kernel
theorem dX11_init_104 : decode cX11_init 104 = .ok (.putfield 34, 3) := by decide +kernel
theorem dX11_init_107 : decode cX11_init 107 = .ok (.aload_n 0, 1) := by decide +kernel
theorem dX11_init_108 : decode cX11_init 108 = .ok (.bipush 17, 2) := by decide +kernel
theorem dX11_init_110 : decode cX11_init 110 = .ok (.newarray .int, 2) := by decide +kernel
theorem dX11_init_112 : decode cX11_init 112 = .ok (.putfield 37, 3) := by decide +kernel
theorem dX11_init_115 : decode cX11_init 115 = .ok (.aload_n 0, 1) := by decide +kernel
theorem dX11_init_116 : decode cX11_init 116 = .ok (.bipush 17, 2) := by decide +kernel
theorem dX11_init_118 : decode cX11_init 118 = .ok (.newarray .int, 2) := by decide +kernel
theorem dX11_init_120 : decode cX11_init 120 = .ok (.putfield 40, 3) := by decide +kernel
theorem dX11_init_123 : decode cX11_init 123 = .ok (.aload_n 0, 1) := by decide +kernel
theorem dX11_init_124 : decode cX11_init 124 = .ok (.sipush 400, 3) := by decide +kernel
theorem dX11_init_127 : decode cX11_init 127 = .ok (.newarray .int, 2) := by decide +kernel
theorem dX11_init_129 : decode cX11_init 129 = .ok (.putfield 43, 3) := by decide +kernel
theorem dX11_init_132 : decode cX11_init 132 = .ok (.aload_n 0, 1) := by decide +kernel
theorem dX11_init_133 : decode cX11_init 133 = .ok (.iconst 5, 1) := by decide +kernel
theorem dX11_init_134 : decode cX11_init 134 = .ok (.newarray .int, 2) := by decide +kernel
theorem dX11_init_136 : decode cX11_init 136 = .ok (.putfield 46, 3) := by decide +kernel
theorem dX11_init_139 : decode cX11_init 139 = .ok (.aload_n 0, 1) := by decide +kernel
theorem dX11_init_140 : decode cX11_init 140 = .ok (.bipush 61, 2) := by decide +kernel
theorem dX11_init_142 : decode cX11_init 142 = .ok (.newarray .int, 2) := by decide +kernel
theorem dX11_init_144 : decode cX11_init 144 = .ok (.putfield 49, 3) := by decide +kernel
theorem dX11_init_147 : decode cX11_init 147 = .ok (.aload_n 0, 1) := by decide +kernel
theorem dX11_init_148 : decode cX11_init 148 = .ok (.bipush 61, 2) := by decide +kernel
theorem dX11_init_150 : decode cX11_init 150 = .ok (.newarray .int, 2) := by decide +kernel
theorem dX11_init_152 : decode cX11_init 152 = .ok (.putfield 52, 3) := by decide +kernel
theorem dX11_init_155 : decode cX11_init 155 = .ok (.aload_n 0, 1) := by decide +kernel
theorem dX11_init_156 : decode cX11_init 156 = .ok (.bipush 16, 2) := by decide +kernel
theorem dX11_init_158 : decode cX11_init 158 = .ok (.newarray .int, 2) := by decide +kernel
theorem dX11_init_160 : decode cX11_init 160 = .ok (.putfield 55, 3) := by decide +kernel
theorem dX11_init_163 : decode cX11_init 163 = .ok (.return_, 1) := by decide +kernel
theorem dX11_in_0 : decode cX11_in 0 = .ok (.lload_n 0, 1) := by decide +kernel
theorem dX11_in_1 : decode cX11_in 1 = .ok (.lload_n 2, 1) := by decide +kernel
theorem dX11_in_2 : decode cX11_in 2 = .ok (.lcmp, 1) := by decide +kernel
theorem dX11_in_3 : decode cX11_in 3 = .ok (.ifCond .lt 14, 3) := by decide +kernel
theorem dX11_in_6 : decode cX11_in 6 = .ok (.lload_n 0, 1) := by decide +kernel
theorem dX11_in_7 : decode cX11_in 7 = .ok (.lload 4, 2) := by decide +kernel
theorem dX11_in_9 : decode cX11_in 9 = .ok (.lcmp, 1) := by decide +kernel
theorem dX11_in_10 : decode cX11_in 10 = .ok (.ifCond .gt 7, 3) := by decide +kernel
theorem dX11_in_13 : decode cX11_in 13 = .ok (.iconst 1, 1) := by decide +kernel
theorem dX11_in_14 : decode cX11_in 14 = .ok (.goto 4, 3) := by decide +kernel
theorem dX11_in_17 : decode cX11_in 17 = .ok (.iconst 0, 1) := by decide +kernel
theorem dX11_in_18 : decode cX11_in 18 = .ok (.ireturn, 1) := by decide +kernel
theorem dX11_finding_0 : decode cX11_finding 0 = .ok (.aload_n 0, 1) := by decide +kernel
theorem dX11_finding_1 : decode cX11_finding 1 = .ok (.iload_n 1, 1) := by decide +kernel
theorem dX11_finding_2 : decode cX11_finding 2 = .ok (.putfield 62, 3) := by decide +kernel
theorem dX11_finding_5 : decode cX11_finding 5 = .ok (.ldc 65, 2) := by decide +kernel
theorem dX11_finding_7 : decode cX11_finding 7 = .ok (.iload_n 1, 1) := by decide +kernel
theorem dX11_finding_8 : decode cX11_finding 8 = .ok (.isub, 1) := by decide +kernel
theorem dX11_finding_9 : decode cX11_finding 9 = .ok (.ireturn, 1) := by decide +kernel
set_option maxRecDepth 20000 in
theorem ggX11_isSheet_X11_in : GoodIn wsX11_isSheet wsX11_in := goodIn_r _ [5] (by decide +kernel) (by decide +kernel)
set_option maxRecDepth 20000 in
theorem gX11_isSheet_X11_in : GoodIn wsX11_isSheet (va_wsS RX11 68 yX11_in wsX11_in) := goodIn_app (goodIn_of _ (by decide +kernel)) ggX11_isSheet_X11_in
theorem dX11_isSheet_0 : decode cX11_isSheet 0 = .ok (.iload_n 0, 1) := by decide +kernel
theorem dX11_isSheet_1 : decode cX11_isSheet 1 = .ok (.i2l, 1) := by decide +kernel
theorem dX11_isSheet_2 : decode cX11_isSheet 2 = .ok (.lconst 0, 1) := by decide +kernel
theorem dX11_isSheet_3 : decode cX11_isSheet 3 = .ok (.ldc2_w 66, 3) := by decide +kernel
theorem dX11_isSheet_6 : decode cX11_isSheet 6 = .ok (.invokestatic 68, 3) := by decide +kernel
theorem dX11_isSheet_9 : decode cX11_isSheet 9 = .ok (.ireturn, 1) := by decide +kernel
set_option maxRecDepth 20000 in
theorem ggX11_sheet_X11_isSheet : GoodIn wsX11_sheet wsX11_isSheet := goodIn_r _ [11, 12, 13, 14, 10, 15] (by decide +kernel) (by decide +kernel)
set_option maxRecDepth 20000 in
theorem gX11_sheet_X11_isSheet : GoodIn wsX11_sheet (va_wsS RX11 72 yX11_isSheet wsX11_isSheet) := goodIn_app (goodIn_of _ (by decide +kernel)) ggX11_sheet_X11_isSheet
set_option maxRecDepth 20000 in
theorem ggX11_sheet_X11_in : GoodIn wsX11_sheet wsX11_in := goodIn_r _ [15] (by decide +kernel) (by decide +kernel)
set_option maxRecDepth 20000 in
theorem gX11_sheet_X11_in : GoodIn wsX11_sheet (va_wsS RX11 68 yX11_in wsX11_in) := goodIn_app (goodIn_of _ (by decide +kernel)) ggX11_sheet_X11_in
set_option maxRecDepth 20000 in
theorem ggX11_sheet_X11_finding : GoodIn wsX11_sheet wsX11_finding := goodIn_r _ [19, 4, 20, 21, 22, 23, 24, 25, 26, 27, 28, 29, 30, 31, 32, 33, 34, 35, 36, 37, 38, 39, 40, 41, 42, 43, 44, 45, 46, 47, 48, 49, 50, 51, 52, 53, 54, 55] (by decide +kernel) (by decide +kernel)
set_option maxRecDepth 20000 in
theorem gX11_sheet_X11_finding : GoodIn wsX11_sheet (wsV RX11 79 RX11 yX11_finding wsX11_finding) := goodIn_app (goodIn_of _ (by decide +kernel)) ggX11_sheet_X11_finding
theorem dX11_sheet_0 : decode cX11_sheet 0 = .ok (.aload_n 0, 1) := by decide +kernel
theorem dX11_sheet_1 : decode cX11_sheet 1 = .ok (.iconst 0, 1) := by decide +kernel
theorem dX11_sheet_2 : decode cX11_sheet 2 = .ok (.putfield 58, 3) := by decide +kernel
theorem dX11_sheet_5 : decode cX11_sheet 5 = .ok (.iload_n 1, 1) := by decide +kernel
theorem dX11_sheet_6 : decode cX11_sheet 6 = .ok (.invokestatic 72, 3) := by decide +kernel
theorem dX11_sheet_9 : decode cX11_sheet 9 = .ok (.ifCond .eq 21, 3) := by decide +kernel
theorem dX11_sheet_12 : decode cX11_sheet 12 = .ok (.iload_n 2, 1) := by decide +kernel
theorem dX11_sheet_13 : decode cX11_sheet 13 = .ok (.i2l, 1) := by decide +kernel
theorem dX11_sheet_14 : decode cX11_sheet 14 = .ok (.lconst 0, 1) := by decide +kernel
theorem dX11_sheet_15 : decode cX11_sheet 15 = .ok (.ldc2_w 76, 3) := by decide +kernel
theorem dX11_sheet_18 : decode cX11_sheet 18 = .ok (.invokestatic 68, 3) := by decide +kernel
theorem dX11_sheet_21 : decode cX11_sheet 21 = .ok (.ifCond .eq 9, 3) := by decide +kernel
theorem dX11_sheet_24 : decode cX11_sheet 24 = .ok (.iload_n 3, 1) := by decide +kernel
theorem dX11_sheet_25 : decode cX11_sheet 25 = .ok (.bipush 60, 2) := by decide +kernel
theorem dX11_sheet_27 : decode cX11_sheet 27 = .ok (.if_icmp .le 6, 3) := by decide +kernel
theorem dX11_sheet_30 : decode cX11_sheet 30 = .ok (.ldc 78, 2) := by decide +kernel
theorem dX11_sheet_32 : decode cX11_sheet 32 = .ok (.ireturn, 1) := by decide +kernel
theorem dX11_sheet_33 : decode cX11_sheet 33 = .ok (.aload_n 0, 1) := by decide +kernel
theorem dX11_sheet_34 : decode cX11_sheet 34 = .ok (.iconst 0, 1) := by decide +kernel
theorem dX11_sheet_35 : decode cX11_sheet 35 = .ok (.putfield 62, 3) := by decide +kernel
theorem dX11_sheet_38 : decode cX11_sheet 38 = .ok (.iload_n 3, 1) := by decide +kernel
theorem dX11_sheet_39 : decode cX11_sheet 39 = .ok (.ifCond .ge 9, 3) := by decide +kernel
theorem dX11_sheet_42 : decode cX11_sheet 42 = .ok (.aload_n 0, 1) := by decide +kernel
theorem dX11_sheet_43 : decode cX11_sheet 43 = .ok (.iconst 4, 1) := by decide +kernel
theorem dX11_sheet_44 : decode cX11_sheet 44 = .ok (.invokevirtual 79, 3) := by decide +kernel
theorem dX11_sheet_47 : decode cX11_sheet 47 = .ok (.ireturn, 1) := by decide +kernel
theorem dX11_sheet_48 : decode cX11_sheet 48 = .ok (.aload_n 0, 1) := by decide +kernel
theorem dX11_sheet_49 : decode cX11_sheet 49 = .ok (.getfield 7, 3) := by decide +kernel
theorem dX11_sheet_52 : decode cX11_sheet 52 = .ok (.iload_n 1, 1) := by decide +kernel
theorem dX11_sheet_53 : decode cX11_sheet 53 = .ok (.iload_n 2, 1) := by decide +kernel
theorem dX11_sheet_54 : decode cX11_sheet 54 = .ok (.iastore, 1) := by decide +kernel
theorem dX11_sheet_55 : decode cX11_sheet 55 = .ok (.aload_n 0, 1) := by decide +kernel
theorem dX11_sheet_56 : decode cX11_sheet 56 = .ok (.getfield 13, 3) := by decide +kernel
theorem dX11_sheet_59 : decode cX11_sheet 59 = .ok (.iload_n 1, 1) := by decide +kernel
theorem dX11_sheet_60 : decode cX11_sheet 60 = .ok (.iload_n 3, 1) := by decide +kernel
theorem dX11_sheet_61 : decode cX11_sheet 61 = .ok (.iastore, 1) := by decide +kernel
theorem dX11_sheet_62 : decode cX11_sheet 62 = .ok (.iconst 0, 1) := by decide +kernel
theorem dX11_sheet_63 : decode cX11_sheet 63 = .ok (.istore 4, 2) := by decide +kernel
theorem dX11_sheet_65 : decode cX11_sheet 65 = .ok (.iload 4, 2) := by decide +kernel
theorem dX11_sheet_67 : decode cX11_sheet 67 = .ok (.bipush 60, 2) := by decide +kernel
theorem dX11_sheet_69 : decode cX11_sheet 69 = .ok (.if_icmp .ge 22, 3) := by decide +kernel
theorem dX11_sheet_72 : decode cX11_sheet 72 = .ok (.aload_n 0, 1) := by decide +kernel
theorem dX11_sheet_73 : decode cX11_sheet 73 = .ok (.getfield 16, 3) := by decide +kernel
theorem dX11_sheet_76 : decode cX11_sheet 76 = .ok (.bipush 60, 2) := by decide +kernel
theorem dX11_sheet_78 : decode cX11_sheet 78 = .ok (.iload_n 1, 1) := by decide +kernel
theorem dX11_sheet_79 : decode cX11_sheet 79 = .ok (.imul, 1) := by decide +kernel
theorem dX11_sheet_80 : decode cX11_sheet 80 = .ok (.iload 4, 2) := by decide +kernel
theorem dX11_sheet_82 : decode cX11_sheet 82 = .ok (.iadd, 1) := by decide +kernel
theorem dX11_sheet_83 : decode cX11_sheet 83 = .ok (.iconst 0, 1) := by decide +kernel
theorem dX11_sheet_84 : decode cX11_sheet 84 = .ok (.iastore, 1) := by decide +kernel
theorem dX11_sheet_85 : decode cX11_sheet 85 = .ok (.iinc 4 1, 3) := by decide +kernel
theorem dX11_sheet_88 : decode cX11_sheet 88 = .ok (.goto (-23), 3) := by decide +kernel
theorem dX11_sheet_91 : decode cX11_sheet 91 = .ok (.iload_n 3, 1) := by decide +kernel
theorem dX11_sheet_92 : decode cX11_sheet 92 = .ok (.ireturn, 1) := by decide +kernel
set_option maxRecDepth 20000 in
theorem ggX11_set_X11_isSheet : GoodIn wsX11_set wsX11_isSheet := goodIn_r _ [10, 11, 12, 13, 9, 14] (by decide +kernel) (by decide +kernel)
set_option maxRecDepth 20000 in
theorem gX11_set_X11_isSheet : GoodIn wsX11_set (va_wsS RX11 72 yX11_isSheet wsX11_isSheet) := goodIn_app (goodIn_of _ (by decide +kernel)) ggX11_set_X11_isSheet
set_option maxRecDepth 20000 in
theorem ggX11_set_X11_finding : GoodIn wsX11_set wsX11_finding := goodIn_r _ [18, 3, 19, 20, 21, 22, 23, 24, 25, 26, 27, 28, 29, 30, 31, 32, 33, 34, 35, 36, 37, 38, 39, 40, 41, 42, 43, 44, 45, 46, 47, 48, 49, 50, 51, 52, 53, 54] (by decide +kernel) (by decide +kernel)
set_option maxRecDepth 20000 in
theorem gX11_set_X11_finding : GoodIn wsX11_set (wsV RX11 79 RX11 yX11_finding wsX11_finding) := goodIn_app (goodIn_of _ (by decide +kernel)) ggX11_set_X11_finding
set_option maxRecDepth 20000 in
theorem ggX11_set_X11_in : GoodIn wsX11_set wsX11_in := goodIn_r _ [14] (by decide +kernel) (by decide +kernel)
set_option maxRecDepth 20000 in
theorem gX11_set_X11_in : GoodIn wsX11_set (va_wsS RX11 68 yX11_in wsX11_in) := goodIn_app (goodIn_of _ (by decide +kernel)) ggX11_set_X11_in
theorem dX11_set_0 : decode cX11_set 0 = .ok (.aload_n 0, 1) := by decide +kernel
theorem dX11_set_1 : decode cX11_set 1 = .ok (.iconst 0, 1) := by decide +kernel
theorem dX11_set_2 : decode cX11_set 2 = .ok (.putfield 58, 3) := by decide +kernel
theorem dX11_set_5 : decode cX11_set 5 = .ok (.iload_n 1, 1) := by decide +kernel
theorem dX11_set_6 : decode cX11_set 6 = .ok (.invokestatic 72, 3) := by decide +kernel
theorem dX11_set_9 : decode cX11_set 9 = .ok (.ifCond .ne 6, 3) := by decide +kernel
theorem dX11_set_12 : decode cX11_set 12 = .ok (.ldc 78, 2) := by decide +kernel
theorem dX11_set_14 : decode cX11_set 14 = .ok (.ireturn, 1) := by decide +kernel
theorem dX11_set_15 : decode cX11_set 15 = .ok (.aload_n 0, 1) := by decide +kernel
theorem dX11_set_16 : decode cX11_set 16 = .ok (.iconst 0, 1) := by decide +kernel
theorem dX11_set_17 : decode cX11_set 17 = .ok (.putfield 62, 3) := by decide +kernel
theorem dX11_set_20 : decode cX11_set 20 = .ok (.aload_n 0, 1) := by decide +kernel
theorem dX11_set_21 : decode cX11_set 21 = .ok (.getfield 7, 3) := by decide +kernel
theorem dX11_set_24 : decode cX11_set 24 = .ok (.iload_n 1, 1) := by decide +kernel
theorem dX11_set_25 : decode cX11_set 25 = .ok (.iaload, 1) := by decide +kernel
theorem dX11_set_26 : decode cX11_set 26 = .ok (.ifCond .ge 9, 3) := by decide +kernel
theorem dX11_set_29 : decode cX11_set 29 = .ok (.aload_n 0, 1) := by decide +kernel
theorem dX11_set_30 : decode cX11_set 30 = .ok (.iconst 1, 1) := by decide +kernel
theorem dX11_set_31 : decode cX11_set 31 = .ok (.invokevirtual 79, 3) := by decide +kernel
theorem dX11_set_34 : decode cX11_set 34 = .ok (.ireturn, 1) := by decide +kernel
theorem dX11_set_35 : decode cX11_set 35 = .ok (.iload_n 2, 1) := by decide +kernel
theorem dX11_set_36 : decode cX11_set 36 = .ok (.i2l, 1) := by decide +kernel
theorem dX11_set_37 : decode cX11_set 37 = .ok (.lconst 0, 1) := by decide +kernel
theorem dX11_set_38 : decode cX11_set 38 = .ok (.aload_n 0, 1) := by decide +kernel
theorem dX11_set_39 : decode cX11_set 39 = .ok (.getfield 13, 3) := by decide +kernel
theorem dX11_set_42 : decode cX11_set 42 = .ok (.iload_n 1, 1) := by decide +kernel
theorem dX11_set_43 : decode cX11_set 43 = .ok (.iaload, 1) := by decide +kernel
theorem dX11_set_44 : decode cX11_set 44 = .ok (.iconst 1, 1) := by decide +kernel
theorem dX11_set_45 : decode cX11_set 45 = .ok (.isub, 1) := by decide +kernel
theorem dX11_set_46 : decode cX11_set 46 = .ok (.i2l, 1) := by decide +kernel
theorem dX11_set_47 : decode cX11_set 47 = .ok (.invokestatic 68, 3) := by decide +kernel
theorem dX11_set_50 : decode cX11_set 50 = .ok (.ifCond .ne 9, 3) := by decide +kernel
theorem dX11_set_53 : decode cX11_set 53 = .ok (.aload_n 0, 1) := by decide +kernel
theorem dX11_set_54 : decode cX11_set 54 = .ok (.iconst 2, 1) := by decide +kernel
theorem dX11_set_55 : decode cX11_set 55 = .ok (.invokevirtual 79, 3) := by decide +kernel
theorem dX11_set_58 : decode cX11_set 58 = .ok (.ireturn, 1) := by decide +kernel
theorem dX11_set_59 : decode cX11_set 59 = .ok (.aload_n 0, 1) := by decide +kernel
theorem dX11_set_60 : decode cX11_set 60 = .ok (.getfield 16, 3) := by decide +kernel
theorem dX11_set_63 : decode cX11_set 63 = .ok (.bipush 60, 2) := by decide +kernel
theorem dX11_set_65 : decode cX11_set 65 = .ok (.iload_n 1, 1) := by decide +kernel
theorem dX11_set_66 : decode cX11_set 66 = .ok (.imul, 1) := by decide +kernel
theorem dX11_set_67 : decode cX11_set 67 = .ok (.iload_n 2, 1) := by decide +kernel
theorem dX11_set_68 : decode cX11_set 68 = .ok (.iadd, 1) := by decide +kernel
theorem dX11_set_69 : decode cX11_set 69 = .ok (.aload_n 0, 1) := by decide +kernel
theorem dX11_set_70 : decode cX11_set 70 = .ok (.getfield 7, 3) := by decide +kernel
theorem dX11_set_73 : decode cX11_set 73 = .ok (.iload_n 1, 1) := by decide +kernel
theorem dX11_set_74 : decode cX11_set 74 = .ok (.iaload, 1) := by decide +kernel
theorem dX11_set_75 : decode cX11_set 75 = .ok (.ifCond .ne 8, 3) := by decide +kernel
theorem dX11_set_78 : decode cX11_set 78 = .ok (.iload_n 3, 1) := by decide +kernel
theorem dX11_set_79 : decode cX11_set 79 = .ok (.i2b, 1) := by decide +kernel
theorem dX11_set_80 : decode cX11_set 80 = .ok (.goto 19, 3) := by decide +kernel
theorem dX11_set_83 : decode cX11_set 83 = .ok (.aload_n 0, 1) := by decide +kernel
theorem dX11_set_84 : decode cX11_set 84 = .ok (.getfield 7, 3) := by decide +kernel
theorem dX11_set_87 : decode cX11_set 87 = .ok (.iload_n 1, 1) := by decide +kernel
theorem dX11_set_88 : decode cX11_set 88 = .ok (.iaload, 1) := by decide +kernel
theorem dX11_set_89 : decode cX11_set 89 = .ok (.iconst 1, 1) := by decide +kernel
theorem dX11_set_90 : decode cX11_set 90 = .ok (.if_icmp .ne 8, 3) := by decide +kernel
theorem dX11_set_93 : decode cX11_set 93 = .ok (.iload_n 3, 1) := by decide +kernel
theorem dX11_set_94 : decode cX11_set 94 = .ok (.i2s, 1) := by decide +kernel
theorem dX11_set_95 : decode cX11_set 95 = .ok (.goto 4, 3) := by decide +kernel
theorem dX11_set_98 : decode cX11_set 98 = .ok (.iload_n 3, 1) := by decide +kernel
theorem dX11_set_99 : decode cX11_set 99 = .ok (.iastore, 1) := by decide +kernel
theorem dX11_set_100 : decode cX11_set 100 = .ok (.aload_n 0, 1) := by decide +kernel
theorem dX11_set_101 : decode cX11_set 101 = .ok (.getfield 16, 3) := by decide +kernel
theorem dX11_set_104 : decode cX11_set 104 = .ok (.bipush 60, 2) := by decide +kernel
theorem dX11_set_106 : decode cX11_set 106 = .ok (.iload_n 1, 1) := by decide +kernel
theorem dX11_set_107 : decode cX11_set 107 = .ok (.imul, 1) := by decide +kernel
theorem dX11_set_108 : decode cX11_set 108 = .ok (.iload_n 2, 1) := by decide +kernel
theorem dX11_set_109 : decode cX11_set 109 = .ok (.iadd, 1) := by decide +kernel
theorem dX11_set_110 : decode cX11_set 110 = .ok (.iaload, 1) := by decide +kernel
theorem dX11_set_111 : decode cX11_set 111 = .ok (.ireturn, 1) := by decide +kernel
set_option maxRecDepth 20000 in
theorem ggX11_copy_X11_isSheet : GoodIn wsX11_copy wsX11_isSheet := goodIn_r _ [10, 11, 12, 13, 9, 14] (by decide +kernel) (by decide +kernel)
set_option maxRecDepth 20000 in
theorem gX11_copy_X11_isSheet : GoodIn wsX11_copy (va_wsS RX11 72 yX11_isSheet wsX11_isSheet) := goodIn_app (goodIn_of _ (by decide +kernel)) ggX11_copy_X11_isSheet
set_option maxRecDepth 20000 in
theorem ggX11_copy_X11_finding : GoodIn wsX11_copy wsX11_finding := goodIn_r _ [18, 3, 19, 20, 21, 22, 23, 24, 25, 26, 27, 28, 29, 30, 31, 32, 33, 34, 35, 36, 37, 38, 39, 40, 41, 42, 43, 44, 45, 46, 47, 48, 49, 50, 51, 52, 53, 54] (by decide +kernel) (by decide +kernel)
set_option maxRecDepth 20000 in
theorem gX11_copy_X11_finding : GoodIn wsX11_copy (wsV RX11 79 RX11 yX11_finding wsX11_finding) := goodIn_app (goodIn_of _ (by decide +kernel)) ggX11_copy_X11_finding
theorem dX11_copy_0 : decode cX11_copy 0 = .ok (.aload_n 0, 1) := by decide +kernel
theorem dX11_copy_1 : decode cX11_copy 1 = .ok (.iconst 0, 1) := by decide +kernel
