theorem dX8_yearsSinceLike_34 : decode cX8_yearsSinceLike 34 = .ok (.iload_n 1, 1) := by decide +kernel
theorem dX8_yearsSinceLike_35 : decode cX8_yearsSinceLike 35 = .ok (.iaload, 1) := by decide +kernel
theorem dX8_yearsSinceLike_36 : decode cX8_yearsSinceLike 36 = .ok (.if_icmp .ne 5, 3) := by decide +kernel
theorem dX8_yearsSinceLike_39 : decode cX8_yearsSinceLike 39 = .ok (.iload_n 2, 1) := by decide +kernel
theorem dX8_yearsSinceLike_40 : decode cX8_yearsSinceLike 40 = .ok (.ireturn, 1) := by decide +kernel
theorem dX8_yearsSinceLike_41 : decode cX8_yearsSinceLike 41 = .ok (.iinc 2 1, 3) := by decide +kernel
theorem dX8_yearsSinceLike_44 : decode cX8_yearsSinceLike 44 = .ok (.goto (-42), 3) := by decide +kernel
theorem dX8_yearsSinceLike_47 : decode cX8_yearsSinceLike 47 = .ok (.ldc 22, 2) := by decide +kernel
theorem dX8_yearsSinceLike_49 : decode cX8_yearsSinceLike 49 = .ok (.ireturn, 1) := by decide +kernel
set_option maxRecDepth 20000 in
theorem ggX8_mostBorne_X8_gainsEnough : GoodIn wsX8_mostBorne wsX8_gainsEnough := goodIn_r _ [5, 6, 7, 8, 9, 10, 11, 12, 13, 14, 15, 16, 17, 18, 19, 20, 21, 22, 23, 24, 25, 26, 27, 28, 29, 30, 31, 32, 33, 34, 35, 36, 37, 38, 39, 40, 41, 42, 43, 44, 45, 46, 47, 48, 49, 50, 51, 52, 53, 54, 55, 56, 57, 58, 59, 60, 61, 62, 63, 64, 65, 66, 67, 68, 69, 70, 71, 72, 73, 74, 75, 76, 77, 78, 79, 80, 81, 82, 83, 84, 85, 86, 87, 88, 89, 90, 91, 92, 93, 94, 95, 96, 97, 98, 99, 100, 101, 102, 103, 104, 105, 106, 107, 108, 109, 110, 111, 112, 113, 114, 115, 116, 117, 118, 119, 120, 121, 122, 123, 124, 125, 126, 127, 128, 129, 130, 131, 132, 133, 134, 135, 136, 137, 138, 139, 140, 141, 142, 143, 144, 145, 146, 147, 148, 149, 150, 151, 152] (by decide +kernel) (by decide +kernel)
set_option maxRecDepth 20000 in
theorem gX8_mostBorne_X8_gainsEnough : GoodIn wsX8_mostBorne (wsV RX8 47 RX8 yX8_gainsEnough wsX8_gainsEnough) := goodIn_app (goodIn_of _ (by decide +kernel)) ggX8_mostBorne_X8_gainsEnough
theorem dX8_mostBorne_0 : decode cX8_mostBorne 0 = .ok (.iconst 0, 1) := by decide +kernel
theorem dX8_mostBorne_1 : decode cX8_mostBorne 1 = .ok (.istore 4, 2) := by decide +kernel
theorem dX8_mostBorne_3 : decode cX8_mostBorne 3 = .ok (.iload 4, 2) := by decide +kernel
theorem dX8_mostBorne_5 : decode cX8_mostBorne 5 = .ok (.bipush 40, 2) := by decide +kernel
theorem dX8_mostBorne_7 : decode cX8_mostBorne 7 = .ok (.if_icmp .ge 23, 3) := by decide +kernel
theorem dX8_mostBorne_10 : decode cX8_mostBorne 10 = .ok (.aload_n 0, 1) := by decide +kernel
theorem dX8_mostBorne_11 : decode cX8_mostBorne 11 = .ok (.aload_n 1, 1) := by decide +kernel
theorem dX8_mostBorne_12 : decode cX8_mostBorne 12 = .ok (.iload_n 2, 1) := by decide +kernel
theorem dX8_mostBorne_13 : decode cX8_mostBorne 13 = .ok (.iload 4, 2) := by decide +kernel
theorem dX8_mostBorne_15 : decode cX8_mostBorne 15 = .ok (.iconst 1, 1) := by decide +kernel
theorem dX8_mostBorne_16 : decode cX8_mostBorne 16 = .ok (.iadd, 1) := by decide +kernel
theorem dX8_mostBorne_17 : decode cX8_mostBorne 17 = .ok (.iload_n 3, 1) := by decide +kernel
theorem dX8_mostBorne_18 : decode cX8_mostBorne 18 = .ok (.invokevirtual 47, 3) := by decide +kernel
theorem dX8_mostBorne_21 : decode cX8_mostBorne 21 = .ok (.ifCond .eq 9, 3) := by decide +kernel
theorem dX8_mostBorne_24 : decode cX8_mostBorne 24 = .ok (.iinc 4 1, 3) := by decide +kernel
theorem dX8_mostBorne_27 : decode cX8_mostBorne 27 = .ok (.goto (-24), 3) := by decide +kernel
theorem dX8_mostBorne_30 : decode cX8_mostBorne 30 = .ok (.iload 4, 2) := by decide +kernel
theorem dX8_mostBorne_32 : decode cX8_mostBorne 32 = .ok (.ireturn, 1) := by decide +kernel
set_option maxRecDepth 20000 in
theorem ggX8_gainsEnough_X2_takeAll : GoodIn wsX8_gainsEnough wsX2_takeAll := goodIn_r _ [8, 9, 10, 11, 12, 13, 14, 15, 16, 17, 18, 19, 20, 21, 22, 23, 24, 25, 26, 27, 28, 29, 30, 31, 32, 33, 34, 35, 36, 37, 38, 39, 40, 41, 42, 43, 44, 45, 46, 47, 131, 132, 133, 134, 135, 136, 137, 138, 139, 140, 141, 142, 122, 123, 124, 125, 126, 127, 128, 129, 130, 143, 144, 145, 146, 147] (by decide +kernel) (by decide +kernel)
set_option maxRecDepth 20000 in
theorem gX8_gainsEnough_X2_takeAll : GoodIn wsX8_gainsEnough (wsV RX8 30 RX2 yX2_takeAll wsX2_takeAll) := goodIn_app (goodIn_of _ (by decide +kernel)) ggX8_gainsEnough_X2_takeAll
set_option maxRecDepth 20000 in
theorem ggX8_gainsEnough_X2_kindAt : GoodIn wsX8_gainsEnough wsX2_kindAt := goodIn_r _ [51, 11, 9, 131, 132, 133, 134, 135, 136, 137, 138, 139, 140, 141, 142] (by decide +kernel) (by decide +kernel)
set_option maxRecDepth 20000 in
theorem gX8_gainsEnough_X2_kindAt : GoodIn wsX8_gainsEnough (wsV RX8 51 RX2 yX2_kindAt wsX2_kindAt) := goodIn_app (goodIn_of _ (by decide +kernel)) ggX8_gainsEnough_X2_kindAt
set_option maxRecDepth 20000 in
theorem ggX8_gainsEnough_X2_liveYear : GoodIn wsX8_gainsEnough wsX2_liveYear := goodIn_r _ [55, 19, 10, 14, 16, 17, 15, 20, 56, 57, 58, 7, 59, 11, 9, 60, 61, 62, 18, 63, 64, 65, 66, 67, 68, 69, 70, 71, 72, 73, 74, 75, 76, 77, 78, 79, 80, 81, 24, 82, 29, 30, 83, 84, 85, 86, 87, 88, 89, 90, 91, 92, 93, 94, 95, 96, 97, 98, 13, 12, 99, 100, 101, 102, 37, 103, 41, 39, 104, 40, 42, 105, 106, 107, 108, 43, 109, 110, 111, 112, 113, 114, 115, 116, 32, 117, 31, 33, 131, 132, 133, 134, 135, 136, 137, 138, 139, 140, 141, 142, 122, 123, 124, 125, 126, 127, 128, 129, 130, 143, 144, 145, 146, 147] (by decide +kernel) (by decide +kernel)
set_option maxRecDepth 20000 in
theorem gX8_gainsEnough_X2_liveYear : GoodIn wsX8_gainsEnough (wsV RX8 38 RX2 yX2_liveYear wsX2_liveYear) := goodIn_app (goodIn_of _ (by decide +kernel)) ggX8_gainsEnough_X2_liveYear
theorem dX8_gainsEnough_0 : decode cX8_gainsEnough 0 = .ok (.aload_n 0, 1) := by decide +kernel
theorem dX8_gainsEnough_1 : decode cX8_gainsEnough 1 = .ok (.getfield 12, 3) := by decide +kernel
theorem dX8_gainsEnough_4 : decode cX8_gainsEnough 4 = .ok (.aload_n 1, 1) := by decide +kernel
theorem dX8_gainsEnough_5 : decode cX8_gainsEnough 5 = .ok (.invokevirtual 30, 3) := by decide +kernel
theorem dX8_gainsEnough_8 : decode cX8_gainsEnough 8 = .ok (.aload_n 0, 1) := by decide +kernel
theorem dX8_gainsEnough_9 : decode cX8_gainsEnough 9 = .ok (.getfield 12, 3) := by decide +kernel
theorem dX8_gainsEnough_12 : decode cX8_gainsEnough 12 = .ok (.iload_n 2, 1) := by decide +kernel
theorem dX8_gainsEnough_13 : decode cX8_gainsEnough 13 = .ok (.invokevirtual 51, 3) := by decide +kernel
theorem dX8_gainsEnough_16 : decode cX8_gainsEnough 16 = .ok (.astore 5, 2) := by decide +kernel
theorem dX8_gainsEnough_18 : decode cX8_gainsEnough 18 = .ok (.aload_n 0, 1) := by decide +kernel
theorem dX8_gainsEnough_19 : decode cX8_gainsEnough 19 = .ok (.getfield 12, 3) := by decide +kernel
theorem dX8_gainsEnough_22 : decode cX8_gainsEnough 22 = .ok (.iconst 0, 1) := by decide +kernel
theorem dX8_gainsEnough_23 : decode cX8_gainsEnough 23 = .ok (.invokevirtual 51, 3) := by decide +kernel
theorem dX8_gainsEnough_26 : decode cX8_gainsEnough 26 = .ok (.astore 6, 2) := by decide +kernel
theorem dX8_gainsEnough_28 : decode cX8_gainsEnough 28 = .ok (.aload 5, 2) := by decide +kernel
theorem dX8_gainsEnough_30 : decode cX8_gainsEnough 30 = .ok (.ifnull 8, 3) := by decide +kernel
theorem dX8_gainsEnough_33 : decode cX8_gainsEnough 33 = .ok (.aload 6, 2) := by decide +kernel
theorem dX8_gainsEnough_35 : decode cX8_gainsEnough 35 = .ok (.ifnonnull 5, 3) := by decide +kernel
theorem dX8_gainsEnough_38 : decode cX8_gainsEnough 38 = .ok (.iconst 0, 1) := by decide +kernel
theorem dX8_gainsEnough_39 : decode cX8_gainsEnough 39 = .ok (.ireturn, 1) := by decide +kernel
theorem dX8_gainsEnough_40 : decode cX8_gainsEnough 40 = .ok (.aload 5, 2) := by decide +kernel
theorem dX8_gainsEnough_42 : decode cX8_gainsEnough 42 = .ok (.iload_n 3, 1) := by decide +kernel
theorem dX8_gainsEnough_43 : decode cX8_gainsEnough 43 = .ok (.putfield 55, 3) := by decide +kernel
theorem dX8_gainsEnough_46 : decode cX8_gainsEnough 46 = .ok (.aload 5, 2) := by decide +kernel
theorem dX8_gainsEnough_48 : decode cX8_gainsEnough 48 = .ok (.getfield 58, 3) := by decide +kernel
theorem dX8_gainsEnough_51 : decode cX8_gainsEnough 51 = .ok (.aload 6, 2) := by decide +kernel
theorem dX8_gainsEnough_53 : decode cX8_gainsEnough 53 = .ok (.getfield 58, 3) := by decide +kernel
theorem dX8_gainsEnough_56 : decode cX8_gainsEnough 56 = .ok (.isub, 1) := by decide +kernel
theorem dX8_gainsEnough_57 : decode cX8_gainsEnough 57 = .ok (.istore 7, 2) := by decide +kernel
theorem dX8_gainsEnough_59 : decode cX8_gainsEnough 59 = .ok (.iconst 0, 1) := by decide +kernel
theorem dX8_gainsEnough_60 : decode cX8_gainsEnough 60 = .ok (.istore 8, 2) := by decide +kernel
theorem dX8_gainsEnough_62 : decode cX8_gainsEnough 62 = .ok (.iload 8, 2) := by decide +kernel
theorem dX8_gainsEnough_64 : decode cX8_gainsEnough 64 = .ok (.iload 4, 2) := by decide +kernel
theorem dX8_gainsEnough_66 : decode cX8_gainsEnough 66 = .ok (.if_icmp .ge 17, 3) := by decide +kernel
theorem dX8_gainsEnough_69 : decode cX8_gainsEnough 69 = .ok (.aload_n 0, 1) := by decide +kernel
theorem dX8_gainsEnough_70 : decode cX8_gainsEnough 70 = .ok (.getfield 12, 3) := by decide +kernel
theorem dX8_gainsEnough_73 : decode cX8_gainsEnough 73 = .ok (.invokevirtual 38, 3) := by decide +kernel
theorem dX8_gainsEnough_76 : decode cX8_gainsEnough 76 = .ok (.pop, 1) := by decide +kernel
theorem dX8_gainsEnough_77 : decode cX8_gainsEnough 77 = .ok (.iinc 8 1, 3) := by decide +kernel
theorem dX8_gainsEnough_80 : decode cX8_gainsEnough 80 = .ok (.goto (-18), 3) := by decide +kernel
theorem dX8_gainsEnough_83 : decode cX8_gainsEnough 83 = .ok (.aload 5, 2) := by decide +kernel
theorem dX8_gainsEnough_85 : decode cX8_gainsEnough 85 = .ok (.getfield 58, 3) := by decide +kernel
theorem dX8_gainsEnough_88 : decode cX8_gainsEnough 88 = .ok (.aload 6, 2) := by decide +kernel
theorem dX8_gainsEnough_90 : decode cX8_gainsEnough 90 = .ok (.getfield 58, 3) := by decide +kernel
theorem dX8_gainsEnough_93 : decode cX8_gainsEnough 93 = .ok (.isub, 1) := by decide +kernel
theorem dX8_gainsEnough_94 : decode cX8_gainsEnough 94 = .ok (.iload 7, 2) := by decide +kernel
theorem dX8_gainsEnough_96 : decode cX8_gainsEnough 96 = .ok (.if_icmp .lt 7, 3) := by decide +kernel
theorem dX8_gainsEnough_99 : decode cX8_gainsEnough 99 = .ok (.iconst 1, 1) := by decide +kernel
theorem dX8_gainsEnough_100 : decode cX8_gainsEnough 100 = .ok (.goto 4, 3) := by decide +kernel
theorem dX8_gainsEnough_103 : decode cX8_gainsEnough 103 = .ok (.iconst 0, 1) := by decide +kernel
theorem dX8_gainsEnough_104 : decode cX8_gainsEnough 104 = .ok (.ireturn, 1) := by decide +kernel
set_option maxRecDepth 20000 in
theorem ggX8_truePrint_X2_takeAll : GoodIn wsX8_truePrint wsX2_takeAll := goodIn_r _ [8, 9, 10, 11, 12, 13, 14, 15, 16, 17, 18, 19, 20, 21, 22, 23, 24, 25, 26, 27, 28, 29, 30, 31, 32, 33, 34, 35, 36, 37, 38, 39, 40, 41, 42, 43, 44, 45, 46, 47, 118, 119, 120, 121, 122, 123, 124, 125, 126, 127, 128, 129, 130, 131, 132, 133, 134, 135, 136, 137, 138, 139, 140, 141, 142, 143] (by decide +kernel) (by decide +kernel)
set_option maxRecDepth 20000 in
theorem gX8_truePrint_X2_takeAll : GoodIn wsX8_truePrint (wsV RX8 30 RX2 yX2_takeAll wsX2_takeAll) := goodIn_app (goodIn_of _ (by decide +kernel)) ggX8_truePrint_X2_takeAll
set_option maxRecDepth 20000 in
theorem ggX8_truePrint_X2_liveYear : GoodIn wsX8_truePrint wsX2_liveYear := goodIn_r _ [51, 19, 10, 14, 16, 17, 15, 20, 52, 53, 54, 7, 55, 11, 9, 56, 57, 58, 18, 59, 60, 61, 62, 63, 64, 65, 66, 67, 68, 69, 70, 71, 72, 73, 74, 75, 76, 77, 24, 78, 29, 30, 79, 80, 81, 82, 83, 84, 85, 86, 87, 88, 89, 90, 91, 92, 93, 94, 13, 12, 95, 96, 97, 98, 37, 99, 41, 39, 100, 40, 42, 101, 102, 103, 104, 43, 105, 106, 107, 108, 109, 110, 111, 112, 32, 113, 31, 33, 118, 119, 120, 121, 122, 123, 124, 125, 126, 127, 128, 129, 130, 131, 132, 133, 134, 135, 136, 137, 138, 139, 140, 141, 142, 143] (by decide +kernel) (by decide +kernel)
set_option maxRecDepth 20000 in
theorem gX8_truePrint_X2_liveYear : GoodIn wsX8_truePrint (wsV RX8 38 RX2 yX2_liveYear wsX2_liveYear) := goodIn_app (goodIn_of _ (by decide +kernel)) ggX8_truePrint_X2_liveYear
theorem dX8_truePrint_0 : decode cX8_truePrint 0 = .ok (.iconst 0, 1) := by decide +kernel
theorem dX8_truePrint_1 : decode cX8_truePrint 1 = .ok (.istore_n 3, 1) := by decide +kernel
theorem dX8_truePrint_2 : decode cX8_truePrint 2 = .ok (.iconst 0, 1) := by decide +kernel
theorem dX8_truePrint_3 : decode cX8_truePrint 3 = .ok (.istore 4, 2) := by decide +kernel
theorem dX8_truePrint_5 : decode cX8_truePrint 5 = .ok (.iload 4, 2) := by decide +kernel
theorem dX8_truePrint_7 : decode cX8_truePrint 7 = .ok (.bipush 99, 2) := by decide +kernel
theorem dX8_truePrint_9 : decode cX8_truePrint 9 = .ok (.if_icmp .gt 49, 3) := by decide +kernel
theorem dX8_truePrint_12 : decode cX8_truePrint 12 = .ok (.aload_n 0, 1) := by decide +kernel
theorem dX8_truePrint_13 : decode cX8_truePrint 13 = .ok (.getfield 12, 3) := by decide +kernel
theorem dX8_truePrint_16 : decode cX8_truePrint 16 = .ok (.aload_n 1, 1) := by decide +kernel
theorem dX8_truePrint_17 : decode cX8_truePrint 17 = .ok (.invokevirtual 30, 3) := by decide +kernel
theorem dX8_truePrint_20 : decode cX8_truePrint 20 = .ok (.aload_n 0, 1) := by decide +kernel
theorem dX8_truePrint_21 : decode cX8_truePrint 21 = .ok (.getfield 12, 3) := by decide +kernel
theorem dX8_truePrint_24 : decode cX8_truePrint 24 = .ok (.iload 4, 2) := by decide +kernel
theorem dX8_truePrint_26 : decode cX8_truePrint 26 = .ok (.putfield 61, 3) := by decide +kernel
theorem dX8_truePrint_29 : decode cX8_truePrint 29 = .ok (.aload_n 0, 1) := by decide +kernel
theorem dX8_truePrint_30 : decode cX8_truePrint 30 = .ok (.getfield 12, 3) := by decide +kernel
theorem dX8_truePrint_33 : decode cX8_truePrint 33 = .ok (.invokevirtual 38, 3) := by decide +kernel
theorem dX8_truePrint_36 : decode cX8_truePrint 36 = .ok (.iload 4, 2) := by decide +kernel
theorem dX8_truePrint_38 : decode cX8_truePrint 38 = .ok (.if_icmp .ne 14, 3) := by decide +kernel
theorem dX8_truePrint_41 : decode cX8_truePrint 41 = .ok (.iload_n 3, 1) := by decide +kernel
theorem dX8_truePrint_42 : decode cX8_truePrint 42 = .ok (.iload_n 2, 1) := by decide +kernel
theorem dX8_truePrint_43 : decode cX8_truePrint 43 = .ok (.if_icmp .ne 6, 3) := by decide +kernel
theorem dX8_truePrint_46 : decode cX8_truePrint 46 = .ok (.iload 4, 2) := by decide +kernel
theorem dX8_truePrint_48 : decode cX8_truePrint 48 = .ok (.ireturn, 1) := by decide +kernel
theorem dX8_truePrint_49 : decode cX8_truePrint 49 = .ok (.iinc 3 1, 3) := by decide +kernel
theorem dX8_truePrint_52 : decode cX8_truePrint 52 = .ok (.iinc 4 1, 3) := by decide +kernel
theorem dX8_truePrint_55 : decode cX8_truePrint 55 = .ok (.goto (-50), 3) := by decide +kernel
theorem dX8_truePrint_58 : decode cX8_truePrint 58 = .ok (.iload_n 2, 1) := by decide +kernel
theorem dX8_truePrint_59 : decode cX8_truePrint 59 = .ok (.iconst (-1), 1) := by decide +kernel
theorem dX8_truePrint_60 : decode cX8_truePrint 60 = .ok (.if_icmp .ne 7, 3) := by decide +kernel
theorem dX8_truePrint_63 : decode cX8_truePrint 63 = .ok (.iload_n 3, 1) := by decide +kernel
theorem dX8_truePrint_64 : decode cX8_truePrint 64 = .ok (.goto 5, 3) := by decide +kernel
theorem dX8_truePrint_67 : decode cX8_truePrint 67 = .ok (.ldc 22, 2) := by decide +kernel
theorem dX8_truePrint_69 : decode cX8_truePrint 69 = .ok (.ireturn, 1) := by decide +kernel
set_option maxRecDepth 20000 in
theorem ggX8_cheapestCalm_X8_spreadUnder : GoodIn wsX8_cheapestCalm wsX8_spreadUnder := goodIn_r _ [9, 2, 3, 10, 11, 12, 13, 14, 15, 16, 17, 18, 19, 20, 21, 22, 23, 24, 25, 26, 27, 28, 29, 30, 31, 32, 33, 34, 35, 36, 37, 38, 39, 40, 41, 42, 43, 44, 45, 46, 47, 48, 49, 50, 51, 52, 53, 54, 55, 56, 57, 58, 59, 60, 61, 62, 63, 64, 65, 66, 67, 68, 69, 70, 71, 72, 73, 74, 75, 76, 77, 78, 79, 80, 81, 82, 83, 84, 85, 86, 87, 88, 89, 90, 91, 92, 93, 94, 95, 96, 97, 98, 99, 100, 101, 102, 103, 104, 105, 106, 107, 108, 109, 110, 111, 112, 113, 114, 115, 116, 117, 118, 119, 120, 121, 122, 123, 124, 125, 126, 127, 128, 129, 130, 131, 132, 133, 134, 135, 136, 137, 138, 139, 140, 141, 142, 148, 149, 150, 151, 152, 153, 154, 155, 156, 143, 144, 145, 146, 147] (by decide +kernel) (by decide +kernel)
set_option maxRecDepth 20000 in
theorem gX8_cheapestCalm_X8_spreadUnder : GoodIn wsX8_cheapestCalm (wsV RX8 64 RX8 yX8_spreadUnder wsX8_spreadUnder) := goodIn_app (goodIn_of _ (by decide +kernel)) ggX8_cheapestCalm_X8_spreadUnder
theorem dX8_cheapestCalm_0 : decode cX8_cheapestCalm 0 = .ok (.ldc 22, 2) := by decide +kernel
theorem dX8_cheapestCalm_2 : decode cX8_cheapestCalm 2 = .ok (.istore 4, 2) := by decide +kernel
theorem dX8_cheapestCalm_4 : decode cX8_cheapestCalm 4 = .ok (.iconst 0, 1) := by decide +kernel
theorem dX8_cheapestCalm_5 : decode cX8_cheapestCalm 5 = .ok (.istore 5, 2) := by decide +kernel
theorem dX8_cheapestCalm_7 : decode cX8_cheapestCalm 7 = .ok (.bipush 10, 2) := by decide +kernel
theorem dX8_cheapestCalm_9 : decode cX8_cheapestCalm 9 = .ok (.istore 6, 2) := by decide +kernel
theorem dX8_cheapestCalm_11 : decode cX8_cheapestCalm 11 = .ok (.iload 6, 2) := by decide +kernel
theorem dX8_cheapestCalm_13 : decode cX8_cheapestCalm 13 = .ok (.bipush 30, 2) := by decide +kernel
theorem dX8_cheapestCalm_15 : decode cX8_cheapestCalm 15 = .ok (.if_icmp .gt 120, 3) := by decide +kernel
theorem dX8_cheapestCalm_18 : decode cX8_cheapestCalm 18 = .ok (.iconst 5, 1) := by decide +kernel
theorem dX8_cheapestCalm_19 : decode cX8_cheapestCalm 19 = .ok (.istore 7, 2) := by decide +kernel
theorem dX8_cheapestCalm_21 : decode cX8_cheapestCalm 21 = .ok (.iload 7, 2) := by decide +kernel
theorem dX8_cheapestCalm_23 : decode cX8_cheapestCalm 23 = .ok (.bipush 50, 2) := by decide +kernel
theorem dX8_cheapestCalm_25 : decode cX8_cheapestCalm 25 = .ok (.if_icmp .gt 104, 3) := by decide +kernel
theorem dX8_cheapestCalm_28 : decode cX8_cheapestCalm 28 = .ok (.iconst 0, 1) := by decide +kernel
theorem dX8_cheapestCalm_29 : decode cX8_cheapestCalm 29 = .ok (.istore 8, 2) := by decide +kernel
theorem dX8_cheapestCalm_31 : decode cX8_cheapestCalm 31 = .ok (.iload 8, 2) := by decide +kernel
theorem dX8_cheapestCalm_33 : decode cX8_cheapestCalm 33 = .ok (.iload 7, 2) := by decide +kernel
theorem dX8_cheapestCalm_35 : decode cX8_cheapestCalm 35 = .ok (.if_icmp .ge 88, 3) := by decide +kernel
theorem dX8_cheapestCalm_38 : decode cX8_cheapestCalm 38 = .ok (.aload_n 0, 1) := by decide +kernel
theorem dX8_cheapestCalm_39 : decode cX8_cheapestCalm 39 = .ok (.aload_n 1, 1) := by decide +kernel
theorem dX8_cheapestCalm_40 : decode cX8_cheapestCalm 40 = .ok (.iload 8, 2) := by decide +kernel
theorem dX8_cheapestCalm_42 : decode cX8_cheapestCalm 42 = .ok (.iload 7, 2) := by decide +kernel
theorem dX8_cheapestCalm_44 : decode cX8_cheapestCalm 44 = .ok (.iload 6, 2) := by decide +kernel
theorem dX8_cheapestCalm_46 : decode cX8_cheapestCalm 46 = .ok (.iload_n 2, 1) := by decide +kernel
theorem dX8_cheapestCalm_47 : decode cX8_cheapestCalm 47 = .ok (.invokevirtual 64, 3) := by decide +kernel
theorem dX8_cheapestCalm_50 : decode cX8_cheapestCalm 50 = .ok (.iload_n 3, 1) := by decide +kernel
theorem dX8_cheapestCalm_51 : decode cX8_cheapestCalm 51 = .ok (.if_icmp .gt 7, 3) := by decide +kernel
theorem dX8_cheapestCalm_54 : decode cX8_cheapestCalm 54 = .ok (.iconst 1, 1) := by decide +kernel
theorem dX8_cheapestCalm_55 : decode cX8_cheapestCalm 55 = .ok (.goto 4, 3) := by decide +kernel
theorem dX8_cheapestCalm_58 : decode cX8_cheapestCalm 58 = .ok (.iconst 0, 1) := by decide +kernel
theorem dX8_cheapestCalm_59 : decode cX8_cheapestCalm 59 = .ok (.istore 9, 2) := by decide +kernel
theorem dX8_cheapestCalm_61 : decode cX8_cheapestCalm 61 = .ok (.iload 9, 2) := by decide +kernel
theorem dX8_cheapestCalm_63 : decode cX8_cheapestCalm 63 = .ok (.ifCond .eq 54, 3) := by decide +kernel
theorem dX8_cheapestCalm_66 : decode cX8_cheapestCalm 66 = .ok (.iload 4, 2) := by decide +kernel
theorem dX8_cheapestCalm_68 : decode cX8_cheapestCalm 68 = .ok (.ldc 22, 2) := by decide +kernel
theorem dX8_cheapestCalm_70 : decode cX8_cheapestCalm 70 = .ok (.if_icmp .eq 18, 3) := by decide +kernel
theorem dX8_cheapestCalm_73 : decode cX8_cheapestCalm 73 = .ok (.aload_n 0, 1) := by decide +kernel
theorem dX8_cheapestCalm_74 : decode cX8_cheapestCalm 74 = .ok (.getfield 12, 3) := by decide +kernel
theorem dX8_cheapestCalm_77 : decode cX8_cheapestCalm 77 = .ok (.getfield 68, 3) := by decide +kernel
theorem dX8_cheapestCalm_80 : decode cX8_cheapestCalm 80 = .ok (.getfield 72, 3) := by decide +kernel
theorem dX8_cheapestCalm_83 : decode cX8_cheapestCalm 83 = .ok (.iload 5, 2) := by decide +kernel
theorem dX8_cheapestCalm_85 : decode cX8_cheapestCalm 85 = .ok (.if_icmp .ge 32, 3) := by decide +kernel
theorem dX8_cheapestCalm_88 : decode cX8_cheapestCalm 88 = .ok (.sipush 10000, 3) := by decide +kernel
theorem dX8_cheapestCalm_91 : decode cX8_cheapestCalm 91 = .ok (.iload 6, 2) := by decide +kernel
theorem dX8_cheapestCalm_93 : decode cX8_cheapestCalm 93 = .ok (.imul, 1) := by decide +kernel
theorem dX8_cheapestCalm_94 : decode cX8_cheapestCalm 94 = .ok (.bipush 100, 2) := by decide +kernel
theorem dX8_cheapestCalm_96 : decode cX8_cheapestCalm 96 = .ok (.iload 7, 2) := by decide +kernel
theorem dX8_cheapestCalm_98 : decode cX8_cheapestCalm 98 = .ok (.imul, 1) := by decide +kernel
theorem dX8_cheapestCalm_99 : decode cX8_cheapestCalm 99 = .ok (.iadd, 1) := by decide +kernel
theorem dX8_cheapestCalm_100 : decode cX8_cheapestCalm 100 = .ok (.iload 8, 2) := by decide +kernel
theorem dX8_cheapestCalm_102 : decode cX8_cheapestCalm 102 = .ok (.iadd, 1) := by decide +kernel
theorem dX8_cheapestCalm_103 : decode cX8_cheapestCalm 103 = .ok (.istore 4, 2) := by decide +kernel
theorem dX8_cheapestCalm_105 : decode cX8_cheapestCalm 105 = .ok (.aload_n 0, 1) := by decide +kernel
theorem dX8_cheapestCalm_106 : decode cX8_cheapestCalm 106 = .ok (.getfield 12, 3) := by decide +kernel
theorem dX8_cheapestCalm_109 : decode cX8_cheapestCalm 109 = .ok (.getfield 68, 3) := by decide +kernel
theorem dX8_cheapestCalm_112 : decode cX8_cheapestCalm 112 = .ok (.getfield 72, 3) := by decide +kernel
theorem dX8_cheapestCalm_115 : decode cX8_cheapestCalm 115 = .ok (.istore 5, 2) := by decide +kernel
theorem dX8_cheapestCalm_117 : decode cX8_cheapestCalm 117 = .ok (.iinc 8 5, 3) := by decide +kernel
theorem dX8_cheapestCalm_120 : decode cX8_cheapestCalm 120 = .ok (.goto (-89), 3) := by decide +kernel
theorem dX8_cheapestCalm_123 : decode cX8_cheapestCalm 123 = .ok (.iinc 7 5, 3) := by decide +kernel
theorem dX8_cheapestCalm_126 : decode cX8_cheapestCalm 126 = .ok (.goto (-105), 3) := by decide +kernel
theorem dX8_cheapestCalm_129 : decode cX8_cheapestCalm 129 = .ok (.iinc 6 10, 3) := by decide +kernel
theorem dX8_cheapestCalm_132 : decode cX8_cheapestCalm 132 = .ok (.goto (-121), 3) := by decide +kernel
theorem dX8_cheapestCalm_135 : decode cX8_cheapestCalm 135 = .ok (.iload 4, 2) := by decide +kernel
theorem dX8_cheapestCalm_137 : decode cX8_cheapestCalm 137 = .ok (.ireturn, 1) := by decide +kernel
set_option maxRecDepth 20000 in
theorem ggX8_spreadUnder_X2_takeAll : GoodIn wsX8_spreadUnder wsX2_takeAll := goodIn_r _ [14, 15, 16, 17, 18, 19, 20, 21, 22, 23, 24, 25, 26, 27, 28, 29, 30, 31, 32, 33, 34, 35, 36, 37, 38, 39, 40, 41, 42, 43, 44, 45, 46, 47, 48, 49, 50, 51, 52, 53, 124, 125, 126, 127, 128, 129, 130, 131, 132, 133, 134, 135, 136, 137, 138, 139, 140, 141, 142, 143, 144, 145, 146, 147, 148, 149] (by decide +kernel) (by decide +kernel)
set_option maxRecDepth 20000 in
theorem gX8_spreadUnder_X2_takeAll : GoodIn wsX8_spreadUnder (wsV RX8 30 RX2 yX2_takeAll wsX2_takeAll) := goodIn_app (goodIn_of _ (by decide +kernel)) ggX8_spreadUnder_X2_takeAll
set_option maxRecDepth 20000 in
theorem ggX8_spreadUnder_X3_forget : GoodIn wsX8_spreadUnder wsX3_forget := goodIn_r _ [57, 48, 49, 145, 146, 147, 148, 149] (by decide +kernel) (by decide +kernel)
set_option maxRecDepth 20000 in
theorem gX8_spreadUnder_X3_forget : GoodIn wsX8_spreadUnder (wsV RX8 77 RX3 yX3_forget wsX3_forget) := goodIn_app (goodIn_of _ (by decide +kernel)) ggX8_spreadUnder_X3_forget
set_option maxRecDepth 20000 in
theorem ggX8_spreadUnder_X3_order : GoodIn wsX8_spreadUnder wsX3_order := goodIn_r _ [53, 45, 46, 47, 145, 146, 147, 148, 149] (by decide +kernel) (by decide +kernel)
set_option maxRecDepth 20000 in
theorem gX8_spreadUnder_X3_order : GoodIn wsX8_spreadUnder (wsV RX8 80 RX3 yX3_order wsX3_order) := goodIn_app (goodIn_of _ (by decide +kernel)) ggX8_spreadUnder_X3_order
set_option maxRecDepth 20000 in
theorem ggX8_spreadUnder_X2_liveYear : GoodIn wsX8_spreadUnder wsX2_liveYear := goodIn_r _ [62, 25, 16, 20, 22, 23, 21, 26, 63, 64, 65, 13, 66, 17, 15, 67, 68, 69, 24, 70, 71, 72, 73, 74, 75, 76, 4, 5, 6, 77, 8, 9, 78, 79, 80, 81, 82, 83, 30, 84, 35, 36, 85, 86, 87, 88, 89, 90, 91, 92, 93, 94, 95, 96, 97, 98, 99, 100, 19, 18, 101, 102, 103, 104, 43, 105, 47, 45, 106, 46, 48, 107, 108, 109, 110, 49, 111, 112, 113, 114, 115, 116, 117, 118, 38, 119, 37, 39, 124, 125, 126, 127, 128, 129, 130, 131, 132, 133, 134, 135, 136, 137, 138, 139, 140, 141, 142, 143, 144, 145, 146, 147, 148, 149] (by decide +kernel) (by decide +kernel)
set_option maxRecDepth 20000 in
theorem gX8_spreadUnder_X2_liveYear : GoodIn wsX8_spreadUnder (wsV RX8 38 RX2 yX2_liveYear wsX2_liveYear) := goodIn_app (goodIn_of _ (by decide +kernel)) ggX8_spreadUnder_X2_liveYear
theorem dX8_spreadUnder_0 : decode cX8_spreadUnder 0 = .ok (.aload_n 0, 1) := by decide +kernel
theorem dX8_spreadUnder_1 : decode cX8_spreadUnder 1 = .ok (.getfield 12, 3) := by decide +kernel
theorem dX8_spreadUnder_4 : decode cX8_spreadUnder 4 = .ok (.aload_n 1, 1) := by decide +kernel
theorem dX8_spreadUnder_5 : decode cX8_spreadUnder 5 = .ok (.invokevirtual 30, 3) := by decide +kernel
theorem dX8_spreadUnder_8 : decode cX8_spreadUnder 8 = .ok (.aload_n 0, 1) := by decide +kernel
theorem dX8_spreadUnder_9 : decode cX8_spreadUnder 9 = .ok (.getfield 12, 3) := by decide +kernel
theorem dX8_spreadUnder_12 : decode cX8_spreadUnder 12 = .ok (.getfield 68, 3) := by decide +kernel
theorem dX8_spreadUnder_15 : decode cX8_spreadUnder 15 = .ok (.invokevirtual 77, 3) := by decide +kernel
theorem dX8_spreadUnder_18 : decode cX8_spreadUnder 18 = .ok (.aload_n 0, 1) := by decide +kernel
theorem dX8_spreadUnder_19 : decode cX8_spreadUnder 19 = .ok (.getfield 12, 3) := by decide +kernel
theorem dX8_spreadUnder_22 : decode cX8_spreadUnder 22 = .ok (.getfield 68, 3) := by decide +kernel
theorem dX8_spreadUnder_25 : decode cX8_spreadUnder 25 = .ok (.iload_n 2, 1) := by decide +kernel
theorem dX8_spreadUnder_26 : decode cX8_spreadUnder 26 = .ok (.iload_n 3, 1) := by decide +kernel
theorem dX8_spreadUnder_27 : decode cX8_spreadUnder 27 = .ok (.iload 4, 2) := by decide +kernel
theorem dX8_spreadUnder_29 : decode cX8_spreadUnder 29 = .ok (.invokevirtual 80, 3) := by decide +kernel
theorem dX8_spreadUnder_32 : decode cX8_spreadUnder 32 = .ok (.bipush 99, 2) := by decide +kernel
theorem dX8_spreadUnder_34 : decode cX8_spreadUnder 34 = .ok (.istore 6, 2) := by decide +kernel
theorem dX8_spreadUnder_36 : decode cX8_spreadUnder 36 = .ok (.iconst 0, 1) := by decide +kernel
theorem dX8_spreadUnder_37 : decode cX8_spreadUnder 37 = .ok (.istore 7, 2) := by decide +kernel
theorem dX8_spreadUnder_39 : decode cX8_spreadUnder 39 = .ok (.iconst 0, 1) := by decide +kernel
theorem dX8_spreadUnder_40 : decode cX8_spreadUnder 40 = .ok (.istore 8, 2) := by decide +kernel
theorem dX8_spreadUnder_42 : decode cX8_spreadUnder 42 = .ok (.iload 8, 2) := by decide +kernel
theorem dX8_spreadUnder_44 : decode cX8_spreadUnder 44 = .ok (.iload 5, 2) := by decide +kernel
theorem dX8_spreadUnder_46 : decode cX8_spreadUnder 46 = .ok (.if_icmp .ge 36, 3) := by decide +kernel
theorem dX8_spreadUnder_49 : decode cX8_spreadUnder 49 = .ok (.aload_n 0, 1) := by decide +kernel
theorem dX8_spreadUnder_50 : decode cX8_spreadUnder 50 = .ok (.getfield 12, 3) := by decide +kernel
theorem dX8_spreadUnder_53 : decode cX8_spreadUnder 53 = .ok (.invokevirtual 38, 3) := by decide +kernel
theorem dX8_spreadUnder_56 : decode cX8_spreadUnder 56 = .ok (.istore 9, 2) := by decide +kernel
theorem dX8_spreadUnder_58 : decode cX8_spreadUnder 58 = .ok (.iload 6, 2) := by decide +kernel
theorem dX8_spreadUnder_60 : decode cX8_spreadUnder 60 = .ok (.iload 9, 2) := by decide +kernel
theorem dX8_spreadUnder_62 : decode cX8_spreadUnder 62 = .ok (.invokestatic 84, 3) := by decide +kernel
theorem dX8_spreadUnder_65 : decode cX8_spreadUnder 65 = .ok (.istore 6, 2) := by decide +kernel
theorem dX8_spreadUnder_67 : decode cX8_spreadUnder 67 = .ok (.iload 7, 2) := by decide +kernel
theorem dX8_spreadUnder_69 : decode cX8_spreadUnder 69 = .ok (.iload 9, 2) := by decide +kernel
theorem dX8_spreadUnder_71 : decode cX8_spreadUnder 71 = .ok (.invokestatic 90, 3) := by decide +kernel
theorem dX8_spreadUnder_74 : decode cX8_spreadUnder 74 = .ok (.istore 7, 2) := by decide +kernel
theorem dX8_spreadUnder_76 : decode cX8_spreadUnder 76 = .ok (.iinc 8 1, 3) := by decide +kernel
theorem dX8_spreadUnder_79 : decode cX8_spreadUnder 79 = .ok (.goto (-37), 3) := by decide +kernel
theorem dX8_spreadUnder_82 : decode cX8_spreadUnder 82 = .ok (.iload 7, 2) := by decide +kernel
theorem dX8_spreadUnder_84 : decode cX8_spreadUnder 84 = .ok (.iload 6, 2) := by decide +kernel
theorem dX8_spreadUnder_86 : decode cX8_spreadUnder 86 = .ok (.isub, 1) := by decide +kernel
theorem dX8_spreadUnder_87 : decode cX8_spreadUnder 87 = .ok (.ireturn, 1) := by decide +kernel
theorem dX9_alsoOf_0 : decode cX9_alsoOf 0 = .ok (.iload_n 0, 1) := by decide +kernel
theorem dX9_alsoOf_1 : decode cX9_alsoOf 1 = .ok (.ifCond .lt 19, 3) := by decide +kernel
theorem dX9_alsoOf_4 : decode cX9_alsoOf 4 = .ok (.iload_n 0, 1) := by decide +kernel
theorem dX9_alsoOf_5 : decode cX9_alsoOf 5 = .ok (.getstatic 9, 3) := by decide +kernel
theorem dX9_alsoOf_8 : decode cX9_alsoOf 8 = .ok (.arraylength, 1) := by decide +kernel
theorem dX9_alsoOf_9 : decode cX9_alsoOf 9 = .ok (.if_icmp .ge 11, 3) := by decide +kernel
theorem dX9_alsoOf_12 : decode cX9_alsoOf 12 = .ok (.getstatic 9, 3) := by decide +kernel
theorem dX9_alsoOf_15 : decode cX9_alsoOf 15 = .ok (.iload_n 0, 1) := by decide +kernel
theorem dX9_alsoOf_16 : decode cX9_alsoOf 16 = .ok (.iaload, 1) := by decide +kernel
theorem dX9_alsoOf_17 : decode cX9_alsoOf 17 = .ok (.goto 4, 3) := by decide +kernel
theorem dX9_alsoOf_20 : decode cX9_alsoOf 20 = .ok (.iconst (-1), 1) := by decide +kernel
theorem dX9_alsoOf_21 : decode cX9_alsoOf 21 = .ok (.ireturn, 1) := by decide +kernel
set_option maxRecDepth 20000 in
theorem ggX9_isOne_X9_alsoOf : GoodIn wsX9_isOne wsX9_alsoOf := goodIn_r _ [5, 1] (by decide +kernel) (by decide +kernel)
set_option maxRecDepth 20000 in
theorem gX9_isOne_X9_alsoOf : GoodIn wsX9_isOne (va_wsS RX9 15 yX9_alsoOf wsX9_alsoOf) := goodIn_app (goodIn_of _ (by decide +kernel)) ggX9_isOne_X9_alsoOf
theorem dX9_isOne_0 : decode cX9_isOne 0 = .ok (.iload_n 0, 1) := by decide +kernel
theorem dX9_isOne_1 : decode cX9_isOne 1 = .ok (.istore_n 2, 1) := by decide +kernel
theorem dX9_isOne_2 : decode cX9_isOne 2 = .ok (.iconst 0, 1) := by decide +kernel
theorem dX9_isOne_3 : decode cX9_isOne 3 = .ok (.istore_n 3, 1) := by decide +kernel
theorem dX9_isOne_4 : decode cX9_isOne 4 = .ok (.iload_n 3, 1) := by decide +kernel
theorem dX9_isOne_5 : decode cX9_isOne 5 = .ok (.getstatic 9, 3) := by decide +kernel
theorem dX9_isOne_8 : decode cX9_isOne 8 = .ok (.arraylength, 1) := by decide +kernel
theorem dX9_isOne_9 : decode cX9_isOne 9 = .ok (.if_icmp .ge 26, 3) := by decide +kernel
theorem dX9_isOne_12 : decode cX9_isOne 12 = .ok (.iload_n 2, 1) := by decide +kernel
theorem dX9_isOne_13 : decode cX9_isOne 13 = .ok (.iconst (-1), 1) := by decide +kernel
theorem dX9_isOne_14 : decode cX9_isOne 14 = .ok (.if_icmp .eq 21, 3) := by decide +kernel
theorem dX9_isOne_17 : decode cX9_isOne 17 = .ok (.iload_n 2, 1) := by decide +kernel
theorem dX9_isOne_18 : decode cX9_isOne 18 = .ok (.iload_n 1, 1) := by decide +kernel
theorem dX9_isOne_19 : decode cX9_isOne 19 = .ok (.if_icmp .ne 5, 3) := by decide +kernel
theorem dX9_isOne_22 : decode cX9_isOne 22 = .ok (.iconst 1, 1) := by decide +kernel
theorem dX9_isOne_23 : decode cX9_isOne 23 = .ok (.ireturn, 1) := by decide +kernel
theorem dX9_isOne_24 : decode cX9_isOne 24 = .ok (.iload_n 2, 1) := by decide +kernel
theorem dX9_isOne_25 : decode cX9_isOne 25 = .ok (.invokestatic 15, 3) := by decide +kernel
theorem dX9_isOne_28 : decode cX9_isOne 28 = .ok (.istore_n 2, 1) := by decide +kernel
theorem dX9_isOne_29 : decode cX9_isOne 29 = .ok (.iinc 3 1, 3) := by decide +kernel
theorem dX9_isOne_32 : decode cX9_isOne 32 = .ok (.goto (-28), 3) := by decide +kernel
theorem dX9_isOne_35 : decode cX9_isOne 35 = .ok (.iconst 0, 1) := by decide +kernel
theorem dX9_isOne_36 : decode cX9_isOne 36 = .ok (.ireturn, 1) := by decide +kernel
set_option maxRecDepth 20000 in
theorem ggX9_guessBy_X9_meanOf : GoodIn wsX9_guessBy wsX9_meanOf := goodIn_r _ [11] (by decide +kernel) (by decide +kernel)
set_option maxRecDepth 20000 in
theorem gX9_guessBy_X9_meanOf : GoodIn wsX9_guessBy (va_wsS RX9 19 yX9_meanOf wsX9_meanOf) := goodIn_app (goodIn_of _ (by decide +kernel)) ggX9_guessBy_X9_meanOf
theorem dX9_guessBy_0 : decode cX9_guessBy 0 = .ok (.iconst 0, 1) := by decide +kernel
theorem dX9_guessBy_1 : decode cX9_guessBy 1 = .ok (.istore 6, 2) := by decide +kernel
theorem dX9_guessBy_3 : decode cX9_guessBy 3 = .ok (.iload_n 0, 1) := by decide +kernel
theorem dX9_guessBy_4 : decode cX9_guessBy 4 = .ok (.tableswitch 94 1 5 #[36, 42, 55, 70, 87], 36) := by decide +kernel
theorem dX9_guessBy_40 : decode cX9_guessBy 40 = .ok (.iload_n 2, 1) := by decide +kernel
theorem dX9_guessBy_41 : decode cX9_guessBy 41 = .ok (.istore 6, 2) := by decide +kernel
theorem dX9_guessBy_43 : decode cX9_guessBy 43 = .ok (.goto 55, 3) := by decide +kernel
theorem dX9_guessBy_46 : decode cX9_guessBy 46 = .ok (.iload_n 1, 1) := by decide +kernel
theorem dX9_guessBy_47 : decode cX9_guessBy 47 = .ok (.iload_n 2, 1) := by decide +kernel
theorem dX9_guessBy_48 : decode cX9_guessBy 48 = .ok (.iload_n 3, 1) := by decide +kernel
theorem dX9_guessBy_49 : decode cX9_guessBy 49 = .ok (.iload 4, 2) := by decide +kernel
theorem dX9_guessBy_51 : decode cX9_guessBy 51 = .ok (.invokestatic 19, 3) := by decide +kernel
theorem dX9_guessBy_54 : decode cX9_guessBy 54 = .ok (.istore 6, 2) := by decide +kernel
theorem dX9_guessBy_56 : decode cX9_guessBy 56 = .ok (.goto 42, 3) := by decide +kernel
theorem dX9_guessBy_59 : decode cX9_guessBy 59 = .ok (.iload_n 2, 1) := by decide +kernel
theorem dX9_guessBy_60 : decode cX9_guessBy 60 = .ok (.iload_n 2, 1) := by decide +kernel
theorem dX9_guessBy_61 : decode cX9_guessBy 61 = .ok (.iload_n 3, 1) := by decide +kernel
theorem dX9_guessBy_62 : decode cX9_guessBy 62 = .ok (.isub, 1) := by decide +kernel
theorem dX9_guessBy_63 : decode cX9_guessBy 63 = .ok (.iload_n 1, 1) := by decide +kernel
theorem dX9_guessBy_64 : decode cX9_guessBy 64 = .ok (.imul, 1) := by decide +kernel
theorem dX9_guessBy_65 : decode cX9_guessBy 65 = .ok (.bipush 10, 2) := by decide +kernel
theorem dX9_guessBy_67 : decode cX9_guessBy 67 = .ok (.idiv, 1) := by decide +kernel
theorem dX9_guessBy_68 : decode cX9_guessBy 68 = .ok (.iadd, 1) := by decide +kernel
theorem dX9_guessBy_69 : decode cX9_guessBy 69 = .ok (.istore 6, 2) := by decide +kernel
theorem dX9_guessBy_71 : decode cX9_guessBy 71 = .ok (.goto 27, 3) := by decide +kernel
theorem dX9_guessBy_74 : decode cX9_guessBy 74 = .ok (.iconst 2, 1) := by decide +kernel
theorem dX9_guessBy_75 : decode cX9_guessBy 75 = .ok (.iload_n 2, 1) := by decide +kernel
theorem dX9_guessBy_76 : decode cX9_guessBy 76 = .ok (.iload_n 3, 1) := by decide +kernel
theorem dX9_guessBy_77 : decode cX9_guessBy 77 = .ok (.iadd, 1) := by decide +kernel
theorem dX9_guessBy_78 : decode cX9_guessBy 78 = .ok (.iload 4, 2) := by decide +kernel
theorem dX9_guessBy_80 : decode cX9_guessBy 80 = .ok (.iadd, 1) := by decide +kernel
theorem dX9_guessBy_81 : decode cX9_guessBy 81 = .ok (.iconst 3, 1) := by decide +kernel
theorem dX9_guessBy_82 : decode cX9_guessBy 82 = .ok (.idiv, 1) := by decide +kernel
theorem dX9_guessBy_83 : decode cX9_guessBy 83 = .ok (.imul, 1) := by decide +kernel
theorem dX9_guessBy_84 : decode cX9_guessBy 84 = .ok (.iload_n 2, 1) := by decide +kernel
theorem dX9_guessBy_85 : decode cX9_guessBy 85 = .ok (.isub, 1) := by decide +kernel
theorem dX9_guessBy_86 : decode cX9_guessBy 86 = .ok (.istore 6, 2) := by decide +kernel
theorem dX9_guessBy_88 : decode cX9_guessBy 88 = .ok (.goto 10, 3) := by decide +kernel
theorem dX9_guessBy_91 : decode cX9_guessBy 91 = .ok (.iload 5, 2) := by decide +kernel
theorem dX9_guessBy_93 : decode cX9_guessBy 93 = .ok (.istore 6, 2) := by decide +kernel
theorem dX9_guessBy_95 : decode cX9_guessBy 95 = .ok (.goto 3, 3) := by decide +kernel
theorem dX9_guessBy_98 : decode cX9_guessBy 98 = .ok (.iconst 0, 1) := by decide +kernel
theorem dX9_guessBy_99 : decode cX9_guessBy 99 = .ok (.bipush 99, 2) := by decide +kernel
theorem dX9_guessBy_101 : decode cX9_guessBy 101 = .ok (.iload 6, 2) := by decide +kernel
theorem dX9_guessBy_103 : decode cX9_guessBy 103 = .ok (.invokestatic 23, 3) := by decide +kernel
theorem dX9_guessBy_106 : decode cX9_guessBy 106 = .ok (.invokestatic 29, 3) := by decide +kernel
theorem dX9_guessBy_109 : decode cX9_guessBy 109 = .ok (.ireturn, 1) := by decide +kernel
theorem dX9_meanOf_0 : decode cX9_meanOf 0 = .ok (.iload_n 0, 1) := by decide +kernel
theorem dX9_meanOf_1 : decode cX9_meanOf 1 = .ok (.iconst 1, 1) := by decide +kernel
theorem dX9_meanOf_2 : decode cX9_meanOf 2 = .ok (.if_icmp .ne 5, 3) := by decide +kernel
theorem dX9_meanOf_5 : decode cX9_meanOf 5 = .ok (.iload_n 1, 1) := by decide +kernel
theorem dX9_meanOf_6 : decode cX9_meanOf 6 = .ok (.ireturn, 1) := by decide +kernel
theorem dX9_meanOf_7 : decode cX9_meanOf 7 = .ok (.iload_n 0, 1) := by decide +kernel
theorem dX9_meanOf_8 : decode cX9_meanOf 8 = .ok (.iconst 2, 1) := by decide +kernel
theorem dX9_meanOf_9 : decode cX9_meanOf 9 = .ok (.if_icmp .ne 11, 3) := by decide +kernel
theorem dX9_meanOf_12 : decode cX9_meanOf 12 = .ok (.iload_n 1, 1) := by decide +kernel
theorem dX9_meanOf_13 : decode cX9_meanOf 13 = .ok (.iload_n 2, 1) := by decide +kernel
theorem dX9_meanOf_14 : decode cX9_meanOf 14 = .ok (.iadd, 1) := by decide +kernel
theorem dX9_meanOf_15 : decode cX9_meanOf 15 = .ok (.iconst 2, 1) := by decide +kernel
theorem dX9_meanOf_16 : decode cX9_meanOf 16 = .ok (.idiv, 1) := by decide +kernel
theorem dX9_meanOf_17 : decode cX9_meanOf 17 = .ok (.goto 10, 3) := by decide +kernel
theorem dX9_meanOf_20 : decode cX9_meanOf 20 = .ok (.iload_n 1, 1) := by decide +kernel
theorem dX9_meanOf_21 : decode cX9_meanOf 21 = .ok (.iload_n 2, 1) := by decide +kernel
theorem dX9_meanOf_22 : decode cX9_meanOf 22 = .ok (.iadd, 1) := by decide +kernel
theorem dX9_meanOf_23 : decode cX9_meanOf 23 = .ok (.iload_n 3, 1) := by decide +kernel
theorem dX9_meanOf_24 : decode cX9_meanOf 24 = .ok (.iadd, 1) := by decide +kernel
theorem dX9_meanOf_25 : decode cX9_meanOf 25 = .ok (.iconst 3, 1) := by decide +kernel
theorem dX9_meanOf_26 : decode cX9_meanOf 26 = .ok (.idiv, 1) := by decide +kernel
theorem dX9_meanOf_27 : decode cX9_meanOf 27 = .ok (.ireturn, 1) := by decide +kernel
set_option maxRecDepth 20000 in
theorem ggX10_init_X7_init : GoodIn wsX10_init wsX7_init := goodIn_r _ [33, 34, 2, 3, 35, 36, 37, 129, 130] (by decide +kernel) (by decide +kernel)
set_option maxRecDepth 20000 in
theorem gX10_init_X7_init_n17 : GoodIn wsX10_init (wsX7_init) := ggX10_init_X7_init
set_option maxRecDepth 20000 in
theorem ggX10_init_X4_init : GoodIn wsX10_init wsX4_init := goodIn_r _ [40, 41, 2, 3, 42, 43, 44, 45, 46, 47, 48, 49, 131, 132, 133, 134, 135, 136, 137] (by decide +kernel) (by decide +kernel)
set_option maxRecDepth 20000 in
theorem gX10_init_X4_init : GoodIn wsX10_init (wsX4_init) := ggX10_init_X4_init
set_option maxRecDepth 20000 in
theorem ggX10_init_X8_init : GoodIn wsX10_init wsX8_init := goodIn_r _ [51, 52, 2, 3, 53, 23, 24, 54, 42, 55, 56, 57, 58, 59, 60, 61, 62, 63, 64, 65, 66, 67, 68, 69, 70, 71, 72, 73, 74, 75, 76, 77, 78, 79, 80, 81, 82, 83, 84, 85, 86, 87, 88, 89, 90, 91, 92, 93, 94, 95, 96, 97, 98, 99, 100, 149, 150, 151, 152, 153, 154, 155, 156, 157, 158, 159, 160, 138, 139, 140, 141, 165, 166, 167, 168, 169, 170, 171, 172, 173, 174, 175, 176, 177, 178] (by decide +kernel) (by decide +kernel)
set_option maxRecDepth 20000 in
theorem gX10_init_X8_init_n33 : GoodIn wsX10_init (wsX8_init) := ggX10_init_X8_init
set_option maxRecDepth 20000 in
theorem ggX10_init_X0_init : GoodIn wsX10_init wsX0_init := goodIn_r _ [102, 103, 2, 3, 42, 104, 105, 106, 107, 108, 109, 110, 142, 143, 144, 145, 146, 147, 148] (by decide +kernel) (by decide +kernel)
set_option maxRecDepth 20000 in
theorem gX10_init_X0_init_n40 : GoodIn wsX10_init (wsX0_init) := ggX10_init_X0_init
set_option maxRecDepth 20000 in
theorem ggX10_init_X2_init : GoodIn wsX10_init wsX2_init := goodIn_r _ [61, 62, 2, 3, 63, 64, 65, 66, 67, 68, 69, 70, 71, 72, 73, 74, 75, 76, 77, 78, 79, 80, 81, 82, 83, 84, 85, 86, 87, 88, 89, 90, 91, 92, 93, 94, 95, 96, 97, 98, 99, 100, 149, 150, 151, 152, 153, 154, 155, 156, 157, 158, 159, 160, 165, 166, 167, 168, 169, 170, 171, 172, 173, 174, 175, 176, 177, 178] (by decide +kernel) (by decide +kernel)
set_option maxRecDepth 20000 in
theorem gX10_init_X2_init : GoodIn wsX10_init (wsX2_init) := ggX10_init_X2_init
set_option maxRecDepth 20000 in
theorem ggX10_init_X6_init : GoodIn wsX10_init wsX6_init := goodIn_r _ [113, 114, 2, 3, 42, 115, 116, 117, 118, 161, 162, 163, 164] (by decide +kernel) (by decide +kernel)
set_option maxRecDepth 20000 in
theorem gX10_init_X6_init_n66 : GoodIn wsX10_init (wsX6_init) := ggX10_init_X6_init
theorem dX10_init_0 : decode cX10_init 0 = .ok (.aload_n 0, 1) := by decide +kernel
theorem dX10_init_1 : decode cX10_init 1 = .ok (.invokespecial 1, 3) := by decide +kernel
theorem dX10_init_4 : decode cX10_init 4 = .ok (.aload_n 0, 1) := by decide +kernel
theorem dX10_init_5 : decode cX10_init 5 = .ok (.bipush 8, 2) := by decide +kernel
theorem dX10_init_7 : decode cX10_init 7 = .ok (.anewarray 9, 3) := by decide +kernel
theorem dX10_init_10 : decode cX10_init 10 = .ok (.putfield 11, 3) := by decide +kernel
theorem dX10_init_13 : decode cX10_init 13 = .ok (.aload_n 0, 1) := by decide +kernel
theorem dX10_init_14 : decode cX10_init 14 = .ok (.new 15, 3) := by decide +kernel
theorem dX10_init_17 : decode cX10_init 17 = .ok (.dup, 1) := by decide +kernel
theorem dX10_init_18 : decode cX10_init 18 = .ok (.invokespecial 17, 3) := by decide +kernel
theorem dX10_init_21 : decode cX10_init 21 = .ok (.putfield 18, 3) := by decide +kernel
theorem dX10_init_24 : decode cX10_init 24 = .ok (.aload_n 0, 1) := by decide +kernel
theorem dX10_init_25 : decode cX10_init 25 = .ok (.new 22, 3) := by decide +kernel
theorem dX10_init_28 : decode cX10_init 28 = .ok (.dup, 1) := by decide +kernel
theorem dX10_init_29 : decode cX10_init 29 = .ok (.aload_n 0, 1) := by decide +kernel
theorem dX10_init_30 : decode cX10_init 30 = .ok (.getfield 18, 3) := by decide +kernel
theorem dX10_init_33 : decode cX10_init 33 = .ok (.invokespecial 24, 3) := by decide +kernel
theorem dX10_init_36 : decode cX10_init 36 = .ok (.putfield 27, 3) := by decide +kernel
theorem dX10_init_39 : decode cX10_init 39 = .ok (.aload_n 0, 1) := by decide +kernel
theorem dX10_init_40 : decode cX10_init 40 = .ok (.new 31, 3) := by decide +kernel
theorem dX10_init_43 : decode cX10_init 43 = .ok (.dup, 1) := by decide +kernel
theorem dX10_init_44 : decode cX10_init 44 = .ok (.invokespecial 33, 3) := by decide +kernel
theorem dX10_init_47 : decode cX10_init 47 = .ok (.putfield 34, 3) := by decide +kernel
theorem dX10_init_50 : decode cX10_init 50 = .ok (.aload_n 0, 1) := by decide +kernel
theorem dX10_init_51 : decode cX10_init 51 = .ok (.new 38, 3) := by decide +kernel
theorem dX10_init_54 : decode cX10_init 54 = .ok (.dup, 1) := by decide +kernel
theorem dX10_init_55 : decode cX10_init 55 = .ok (.invokespecial 40, 3) := by decide +kernel
theorem dX10_init_58 : decode cX10_init 58 = .ok (.putfield 41, 3) := by decide +kernel
theorem dX10_init_61 : decode cX10_init 61 = .ok (.aload_n 0, 1) := by decide +kernel
theorem dX10_init_62 : decode cX10_init 62 = .ok (.new 45, 3) := by decide +kernel
theorem dX10_init_65 : decode cX10_init 65 = .ok (.dup, 1) := by decide +kernel
theorem dX10_init_66 : decode cX10_init 66 = .ok (.invokespecial 47, 3) := by decide +kernel
theorem dX10_init_69 : decode cX10_init 69 = .ok (.putfield 48, 3) := by decide +kernel
theorem dX10_init_72 : decode cX10_init 72 = .ok (.aload_n 0, 1) := by decide +kernel
theorem dX10_init_73 : decode cX10_init 73 = .ok (.new 45, 3) := by decide +kernel
theorem dX10_init_76 : decode cX10_init 76 = .ok (.dup, 1) := by decide +kernel
theorem dX10_init_77 : decode cX10_init 77 = .ok (.invokespecial 47, 3) := by decide +kernel
theorem dX10_init_80 : decode cX10_init 80 = .ok (.putfield 52, 3) := by decide +kernel
theorem dX10_init_83 : decode cX10_init 83 = .ok (.aload_n 0, 1) := by decide +kernel
theorem dX10_init_84 : decode cX10_init 84 = .ok (.iconst 0, 1) := by decide +kernel
theorem dX10_init_85 : decode cX10_init 85 = .ok (.putfield 55, 3) := by decide +kernel
theorem dX10_init_88 : decode cX10_init 88 = .ok (.aload_n 0, 1) := by decide +kernel
theorem dX10_init_89 : decode cX10_init 89 = .ok (.iconst 0, 1) := by decide +kernel
theorem dX10_init_90 : decode cX10_init 90 = .ok (.putfield 59, 3) := by decide +kernel
theorem dX10_init_93 : decode cX10_init 93 = .ok (.aload_n 0, 1) := by decide +kernel
theorem dX10_init_94 : decode cX10_init 94 = .ok (.iconst 0, 1) := by decide +kernel
theorem dX10_init_95 : decode cX10_init 95 = .ok (.putfield 63, 3) := by decide +kernel
theorem dX10_init_98 : decode cX10_init 98 = .ok (.iconst 0, 1) := by decide +kernel
theorem dX10_init_99 : decode cX10_init 99 = .ok (.istore_n 1, 1) := by decide +kernel
theorem dX10_init_100 : decode cX10_init 100 = .ok (.iload_n 1, 1) := by decide +kernel
theorem dX10_init_101 : decode cX10_init 101 = .ok (.aload_n 0, 1) := by decide +kernel
theorem dX10_init_102 : decode cX10_init 102 = .ok (.getfield 11, 3) := by decide +kernel
theorem dX10_init_105 : decode cX10_init 105 = .ok (.arraylength, 1) := by decide +kernel
theorem dX10_init_106 : decode cX10_init 106 = .ok (.if_icmp .ge 22, 3) := by decide +kernel
theorem dX10_init_109 : decode cX10_init 109 = .ok (.aload_n 0, 1) := by decide +kernel
theorem dX10_init_110 : decode cX10_init 110 = .ok (.getfield 11, 3) := by decide +kernel
theorem dX10_init_113 : decode cX10_init 113 = .ok (.iload_n 1, 1) := by decide +kernel
theorem dX10_init_114 : decode cX10_init 114 = .ok (.new 9, 3) := by decide +kernel
theorem dX10_init_117 : decode cX10_init 117 = .ok (.dup, 1) := by decide +kernel
theorem dX10_init_118 : decode cX10_init 118 = .ok (.invokespecial 66, 3) := by decide +kernel
theorem dX10_init_121 : decode cX10_init 121 = .ok (.aastore, 1) := by decide +kernel
theorem dX10_init_122 : decode cX10_init 122 = .ok (.iinc 1 1, 3) := by decide +kernel
theorem dX10_init_125 : decode cX10_init 125 = .ok (.goto (-25), 3) := by decide +kernel
theorem dX10_init_128 : decode cX10_init 128 = .ok (.return_, 1) := by decide +kernel
set_option maxRecDepth 20000 in
theorem ggX10_sheet_X10_isSheet : GoodIn wsX10_sheet wsX10_isSheet := goodIn_r _ [7, 2, 31, 32, 33, 34, 35, 36, 37, 38, 39, 40] (by decide +kernel) (by decide +kernel)
set_option maxRecDepth 20000 in
theorem gX10_sheet_X10_isSheet : GoodIn wsX10_sheet (wsV RX10 67 RX10 yX10_isSheet wsX10_isSheet) := goodIn_app (goodIn_of _ (by decide +kernel)) ggX10_sheet_X10_isSheet
set_option maxRecDepth 20000 in
theorem ggX10_sheet_X10_found : GoodIn wsX10_sheet wsX10_found := goodIn_r _ [11, 12, 13, 31, 32, 33, 34, 35, 36, 37, 38, 39, 40] (by decide +kernel) (by decide +kernel)
set_option maxRecDepth 20000 in
theorem gX10_sheet_X10_found : GoodIn wsX10_sheet (wsV RX10 72 RX10 yX10_found wsX10_found) := goodIn_app (goodIn_of _ (by decide +kernel)) ggX10_sheet_X10_found
set_option maxRecDepth 20000 in
theorem ggX10_sheet_X6_begin : GoodIn wsX10_sheet wsX6_begin := goodIn_r _ [18, 19, 20, 21, 22, 23, 24, 25, 26, 41, 42, 43, 44] (by decide +kernel) (by decide +kernel)
set_option maxRecDepth 20000 in
theorem gX10_sheet_X6_begin : GoodIn wsX10_sheet (wsV RX10 76 RX6 yX6_begin wsX6_begin) := goodIn_app (goodIn_of _ (by decide +kernel)) ggX10_sheet_X6_begin
set_option maxRecDepth 20000 in
theorem ggX10_sheet_X10_foundNone : GoodIn wsX10_sheet wsX10_foundNone := goodIn_r _ [30, 12, 31, 32, 33, 34, 35, 36, 37, 38, 39, 40] (by decide +kernel) (by decide +kernel)
set_option maxRecDepth 20000 in
theorem gX10_sheet_X10_foundNone : GoodIn wsX10_sheet (wsV RX10 80 RX10 yX10_foundNone wsX10_foundNone) := goodIn_app (goodIn_of _ (by decide +kernel)) ggX10_sheet_X10_foundNone
theorem dX10_sheet_0 : decode cX10_sheet 0 = .ok (.aload_n 0, 1) := by decide +kernel
theorem dX10_sheet_1 : decode cX10_sheet 1 = .ok (.iload_n 1, 1) := by decide +kernel
theorem dX10_sheet_2 : decode cX10_sheet 2 = .ok (.invokevirtual 67, 3) := by decide +kernel
theorem dX10_sheet_5 : decode cX10_sheet 5 = .ok (.ifCond .eq 18, 3) := by decide +kernel
theorem dX10_sheet_8 : decode cX10_sheet 8 = .ok (.iload_n 2, 1) := by decide +kernel
theorem dX10_sheet_9 : decode cX10_sheet 9 = .ok (.ifCond .lt 14, 3) := by decide +kernel
theorem dX10_sheet_12 : decode cX10_sheet 12 = .ok (.iload_n 2, 1) := by decide +kernel
theorem dX10_sheet_13 : decode cX10_sheet 13 = .ok (.iconst 2, 1) := by decide +kernel
theorem dX10_sheet_14 : decode cX10_sheet 14 = .ok (.if_icmp .gt 9, 3) := by decide +kernel
theorem dX10_sheet_17 : decode cX10_sheet 17 = .ok (.iload_n 3, 1) := by decide +kernel
theorem dX10_sheet_18 : decode cX10_sheet 18 = .ok (.bipush 60, 2) := by decide +kernel
theorem dX10_sheet_20 : decode cX10_sheet 20 = .ok (.if_icmp .le 6, 3) := by decide +kernel
theorem dX10_sheet_23 : decode cX10_sheet 23 = .ok (.ldc 71, 2) := by decide +kernel
theorem dX10_sheet_25 : decode cX10_sheet 25 = .ok (.ireturn, 1) := by decide +kernel
theorem dX10_sheet_26 : decode cX10_sheet 26 = .ok (.iload_n 3, 1) := by decide +kernel
theorem dX10_sheet_27 : decode cX10_sheet 27 = .ok (.ifCond .ge 9, 3) := by decide +kernel
theorem dX10_sheet_30 : decode cX10_sheet 30 = .ok (.aload_n 0, 1) := by decide +kernel
theorem dX10_sheet_31 : decode cX10_sheet 31 = .ok (.iconst 4, 1) := by decide +kernel
theorem dX10_sheet_32 : decode cX10_sheet 32 = .ok (.invokevirtual 72, 3) := by decide +kernel
theorem dX10_sheet_35 : decode cX10_sheet 35 = .ok (.ireturn, 1) := by decide +kernel
theorem dX10_sheet_36 : decode cX10_sheet 36 = .ok (.aload_n 0, 1) := by decide +kernel
theorem dX10_sheet_37 : decode cX10_sheet 37 = .ok (.getfield 11, 3) := by decide +kernel
theorem dX10_sheet_40 : decode cX10_sheet 40 = .ok (.iload_n 1, 1) := by decide +kernel
theorem dX10_sheet_41 : decode cX10_sheet 41 = .ok (.aaload, 1) := by decide +kernel
theorem dX10_sheet_42 : decode cX10_sheet 42 = .ok (.iload_n 2, 1) := by decide +kernel
theorem dX10_sheet_43 : decode cX10_sheet 43 = .ok (.iload_n 3, 1) := by decide +kernel
theorem dX10_sheet_44 : decode cX10_sheet 44 = .ok (.invokevirtual 76, 3) := by decide +kernel
theorem dX10_sheet_47 : decode cX10_sheet 47 = .ok (.aload_n 0, 1) := by decide +kernel
theorem dX10_sheet_48 : decode cX10_sheet 48 = .ok (.iload_n 3, 1) := by decide +kernel
theorem dX10_sheet_49 : decode cX10_sheet 49 = .ok (.invokevirtual 80, 3) := by decide +kernel
theorem dX10_sheet_52 : decode cX10_sheet 52 = .ok (.ireturn, 1) := by decide +kernel
set_option maxRecDepth 20000 in
theorem ggX10_set_X10_isSheet : GoodIn wsX10_set wsX10_isSheet := goodIn_r _ [9, 2, 31, 32, 33, 34, 35, 36, 37, 38, 39, 40] (by decide +kernel) (by decide +kernel)
set_option maxRecDepth 20000 in
theorem gX10_set_X10_isSheet : GoodIn wsX10_set (wsV RX10 67 RX10 yX10_isSheet wsX10_isSheet) := goodIn_app (goodIn_of _ (by decide +kernel)) ggX10_set_X10_isSheet
set_option maxRecDepth 20000 in
theorem ggX10_set_X10_found : GoodIn wsX10_set wsX10_found := goodIn_r _ [13, 14, 15, 31, 32, 33, 34, 35, 36, 37, 38, 39, 40] (by decide +kernel) (by decide +kernel)
set_option maxRecDepth 20000 in
theorem gX10_set_X10_found : GoodIn wsX10_set (wsV RX10 72 RX10 yX10_found wsX10_found) := goodIn_app (goodIn_of _ (by decide +kernel)) ggX10_set_X10_found
set_option maxRecDepth 20000 in
theorem ggX10_set_X6_holds : GoodIn wsX10_set wsX6_holds := goodIn_r _ [20, 21, 41, 42, 43, 44] (by decide +kernel) (by decide +kernel)
set_option maxRecDepth 20000 in
theorem gX10_set_X6_holds : GoodIn wsX10_set (wsV RX10 86 RX6 yX6_holds wsX6_holds) := goodIn_app (goodIn_of _ (by decide +kernel)) ggX10_set_X6_holds
set_option maxRecDepth 20000 in
theorem ggX10_set_X6_cutToLane : GoodIn wsX10_set wsX6_cutToLane := goodIn_r _ [25, 26, 41, 42, 43, 44] (by decide +kernel) (by decide +kernel)
set_option maxRecDepth 20000 in
theorem gX10_set_X6_cutToLane : GoodIn wsX10_set (wsV RX10 94 RX6 yX6_cutToLane wsX6_cutToLane) := goodIn_app (goodIn_of _ (by decide +kernel)) ggX10_set_X6_cutToLane
set_option maxRecDepth 20000 in
theorem ggX10_set_X10_foundNone : GoodIn wsX10_set wsX10_foundNone := goodIn_r _ [30, 14, 31, 32, 33, 34, 35, 36, 37, 38, 39, 40] (by decide +kernel) (by decide +kernel)
set_option maxRecDepth 20000 in
theorem gX10_set_X10_foundNone : GoodIn wsX10_set (wsV RX10 80 RX10 yX10_foundNone wsX10_foundNone) := goodIn_app (goodIn_of _ (by decide +kernel)) ggX10_set_X10_foundNone
theorem dX10_set_0 : decode cX10_set 0 = .ok (.aload_n 0, 1) := by decide +kernel
theorem dX10_set_1 : decode cX10_set 1 = .ok (.iload_n 1, 1) := by decide +kernel
theorem dX10_set_2 : decode cX10_set 2 = .ok (.invokevirtual 67, 3) := by decide +kernel
theorem dX10_set_5 : decode cX10_set 5 = .ok (.ifCond .ne 6, 3) := by decide +kernel
theorem dX10_set_8 : decode cX10_set 8 = .ok (.ldc 71, 2) := by decide +kernel
theorem dX10_set_10 : decode cX10_set 10 = .ok (.ireturn, 1) := by decide +kernel
theorem dX10_set_11 : decode cX10_set 11 = .ok (.aload_n 0, 1) := by decide +kernel
theorem dX10_set_12 : decode cX10_set 12 = .ok (.getfield 11, 3) := by decide +kernel
theorem dX10_set_15 : decode cX10_set 15 = .ok (.iload_n 1, 1) := by decide +kernel
theorem dX10_set_16 : decode cX10_set 16 = .ok (.aaload, 1) := by decide +kernel
theorem dX10_set_17 : decode cX10_set 17 = .ok (.astore 4, 2) := by decide +kernel
theorem dX10_set_19 : decode cX10_set 19 = .ok (.aload 4, 2) := by decide +kernel
theorem dX10_set_21 : decode cX10_set 21 = .ok (.getfield 83, 3) := by decide +kernel
theorem dX10_set_24 : decode cX10_set 24 = .ok (.ifCond .eq 9, 3) := by decide +kernel
theorem dX10_set_27 : decode cX10_set 27 = .ok (.aload_n 0, 1) := by decide +kernel
theorem dX10_set_28 : decode cX10_set 28 = .ok (.iconst 1, 1) := by decide +kernel
theorem dX10_set_29 : decode cX10_set 29 = .ok (.invokevirtual 72, 3) := by decide +kernel
theorem dX10_set_32 : decode cX10_set 32 = .ok (.ireturn, 1) := by decide +kernel
theorem dX10_set_33 : decode cX10_set 33 = .ok (.aload 4, 2) := by decide +kernel
theorem dX10_set_35 : decode cX10_set 35 = .ok (.iload_n 2, 1) := by decide +kernel
theorem dX10_set_36 : decode cX10_set 36 = .ok (.iconst 1, 1) := by decide +kernel
theorem dX10_set_37 : decode cX10_set 37 = .ok (.invokevirtual 86, 3) := by decide +kernel
theorem dX10_set_40 : decode cX10_set 40 = .ok (.ifCond .ne 9, 3) := by decide +kernel
theorem dX10_set_43 : decode cX10_set 43 = .ok (.aload_n 0, 1) := by decide +kernel
theorem dX10_set_44 : decode cX10_set 44 = .ok (.iconst 2, 1) := by decide +kernel
theorem dX10_set_45 : decode cX10_set 45 = .ok (.invokevirtual 72, 3) := by decide +kernel
theorem dX10_set_48 : decode cX10_set 48 = .ok (.ireturn, 1) := by decide +kernel
theorem dX10_set_49 : decode cX10_set 49 = .ok (.aload 4, 2) := by decide +kernel
theorem dX10_set_51 : decode cX10_set 51 = .ok (.getfield 90, 3) := by decide +kernel
theorem dX10_set_54 : decode cX10_set 54 = .ok (.iload_n 2, 1) := by decide +kernel
theorem dX10_set_55 : decode cX10_set 55 = .ok (.aload 4, 2) := by decide +kernel
theorem dX10_set_57 : decode cX10_set 57 = .ok (.iload_n 3, 1) := by decide +kernel
theorem dX10_set_58 : decode cX10_set 58 = .ok (.invokevirtual 94, 3) := by decide +kernel
theorem dX10_set_61 : decode cX10_set 61 = .ok (.iastore, 1) := by decide +kernel
theorem dX10_set_62 : decode cX10_set 62 = .ok (.aload_n 0, 1) := by decide +kernel
theorem dX10_set_63 : decode cX10_set 63 = .ok (.aload 4, 2) := by decide +kernel
theorem dX10_set_65 : decode cX10_set 65 = .ok (.getfield 90, 3) := by decide +kernel
theorem dX10_set_68 : decode cX10_set 68 = .ok (.iload_n 2, 1) := by decide +kernel
theorem dX10_set_69 : decode cX10_set 69 = .ok (.iaload, 1) := by decide +kernel
theorem dX10_set_70 : decode cX10_set 70 = .ok (.invokevirtual 80, 3) := by decide +kernel
theorem dX10_set_73 : decode cX10_set 73 = .ok (.ireturn, 1) := by decide +kernel
set_option maxRecDepth 20000 in
theorem ggX10_copy_X10_isSheet : GoodIn wsX10_copy wsX10_isSheet := goodIn_r _ [14, 2, 31, 32, 33, 34, 35, 36, 37, 38, 39, 40] (by decide +kernel) (by decide +kernel)
set_option maxRecDepth 20000 in
theorem gX10_copy_X10_isSheet : GoodIn wsX10_copy (wsV RX10 67 RX10 yX10_isSheet wsX10_isSheet) := goodIn_app (goodIn_of _ (by decide +kernel)) ggX10_copy_X10_isSheet
set_option maxRecDepth 20000 in
theorem ggX10_copy_X10_found : GoodIn wsX10_copy wsX10_found := goodIn_r _ [18, 19, 20, 31, 32, 33, 34, 35, 36, 37, 38, 39, 40] (by decide +kernel) (by decide +kernel)
set_option maxRecDepth 20000 in
theorem gX10_copy_X10_found : GoodIn wsX10_copy (wsV RX10 72 RX10 yX10_found wsX10_found) := goodIn_app (goodIn_of _ (by decide +kernel)) ggX10_copy_X10_found
set_option maxRecDepth 20000 in
theorem ggX10_copy_X6_holds : GoodIn wsX10_copy wsX6_holds := goodIn_r _ [25, 26, 41, 42, 43, 44] (by decide +kernel) (by decide +kernel)
set_option maxRecDepth 20000 in
theorem gX10_copy_X6_holds : GoodIn wsX10_copy (wsV RX10 86 RX6 yX6_holds wsX6_holds) := goodIn_app (goodIn_of _ (by decide +kernel)) ggX10_copy_X6_holds
set_option maxRecDepth 20000 in
theorem ggX10_copy_X10_foundNone : GoodIn wsX10_copy wsX10_foundNone := goodIn_r _ [30, 19, 31, 32, 33, 34, 35, 36, 37, 38, 39, 40] (by decide +kernel) (by decide +kernel)
set_option maxRecDepth 20000 in
theorem gX10_copy_X10_foundNone : GoodIn wsX10_copy (wsV RX10 80 RX10 yX10_foundNone wsX10_foundNone) := goodIn_app (goodIn_of _ (by decide +kernel)) ggX10_copy_X10_foundNone
theorem dX10_copy_0 : decode cX10_copy 0 = .ok (.aload_n 0, 1) := by decide +kernel
theorem dX10_copy_1 : decode cX10_copy 1 = .ok (.iload_n 1, 1) := by decide +kernel
theorem dX10_copy_2 : decode cX10_copy 2 = .ok (.invokevirtual 67, 3) := by decide +kernel
theorem dX10_copy_5 : decode cX10_copy 5 = .ok (.ifCond .eq 11, 3) := by decide +kernel
theorem dX10_copy_8 : decode cX10_copy 8 = .ok (.aload_n 0, 1) := by decide +kernel
theorem dX10_copy_9 : decode cX10_copy 9 = .ok (.iload_n 3, 1) := by decide +kernel
theorem dX10_copy_10 : decode cX10_copy 10 = .ok (.invokevirtual 67, 3) := by decide +kernel
theorem dX10_copy_13 : decode cX10_copy 13 = .ok (.ifCond .ne 6, 3) := by decide +kernel
theorem dX10_copy_16 : decode cX10_copy 16 = .ok (.ldc 71, 2) := by decide +kernel
theorem dX10_copy_18 : decode cX10_copy 18 = .ok (.ireturn, 1) := by decide +kernel
theorem dX10_copy_19 : decode cX10_copy 19 = .ok (.aload_n 0, 1) := by decide +kernel
theorem dX10_copy_20 : decode cX10_copy 20 = .ok (.getfield 11, 3) := by decide +kernel
theorem dX10_copy_23 : decode cX10_copy 23 = .ok (.iload_n 1, 1) := by decide +kernel
theorem dX10_copy_24 : decode cX10_copy 24 = .ok (.aaload, 1) := by decide +kernel
theorem dX10_copy_25 : decode cX10_copy 25 = .ok (.astore 6, 2) := by decide +kernel
theorem dX10_copy_27 : decode cX10_copy 27 = .ok (.aload_n 0, 1) := by decide +kernel
theorem dX10_copy_28 : decode cX10_copy 28 = .ok (.getfield 11, 3) := by decide +kernel
theorem dX10_copy_31 : decode cX10_copy 31 = .ok (.iload_n 3, 1) := by decide +kernel
theorem dX10_copy_32 : decode cX10_copy 32 = .ok (.aaload, 1) := by decide +kernel
theorem dX10_copy_33 : decode cX10_copy 33 = .ok (.astore 7, 2) := by decide +kernel
theorem dX10_copy_35 : decode cX10_copy 35 = .ok (.aload 6, 2) := by decide +kernel
theorem dX10_copy_37 : decode cX10_copy 37 = .ok (.getfield 83, 3) := by decide +kernel
theorem dX10_copy_40 : decode cX10_copy 40 = .ok (.ifCond .ne 11, 3) := by decide +kernel
theorem dX10_copy_43 : decode cX10_copy 43 = .ok (.aload 7, 2) := by decide +kernel
theorem dX10_copy_45 : decode cX10_copy 45 = .ok (.getfield 83, 3) := by decide +kernel
theorem dX10_copy_48 : decode cX10_copy 48 = .ok (.ifCond .eq 9, 3) := by decide +kernel
theorem dX10_copy_51 : decode cX10_copy 51 = .ok (.aload_n 0, 1) := by decide +kernel
theorem dX10_copy_52 : decode cX10_copy 52 = .ok (.iconst 1, 1) := by decide +kernel
theorem dX10_copy_53 : decode cX10_copy 53 = .ok (.invokevirtual 72, 3) := by decide +kernel
theorem dX10_copy_56 : decode cX10_copy 56 = .ok (.ireturn, 1) := by decide +kernel
theorem dX10_copy_57 : decode cX10_copy 57 = .ok (.aload 6, 2) := by decide +kernel
theorem dX10_copy_59 : decode cX10_copy 59 = .ok (.getfield 97, 3) := by decide +kernel
theorem dX10_copy_62 : decode cX10_copy 62 = .ok (.aload 7, 2) := by decide +kernel
theorem dX10_copy_64 : decode cX10_copy 64 = .ok (.getfield 97, 3) := by decide +kernel
theorem dX10_copy_67 : decode cX10_copy 67 = .ok (.if_icmp .eq 9, 3) := by decide +kernel
theorem dX10_copy_70 : decode cX10_copy 70 = .ok (.aload_n 0, 1) := by decide +kernel
theorem dX10_copy_71 : decode cX10_copy 71 = .ok (.iconst 5, 1) := by decide +kernel
theorem dX10_copy_72 : decode cX10_copy 72 = .ok (.invokevirtual 72, 3) := by decide +kernel
theorem dX10_copy_75 : decode cX10_copy 75 = .ok (.ireturn, 1) := by decide +kernel
theorem dX10_copy_76 : decode cX10_copy 76 = .ok (.aload 6, 2) := by decide +kernel
theorem dX10_copy_78 : decode cX10_copy 78 = .ok (.iload_n 2, 1) := by decide +kernel
theorem dX10_copy_79 : decode cX10_copy 79 = .ok (.iload 5, 2) := by decide +kernel
theorem dX10_copy_81 : decode cX10_copy 81 = .ok (.invokevirtual 86, 3) := by decide +kernel
theorem dX10_copy_84 : decode cX10_copy 84 = .ok (.ifCond .eq 15, 3) := by decide +kernel
theorem dX10_copy_87 : decode cX10_copy 87 = .ok (.aload 7, 2) := by decide +kernel
theorem dX10_copy_89 : decode cX10_copy 89 = .ok (.iload 4, 2) := by decide +kernel
theorem dX10_copy_91 : decode cX10_copy 91 = .ok (.iload 5, 2) := by decide +kernel
theorem dX10_copy_93 : decode cX10_copy 93 = .ok (.invokevirtual 86, 3) := by decide +kernel
theorem dX10_copy_96 : decode cX10_copy 96 = .ok (.ifCond .ne 9, 3) := by decide +kernel
theorem dX10_copy_99 : decode cX10_copy 99 = .ok (.aload_n 0, 1) := by decide +kernel
theorem dX10_copy_100 : decode cX10_copy 100 = .ok (.iconst 2, 1) := by decide +kernel
theorem dX10_copy_101 : decode cX10_copy 101 = .ok (.invokevirtual 72, 3) := by decide +kernel
theorem dX10_copy_104 : decode cX10_copy 104 = .ok (.ireturn, 1) := by decide +kernel
theorem dX10_copy_105 : decode cX10_copy 105 = .ok (.aload 6, 2) := by decide +kernel
theorem dX10_copy_107 : decode cX10_copy 107 = .ok (.getfield 90, 3) := by decide +kernel
theorem dX10_copy_110 : decode cX10_copy 110 = .ok (.iload_n 2, 1) := by decide +kernel
theorem dX10_copy_111 : decode cX10_copy 111 = .ok (.aload 7, 2) := by decide +kernel
theorem dX10_copy_113 : decode cX10_copy 113 = .ok (.getfield 90, 3) := by decide +kernel
theorem dX10_copy_116 : decode cX10_copy 116 = .ok (.iload 4, 2) := by decide +kernel
theorem dX10_copy_118 : decode cX10_copy 118 = .ok (.iload 5, 2) := by decide +kernel
theorem dX10_copy_120 : decode cX10_copy 120 = .ok (.invokestatic 100, 3) := by decide +kernel
theorem dX10_copy_123 : decode cX10_copy 123 = .ok (.aload_n 0, 1) := by decide +kernel
theorem dX10_copy_124 : decode cX10_copy 124 = .ok (.iload 5, 2) := by decide +kernel
theorem dX10_copy_126 : decode cX10_copy 126 = .ok (.invokevirtual 80, 3) := by decide +kernel
theorem dX10_copy_129 : decode cX10_copy 129 = .ok (.ireturn, 1) := by decide +kernel
set_option maxRecDepth 20000 in
theorem ggX10_drop_X10_isSheet : GoodIn wsX10_drop wsX10_isSheet := goodIn_r _ [9, 2, 20, 21, 22, 23, 24, 25, 26, 27, 28, 29] (by decide +kernel) (by decide +kernel)
set_option maxRecDepth 20000 in
theorem gX10_drop_X10_isSheet : GoodIn wsX10_drop (wsV RX10 67 RX10 yX10_isSheet wsX10_isSheet) := goodIn_app (goodIn_of _ (by decide +kernel)) ggX10_drop_X10_isSheet
set_option maxRecDepth 20000 in
theorem ggX10_drop_X10_found : GoodIn wsX10_drop wsX10_found := goodIn_r _ [13, 14, 15, 20, 21, 22, 23, 24, 25, 26, 27, 28, 29] (by decide +kernel) (by decide +kernel)
set_option maxRecDepth 20000 in
theorem gX10_drop_X10_found : GoodIn wsX10_drop (wsV RX10 72 RX10 yX10_found wsX10_found) := goodIn_app (goodIn_of _ (by decide +kernel)) ggX10_drop_X10_found
set_option maxRecDepth 20000 in
theorem ggX10_drop_X10_foundNone : GoodIn wsX10_drop wsX10_foundNone := goodIn_r _ [19, 14, 20, 21, 22, 23, 24, 25, 26, 27, 28, 29] (by decide +kernel) (by decide +kernel)
set_option maxRecDepth 20000 in
theorem gX10_drop_X10_foundNone : GoodIn wsX10_drop (wsV RX10 80 RX10 yX10_foundNone wsX10_foundNone) := goodIn_app (goodIn_of _ (by decide +kernel)) ggX10_drop_X10_foundNone
theorem dX10_drop_0 : decode cX10_drop 0 = .ok (.aload_n 0, 1) := by decide +kernel
theorem dX10_drop_1 : decode cX10_drop 1 = .ok (.iload_n 1, 1) := by decide +kernel
theorem dX10_drop_2 : decode cX10_drop 2 = .ok (.invokevirtual 67, 3) := by decide +kernel
theorem dX10_drop_5 : decode cX10_drop 5 = .ok (.ifCond .ne 6, 3) := by decide +kernel
theorem dX10_drop_8 : decode cX10_drop 8 = .ok (.ldc 71, 2) := by decide +kernel
theorem dX10_drop_10 : decode cX10_drop 10 = .ok (.ireturn, 1) := by decide +kernel
theorem dX10_drop_11 : decode cX10_drop 11 = .ok (.aload_n 0, 1) := by decide +kernel
theorem dX10_drop_12 : decode cX10_drop 12 = .ok (.getfield 11, 3) := by decide +kernel
theorem dX10_drop_15 : decode cX10_drop 15 = .ok (.iload_n 1, 1) := by decide +kernel
theorem dX10_drop_16 : decode cX10_drop 16 = .ok (.aaload, 1) := by decide +kernel
theorem dX10_drop_17 : decode cX10_drop 17 = .ok (.getfield 83, 3) := by decide +kernel
theorem dX10_drop_20 : decode cX10_drop 20 = .ok (.ifCond .eq 9, 3) := by decide +kernel
theorem dX10_drop_23 : decode cX10_drop 23 = .ok (.aload_n 0, 1) := by decide +kernel
theorem dX10_drop_24 : decode cX10_drop 24 = .ok (.iconst 1, 1) := by decide +kernel
theorem dX10_drop_25 : decode cX10_drop 25 = .ok (.invokevirtual 72, 3) := by decide +kernel
theorem dX10_drop_28 : decode cX10_drop 28 = .ok (.ireturn, 1) := by decide +kernel
theorem dX10_drop_29 : decode cX10_drop 29 = .ok (.aload_n 0, 1) := by decide +kernel
theorem dX10_drop_30 : decode cX10_drop 30 = .ok (.getfield 11, 3) := by decide +kernel
theorem dX10_drop_33 : decode cX10_drop 33 = .ok (.iload_n 1, 1) := by decide +kernel
theorem dX10_drop_34 : decode cX10_drop 34 = .ok (.aaload, 1) := by decide +kernel
theorem dX10_drop_35 : decode cX10_drop 35 = .ok (.iconst 1, 1) := by decide +kernel
theorem dX10_drop_36 : decode cX10_drop 36 = .ok (.putfield 83, 3) := by decide +kernel
theorem dX10_drop_39 : decode cX10_drop 39 = .ok (.aload_n 0, 1) := by decide +kernel
theorem dX10_drop_40 : decode cX10_drop 40 = .ok (.aload_n 0, 1) := by decide +kernel
theorem dX10_drop_41 : decode cX10_drop 41 = .ok (.getfield 11, 3) := by decide +kernel
theorem dX10_drop_44 : decode cX10_drop 44 = .ok (.iload_n 1, 1) := by decide +kernel
theorem dX10_drop_45 : decode cX10_drop 45 = .ok (.aaload, 1) := by decide +kernel
theorem dX10_drop_46 : decode cX10_drop 46 = .ok (.getfield 106, 3) := by decide +kernel
theorem dX10_drop_49 : decode cX10_drop 49 = .ok (.invokevirtual 80, 3) := by decide +kernel
theorem dX10_drop_52 : decode cX10_drop 52 = .ok (.ireturn, 1) := by decide +kernel
set_option maxRecDepth 20000 in
theorem ggX10_feed_X7_hasRoomFor : GoodIn wsX10_feed wsX7_hasRoomFor := goodIn_r _ [9, 10, 11, 26, 27] (by decide +kernel) (by decide +kernel)
set_option maxRecDepth 20000 in
theorem gX10_feed_X7_hasRoomFor : GoodIn wsX10_feed (wsV RX10 109 RX7 yX7_hasRoomFor wsX7_hasRoomFor) := goodIn_app (goodIn_of _ (by decide +kernel)) ggX10_feed_X7_hasRoomFor
set_option maxRecDepth 20000 in
theorem ggX10_feed_X7_append : GoodIn wsX10_feed wsX7_append := goodIn_r _ [15, 11, 10, 26, 27] (by decide +kernel) (by decide +kernel)
set_option maxRecDepth 20000 in
theorem gX10_feed_X7_append : GoodIn wsX10_feed (wsV RX10 113 RX7 yX7_append wsX7_append) := goodIn_app (goodIn_of _ (by decide +kernel)) ggX10_feed_X7_append
theorem dX10_feed_0 : decode cX10_feed 0 = .ok (.iload_n 3, 1) := by decide +kernel
theorem dX10_feed_1 : decode cX10_feed 1 = .ok (.iconst 1, 1) := by decide +kernel
theorem dX10_feed_2 : decode cX10_feed 2 = .ok (.if_icmp .lt 9, 3) := by decide +kernel
theorem dX10_feed_5 : decode cX10_feed 5 = .ok (.iload_n 3, 1) := by decide +kernel
theorem dX10_feed_6 : decode cX10_feed 6 = .ok (.bipush 8, 2) := by decide +kernel
theorem dX10_feed_8 : decode cX10_feed 8 = .ok (.if_icmp .le 6, 3) := by decide +kernel
theorem dX10_feed_11 : decode cX10_feed 11 = .ok (.ldc 71, 2) := by decide +kernel
theorem dX10_feed_13 : decode cX10_feed 13 = .ok (.ireturn, 1) := by decide +kernel
theorem dX10_feed_14 : decode cX10_feed 14 = .ok (.aload_n 0, 1) := by decide +kernel
theorem dX10_feed_15 : decode cX10_feed 15 = .ok (.getfield 18, 3) := by decide +kernel
theorem dX10_feed_18 : decode cX10_feed 18 = .ok (.iload_n 3, 1) := by decide +kernel
theorem dX10_feed_19 : decode cX10_feed 19 = .ok (.invokevirtual 109, 3) := by decide +kernel
theorem dX10_feed_22 : decode cX10_feed 22 = .ok (.ifCond .ne 6, 3) := by decide +kernel
theorem dX10_feed_25 : decode cX10_feed 25 = .ok (.ldc 112, 2) := by decide +kernel
theorem dX10_feed_27 : decode cX10_feed 27 = .ok (.ireturn, 1) := by decide +kernel
theorem dX10_feed_28 : decode cX10_feed 28 = .ok (.aload_n 0, 1) := by decide +kernel
theorem dX10_feed_29 : decode cX10_feed 29 = .ok (.getfield 18, 3) := by decide +kernel
theorem dX10_feed_32 : decode cX10_feed 32 = .ok (.lload_n 1, 1) := by decide +kernel
theorem dX10_feed_33 : decode cX10_feed 33 = .ok (.iload_n 3, 1) := by decide +kernel
theorem dX10_feed_34 : decode cX10_feed 34 = .ok (.invokevirtual 113, 3) := by decide +kernel
theorem dX10_feed_37 : decode cX10_feed 37 = .ok (.aload_n 0, 1) := by decide +kernel
theorem dX10_feed_38 : decode cX10_feed 38 = .ok (.getfield 18, 3) := by decide +kernel
theorem dX10_feed_41 : decode cX10_feed 41 = .ok (.getfield 117, 3) := by decide +kernel
theorem dX10_feed_44 : decode cX10_feed 44 = .ok (.ireturn, 1) := by decide +kernel
set_option maxRecDepth 20000 in
theorem ggX10_land_X4_readInto : GoodIn wsX10_land wsX4_readInto := goodIn_r _ [16, 17, 18, 19, 20, 21, 22, 23, 24, 25, 26, 27, 28, 29, 30, 31, 32, 33, 34, 35, 36, 37, 38, 39, 40, 41, 42, 43, 44, 45, 15, 46, 47, 48, 49, 50, 51, 52, 53, 54, 55, 56, 57, 58, 59, 60, 61, 62, 63, 64, 65, 66, 67, 68, 69, 70, 71, 72, 73, 74, 75, 76, 77, 78, 79, 80, 81, 82, 83, 84, 85, 86, 87, 88, 89, 90, 91, 92, 93, 94, 95, 96, 97, 98, 99, 100, 101, 102, 103, 104, 105, 106, 107, 108, 109, 110, 111, 112, 113, 114, 115, 116, 117, 118, 119, 120, 121, 122, 123, 124, 125, 126, 127, 128, 129, 130, 131, 132, 133, 134, 135, 136, 137, 138, 139, 140, 141, 142, 143, 144, 145, 146, 147, 148, 149, 150, 151, 152, 153, 154, 155, 156, 157, 158, 159, 160, 161, 162, 163, 164, 165, 166, 167, 168, 169, 170, 171, 172, 173, 174, 175, 176, 189, 190, 191, 192, 193, 194, 195, 196, 197, 198, 199, 200, 201, 202, 203, 204, 205, 206, 207, 208, 209, 210, 211, 212, 187, 188, 213, 214, 215, 216, 217, 218, 219, 220, 221] (by decide +kernel) (by decide +kernel)
set_option maxRecDepth 20000 in
theorem gX10_land_X4_readInto : GoodIn wsX10_land (wsV RX10 120 RX4 yX4_readInto wsX4_readInto) := goodIn_app (goodIn_of _ (by decide +kernel)) ggX10_land_X4_readInto
theorem dX10_land_0 : decode cX10_land 0 = .ok (.aload_n 0, 1) := by decide +kernel
theorem dX10_land_1 : decode cX10_land 1 = .ok (.getfield 27, 3) := by decide +kernel
theorem dX10_land_4 : decode cX10_land 4 = .ok (.aload_n 0, 1) := by decide +kernel
theorem dX10_land_5 : decode cX10_land 5 = .ok (.getfield 52, 3) := by decide +kernel
theorem dX10_land_8 : decode cX10_land 8 = .ok (.invokevirtual 120, 3) := by decide +kernel
theorem dX10_land_11 : decode cX10_land 11 = .ok (.aload_n 0, 1) := by decide +kernel
theorem dX10_land_12 : decode cX10_land 12 = .ok (.getfield 18, 3) := by decide +kernel
theorem dX10_land_15 : decode cX10_land 15 = .ok (.iconst 0, 1) := by decide +kernel
theorem dX10_land_16 : decode cX10_land 16 = .ok (.putfield 117, 3) := by decide +kernel
theorem dX10_land_19 : decode cX10_land 19 = .ok (.aload_n 0, 1) := by decide +kernel
theorem dX10_land_20 : decode cX10_land 20 = .ok (.getfield 27, 3) := by decide +kernel
theorem dX10_land_23 : decode cX10_land 23 = .ok (.getfield 124, 3) := by decide +kernel
theorem dX10_land_26 : decode cX10_land 26 = .ok (.ifCond .eq 25, 3) := by decide +kernel
theorem dX10_land_29 : decode cX10_land 29 = .ok (.aload_n 0, 1) := by decide +kernel
theorem dX10_land_30 : decode cX10_land 30 = .ok (.aload_n 0, 1) := by decide +kernel
theorem dX10_land_31 : decode cX10_land 31 = .ok (.getfield 27, 3) := by decide +kernel
theorem dX10_land_34 : decode cX10_land 34 = .ok (.getfield 124, 3) := by decide +kernel
theorem dX10_land_37 : decode cX10_land 37 = .ok (.putfield 59, 3) := by decide +kernel
theorem dX10_land_40 : decode cX10_land 40 = .ok (.ldc 127, 2) := by decide +kernel
theorem dX10_land_42 : decode cX10_land 42 = .ok (.aload_n 0, 1) := by decide +kernel
theorem dX10_land_43 : decode cX10_land 43 = .ok (.getfield 27, 3) := by decide +kernel
theorem dX10_land_46 : decode cX10_land 46 = .ok (.getfield 128, 3) := by decide +kernel
theorem dX10_land_49 : decode cX10_land 49 = .ok (.isub, 1) := by decide +kernel
theorem dX10_land_50 : decode cX10_land 50 = .ok (.ireturn, 1) := by decide +kernel
theorem dX10_land_51 : decode cX10_land 51 = .ok (.aload_n 0, 1) := by decide +kernel
theorem dX10_land_52 : decode cX10_land 52 = .ok (.getfield 48, 3) := by decide +kernel
theorem dX10_land_55 : decode cX10_land 55 = .ok (.astore_n 1, 1) := by decide +kernel
theorem dX10_land_56 : decode cX10_land 56 = .ok (.aload_n 0, 1) := by decide +kernel
theorem dX10_land_57 : decode cX10_land 57 = .ok (.aload_n 0, 1) := by decide +kernel
theorem dX10_land_58 : decode cX10_land 58 = .ok (.getfield 52, 3) := by decide +kernel
theorem dX10_land_61 : decode cX10_land 61 = .ok (.putfield 48, 3) := by decide +kernel
theorem dX10_land_64 : decode cX10_land 64 = .ok (.aload_n 0, 1) := by decide +kernel
theorem dX10_land_65 : decode cX10_land 65 = .ok (.aload_n 1, 1) := by decide +kernel
theorem dX10_land_66 : decode cX10_land 66 = .ok (.putfield 52, 3) := by decide +kernel
theorem dX10_land_69 : decode cX10_land 69 = .ok (.aload_n 0, 1) := by decide +kernel
theorem dX10_land_70 : decode cX10_land 70 = .ok (.iconst 1, 1) := by decide +kernel
theorem dX10_land_71 : decode cX10_land 71 = .ok (.putfield 55, 3) := by decide +kernel
theorem dX10_land_74 : decode cX10_land 74 = .ok (.aload_n 0, 1) := by decide +kernel
theorem dX10_land_75 : decode cX10_land 75 = .ok (.getfield 48, 3) := by decide +kernel
theorem dX10_land_78 : decode cX10_land 78 = .ok (.getfield 131, 3) := by decide +kernel
theorem dX10_land_81 : decode cX10_land 81 = .ok (.ireturn, 1) := by decide +kernel
theorem dX10_fault_0 : decode cX10_fault 0 = .ok (.aload_n 0, 1) := by decide +kernel
theorem dX10_fault_1 : decode cX10_fault 1 = .ok (.getfield 59, 3) := by decide +kernel
theorem dX10_fault_4 : decode cX10_fault 4 = .ok (.ireturn, 1) := by decide +kernel
set_option maxRecDepth 20000 in
theorem ggX10_farmers_X10_kindOf : GoodIn wsX10_farmers wsX10_kindOf := goodIn_r _ [13, 8, 14, 15, 16, 17, 18, 19, 20, 84, 85, 86, 87, 88, 89, 90, 91, 92, 93, 94, 95, 96, 97, 98, 99, 100, 101, 102, 103, 104, 105] (by decide +kernel) (by decide +kernel)
set_option maxRecDepth 20000 in
theorem gX10_farmers_X10_kindOf : GoodIn wsX10_farmers (wsV RX10 134 RX10 yX10_kindOf wsX10_kindOf) := goodIn_app (goodIn_of _ (by decide +kernel)) ggX10_farmers_X10_kindOf
set_option maxRecDepth 20000 in
theorem ggX10_farmers_X2_guessOf : GoodIn wsX10_farmers wsX2_guessOf := goodIn_r _ [24, 25, 26, 27, 28, 29, 30, 31, 32, 33, 17, 34, 19, 20, 35, 36, 37, 38, 39, 40, 41, 42, 43, 44, 45, 46, 47, 48, 49, 50, 51, 52, 53, 54, 55, 56, 57, 58, 59, 60, 61, 62, 63, 64, 65, 66, 67, 68, 69, 70, 71, 72, 73, 75, 76, 77, 78, 79, 80, 81, 82, 83, 94, 95, 96, 97, 98, 99, 100, 101, 102, 103, 104, 105] (by decide +kernel) (by decide +kernel)
set_option maxRecDepth 20000 in
theorem gX10_farmers_X2_guessOf : GoodIn wsX10_farmers (wsV RX10 158 RX2 yX2_guessOf wsX2_guessOf) := goodIn_app (goodIn_of _ (by decide +kernel)) ggX10_farmers_X2_guessOf
set_option maxRecDepth 20000 in
theorem ggX10_farmers_X1_pigsBy : GoodIn wsX10_farmers wsX1_pigsBy := goodIn_r _ [56, 57, 58, 75, 76, 77, 78, 79, 80, 81, 82, 83] (by decide +kernel) (by decide +kernel)
set_option maxRecDepth 20000 in
theorem gX10_farmers_X1_pigsBy : GoodIn wsX10_farmers (wsV RX10 162 RX1 yX1_pigsBy wsX1_pigsBy) := goodIn_app (goodIn_of _ (by decide +kernel)) ggX10_farmers_X1_pigsBy
theorem dX10_farmers_0 : decode cX10_farmers 0 = .ok (.aload_n 0, 1) := by decide +kernel
theorem dX10_farmers_1 : decode cX10_farmers 1 = .ok (.iload_n 1, 1) := by decide +kernel
theorem dX10_farmers_2 : decode cX10_farmers 2 = .ok (.invokevirtual 134, 3) := by decide +kernel
theorem dX10_farmers_5 : decode cX10_farmers 5 = .ok (.astore_n 3, 1) := by decide +kernel
theorem dX10_farmers_6 : decode cX10_farmers 6 = .ok (.aload_n 3, 1) := by decide +kernel
theorem dX10_farmers_7 : decode cX10_farmers 7 = .ok (.ifnonnull 6, 3) := by decide +kernel
theorem dX10_farmers_10 : decode cX10_farmers 10 = .ok (.ldc 71, 2) := by decide +kernel
theorem dX10_farmers_12 : decode cX10_farmers 12 = .ok (.ireturn, 1) := by decide +kernel
theorem dX10_farmers_13 : decode cX10_farmers 13 = .ok (.iload_n 2, 1) := by decide +kernel
theorem dX10_farmers_14 : decode cX10_farmers 14 = .ok (.tableswitch 106 0 7 #[46, 51, 56, 61, 66, 71, 84, 93], 46) := by decide +kernel
theorem dX10_farmers_60 : decode cX10_farmers 60 = .ok (.aload_n 3, 1) := by decide +kernel
theorem dX10_farmers_61 : decode cX10_farmers 61 = .ok (.getfield 138, 3) := by decide +kernel
theorem dX10_farmers_64 : decode cX10_farmers 64 = .ok (.ireturn, 1) := by decide +kernel
theorem dX10_farmers_65 : decode cX10_farmers 65 = .ok (.aload_n 3, 1) := by decide +kernel
theorem dX10_farmers_66 : decode cX10_farmers 66 = .ok (.getfield 143, 3) := by decide +kernel
theorem dX10_farmers_69 : decode cX10_farmers 69 = .ok (.ireturn, 1) := by decide +kernel
theorem dX10_farmers_70 : decode cX10_farmers 70 = .ok (.aload_n 3, 1) := by decide +kernel
theorem dX10_farmers_71 : decode cX10_farmers 71 = .ok (.getfield 146, 3) := by decide +kernel
theorem dX10_farmers_74 : decode cX10_farmers 74 = .ok (.ireturn, 1) := by decide +kernel
theorem dX10_farmers_75 : decode cX10_farmers 75 = .ok (.aload_n 3, 1) := by decide +kernel
theorem dX10_farmers_76 : decode cX10_farmers 76 = .ok (.getfield 149, 3) := by decide +kernel
theorem dX10_farmers_79 : decode cX10_farmers 79 = .ok (.ireturn, 1) := by decide +kernel
theorem dX10_farmers_80 : decode cX10_farmers 80 = .ok (.aload_n 3, 1) := by decide +kernel
theorem dX10_farmers_81 : decode cX10_farmers 81 = .ok (.getfield 152, 3) := by decide +kernel
theorem dX10_farmers_84 : decode cX10_farmers 84 = .ok (.ireturn, 1) := by decide +kernel
theorem dX10_farmers_85 : decode cX10_farmers 85 = .ok (.aload_n 3, 1) := by decide +kernel
theorem dX10_farmers_86 : decode cX10_farmers 86 = .ok (.getfield 155, 3) := by decide +kernel
theorem dX10_farmers_89 : decode cX10_farmers 89 = .ok (.ifCond .eq 7, 3) := by decide +kernel
theorem dX10_farmers_92 : decode cX10_farmers 92 = .ok (.iconst 1, 1) := by decide +kernel
theorem dX10_farmers_93 : decode cX10_farmers 93 = .ok (.goto 4, 3) := by decide +kernel
theorem dX10_farmers_96 : decode cX10_farmers 96 = .ok (.iconst 0, 1) := by decide +kernel
theorem dX10_farmers_97 : decode cX10_farmers 97 = .ok (.ireturn, 1) := by decide +kernel
theorem dX10_farmers_98 : decode cX10_farmers 98 = .ok (.aload_n 0, 1) := by decide +kernel
theorem dX10_farmers_99 : decode cX10_farmers 99 = .ok (.getfield 48, 3) := by decide +kernel
theorem dX10_farmers_102 : decode cX10_farmers 102 = .ok (.aload_n 3, 1) := by decide +kernel
theorem dX10_farmers_103 : decode cX10_farmers 103 = .ok (.invokevirtual 158, 3) := by decide +kernel
theorem dX10_farmers_106 : decode cX10_farmers 106 = .ok (.ireturn, 1) := by decide +kernel
theorem dX10_farmers_107 : decode cX10_farmers 107 = .ok (.aload_n 3, 1) := by decide +kernel
theorem dX10_farmers_108 : decode cX10_farmers 108 = .ok (.aload_n 0, 1) := by decide +kernel
theorem dX10_farmers_109 : decode cX10_farmers 109 = .ok (.getfield 48, 3) := by decide +kernel
theorem dX10_farmers_112 : decode cX10_farmers 112 = .ok (.aload_n 3, 1) := by decide +kernel
theorem dX10_farmers_113 : decode cX10_farmers 113 = .ok (.invokevirtual 158, 3) := by decide +kernel
theorem dX10_farmers_116 : decode cX10_farmers 116 = .ok (.invokevirtual 162, 3) := by decide +kernel
theorem dX10_farmers_119 : decode cX10_farmers 119 = .ok (.ireturn, 1) := by decide +kernel
theorem dX10_farmers_120 : decode cX10_farmers 120 = .ok (.ldc 71, 2) := by decide +kernel
theorem dX10_farmers_122 : decode cX10_farmers 122 = .ok (.ireturn, 1) := by decide +kernel
theorem dX10_print_0 : decode cX10_print 0 = .ok (.iload_n 1, 1) := by decide +kernel
theorem dX10_print_1 : decode cX10_print 1 = .ok (.ifCond .lt 9, 3) := by decide +kernel
theorem dX10_print_4 : decode cX10_print 4 = .ok (.iload_n 1, 1) := by decide +kernel
theorem dX10_print_5 : decode cX10_print 5 = .ok (.bipush 99, 2) := by decide +kernel
theorem dX10_print_7 : decode cX10_print 7 = .ok (.if_icmp .le 6, 3) := by decide +kernel
theorem dX10_print_10 : decode cX10_print 10 = .ok (.ldc 71, 2) := by decide +kernel
theorem dX10_print_12 : decode cX10_print 12 = .ok (.ireturn, 1) := by decide +kernel
theorem dX10_print_13 : decode cX10_print 13 = .ok (.aload_n 0, 1) := by decide +kernel
