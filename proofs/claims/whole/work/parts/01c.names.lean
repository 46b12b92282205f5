theorem dX2_bringUnwise_3 : decode cX2_bringUnwise 3 = .ok (.istore_n 2, 1) := by decide +kernel
theorem dX2_bringUnwise_4 : decode cX2_bringUnwise 4 = .ok (.iload_n 2, 1) := by decide +kernel
theorem dX2_bringUnwise_5 : decode cX2_bringUnwise 5 = .ok (.aload_n 0, 1) := by decide +kernel
theorem dX2_bringUnwise_6 : decode cX2_bringUnwise 6 = .ok (.getfield 24, 3) := by decide +kernel
theorem dX2_bringUnwise_9 : decode cX2_bringUnwise 9 = .ok (.if_icmp .ge 88, 3) := by decide +kernel
theorem dX2_bringUnwise_12 : decode cX2_bringUnwise 12 = .ok (.iload_n 2, 1) := by decide +kernel
theorem dX2_bringUnwise_13 : decode cX2_bringUnwise 13 = .ok (.aload_n 0, 1) := by decide +kernel
theorem dX2_bringUnwise_14 : decode cX2_bringUnwise 14 = .ok (.getfield 11, 3) := by decide +kernel
theorem dX2_bringUnwise_17 : decode cX2_bringUnwise 17 = .ok (.arraylength, 1) := by decide +kernel
theorem dX2_bringUnwise_18 : decode cX2_bringUnwise 18 = .ok (.if_icmp .ge 79, 3) := by decide +kernel
theorem dX2_bringUnwise_21 : decode cX2_bringUnwise 21 = .ok (.aload_n 0, 1) := by decide +kernel
theorem dX2_bringUnwise_22 : decode cX2_bringUnwise 22 = .ok (.getfield 11, 3) := by decide +kernel
theorem dX2_bringUnwise_25 : decode cX2_bringUnwise 25 = .ok (.iload_n 2, 1) := by decide +kernel
theorem dX2_bringUnwise_26 : decode cX2_bringUnwise 26 = .ok (.aaload, 1) := by decide +kernel
theorem dX2_bringUnwise_27 : decode cX2_bringUnwise 27 = .ok (.astore_n 3, 1) := by decide +kernel
theorem dX2_bringUnwise_28 : decode cX2_bringUnwise 28 = .ok (.aload_n 3, 1) := by decide +kernel
theorem dX2_bringUnwise_29 : decode cX2_bringUnwise 29 = .ok (.getfield 70, 3) := by decide +kernel
theorem dX2_bringUnwise_32 : decode cX2_bringUnwise 32 = .ok (.ifCond .ne 59, 3) := by decide +kernel
theorem dX2_bringUnwise_35 : decode cX2_bringUnwise 35 = .ok (.aload_n 3, 1) := by decide +kernel
theorem dX2_bringUnwise_36 : decode cX2_bringUnwise 36 = .ok (.getfield 87, 3) := by decide +kernel
theorem dX2_bringUnwise_39 : decode cX2_bringUnwise 39 = .ok (.bipush 6, 2) := by decide +kernel
theorem dX2_bringUnwise_41 : decode cX2_bringUnwise 41 = .ok (.if_icmp .eq 50, 3) := by decide +kernel
theorem dX2_bringUnwise_44 : decode cX2_bringUnwise 44 = .ok (.aload_n 3, 1) := by decide +kernel
theorem dX2_bringUnwise_45 : decode cX2_bringUnwise 45 = .ok (.aload_n 3, 1) := by decide +kernel
theorem dX2_bringUnwise_46 : decode cX2_bringUnwise 46 = .ok (.aload_n 3, 1) := by decide +kernel
theorem dX2_bringUnwise_47 : decode cX2_bringUnwise 47 = .ok (.getfield 87, 3) := by decide +kernel
theorem dX2_bringUnwise_50 : decode cX2_bringUnwise 50 = .ok (.aload_n 3, 1) := by decide +kernel
theorem dX2_bringUnwise_51 : decode cX2_bringUnwise 51 = .ok (.getfield 98, 3) := by decide +kernel
theorem dX2_bringUnwise_54 : decode cX2_bringUnwise 54 = .ok (.aload_n 0, 1) := by decide +kernel
theorem dX2_bringUnwise_55 : decode cX2_bringUnwise 55 = .ok (.getfield 37, 3) := by decide +kernel
theorem dX2_bringUnwise_58 : decode cX2_bringUnwise 58 = .ok (.aload_n 0, 1) := by decide +kernel
theorem dX2_bringUnwise_59 : decode cX2_bringUnwise 59 = .ok (.getfield 40, 3) := by decide +kernel
theorem dX2_bringUnwise_62 : decode cX2_bringUnwise 62 = .ok (.aload_n 0, 1) := by decide +kernel
theorem dX2_bringUnwise_63 : decode cX2_bringUnwise 63 = .ok (.getfield 43, 3) := by decide +kernel
theorem dX2_bringUnwise_66 : decode cX2_bringUnwise 66 = .ok (.aload_n 0, 1) := by decide +kernel
theorem dX2_bringUnwise_67 : decode cX2_bringUnwise 67 = .ok (.getfield 46, 3) := by decide +kernel
theorem dX2_bringUnwise_70 : decode cX2_bringUnwise 70 = .ok (.invokestatic 101, 3) := by decide +kernel
theorem dX2_bringUnwise_73 : decode cX2_bringUnwise 73 = .ok (.invokevirtual 111, 3) := by decide +kernel
theorem dX2_bringUnwise_76 : decode cX2_bringUnwise 76 = .ok (.putfield 114, 3) := by decide +kernel
theorem dX2_bringUnwise_79 : decode cX2_bringUnwise 79 = .ok (.iload_n 1, 1) := by decide +kernel
theorem dX2_bringUnwise_80 : decode cX2_bringUnwise 80 = .ok (.aload_n 3, 1) := by decide +kernel
theorem dX2_bringUnwise_81 : decode cX2_bringUnwise 81 = .ok (.getfield 74, 3) := by decide +kernel
theorem dX2_bringUnwise_84 : decode cX2_bringUnwise 84 = .ok (.aload_n 3, 1) := by decide +kernel
theorem dX2_bringUnwise_85 : decode cX2_bringUnwise 85 = .ok (.getfield 114, 3) := by decide +kernel
theorem dX2_bringUnwise_88 : decode cX2_bringUnwise 88 = .ok (.imul, 1) := by decide +kernel
theorem dX2_bringUnwise_89 : decode cX2_bringUnwise 89 = .ok (.iadd, 1) := by decide +kernel
theorem dX2_bringUnwise_90 : decode cX2_bringUnwise 90 = .ok (.istore_n 1, 1) := by decide +kernel
theorem dX2_bringUnwise_91 : decode cX2_bringUnwise 91 = .ok (.iinc 2 1, 3) := by decide +kernel
theorem dX2_bringUnwise_94 : decode cX2_bringUnwise 94 = .ok (.goto (-90), 3) := by decide +kernel
theorem dX2_bringUnwise_97 : decode cX2_bringUnwise 97 = .ok (.iload_n 1, 1) := by decide +kernel
theorem dX2_bringUnwise_98 : decode cX2_bringUnwise 98 = .ok (.ireturn, 1) := by decide +kernel
set_option maxRecDepth 20000 in
theorem ggX2_bringWise_X1_pigsBy : GoodIn wsX2_bringWise wsX1_pigsBy := goodIn_r _ [11, 12, 13, 26, 27, 28, 29, 30, 31, 32, 33, 34] (by decide +kernel) (by decide +kernel)
set_option maxRecDepth 20000 in
theorem gX2_bringWise_X1_pigsBy : GoodIn wsX2_bringWise (wsV RX2 111 RX1 yX1_pigsBy wsX1_pigsBy) := goodIn_app (goodIn_of _ (by decide +kernel)) ggX2_bringWise_X1_pigsBy
theorem dX2_bringWise_0 : decode cX2_bringWise 0 = .ok (.iconst 0, 1) := by decide +kernel
theorem dX2_bringWise_1 : decode cX2_bringWise 1 = .ok (.istore_n 2, 1) := by decide +kernel
theorem dX2_bringWise_2 : decode cX2_bringWise 2 = .ok (.iconst 0, 1) := by decide +kernel
theorem dX2_bringWise_3 : decode cX2_bringWise 3 = .ok (.istore_n 3, 1) := by decide +kernel
theorem dX2_bringWise_4 : decode cX2_bringWise 4 = .ok (.iload_n 3, 1) := by decide +kernel
theorem dX2_bringWise_5 : decode cX2_bringWise 5 = .ok (.aload_n 0, 1) := by decide +kernel
theorem dX2_bringWise_6 : decode cX2_bringWise 6 = .ok (.getfield 24, 3) := by decide +kernel
theorem dX2_bringWise_9 : decode cX2_bringWise 9 = .ok (.if_icmp .ge 69, 3) := by decide +kernel
theorem dX2_bringWise_12 : decode cX2_bringWise 12 = .ok (.iload_n 3, 1) := by decide +kernel
theorem dX2_bringWise_13 : decode cX2_bringWise 13 = .ok (.aload_n 0, 1) := by decide +kernel
theorem dX2_bringWise_14 : decode cX2_bringWise 14 = .ok (.getfield 11, 3) := by decide +kernel
theorem dX2_bringWise_17 : decode cX2_bringWise 17 = .ok (.arraylength, 1) := by decide +kernel
theorem dX2_bringWise_18 : decode cX2_bringWise 18 = .ok (.if_icmp .ge 60, 3) := by decide +kernel
theorem dX2_bringWise_21 : decode cX2_bringWise 21 = .ok (.aload_n 0, 1) := by decide +kernel
theorem dX2_bringWise_22 : decode cX2_bringWise 22 = .ok (.getfield 11, 3) := by decide +kernel
theorem dX2_bringWise_25 : decode cX2_bringWise 25 = .ok (.iload_n 3, 1) := by decide +kernel
theorem dX2_bringWise_26 : decode cX2_bringWise 26 = .ok (.aaload, 1) := by decide +kernel
theorem dX2_bringWise_27 : decode cX2_bringWise 27 = .ok (.astore 4, 2) := by decide +kernel
theorem dX2_bringWise_29 : decode cX2_bringWise 29 = .ok (.aload 4, 2) := by decide +kernel
theorem dX2_bringWise_31 : decode cX2_bringWise 31 = .ok (.getfield 70, 3) := by decide +kernel
theorem dX2_bringWise_34 : decode cX2_bringWise 34 = .ok (.ifCond .ne 38, 3) := by decide +kernel
theorem dX2_bringWise_37 : decode cX2_bringWise 37 = .ok (.aload 4, 2) := by decide +kernel
theorem dX2_bringWise_39 : decode cX2_bringWise 39 = .ok (.getfield 87, 3) := by decide +kernel
theorem dX2_bringWise_42 : decode cX2_bringWise 42 = .ok (.bipush 6, 2) := by decide +kernel
theorem dX2_bringWise_44 : decode cX2_bringWise 44 = .ok (.if_icmp .ne 28, 3) := by decide +kernel
theorem dX2_bringWise_47 : decode cX2_bringWise 47 = .ok (.aload 4, 2) := by decide +kernel
theorem dX2_bringWise_49 : decode cX2_bringWise 49 = .ok (.aload 4, 2) := by decide +kernel
theorem dX2_bringWise_51 : decode cX2_bringWise 51 = .ok (.iload_n 1, 1) := by decide +kernel
theorem dX2_bringWise_52 : decode cX2_bringWise 52 = .ok (.invokevirtual 111, 3) := by decide +kernel
theorem dX2_bringWise_55 : decode cX2_bringWise 55 = .ok (.putfield 114, 3) := by decide +kernel
theorem dX2_bringWise_58 : decode cX2_bringWise 58 = .ok (.iload_n 2, 1) := by decide +kernel
theorem dX2_bringWise_59 : decode cX2_bringWise 59 = .ok (.aload 4, 2) := by decide +kernel
theorem dX2_bringWise_61 : decode cX2_bringWise 61 = .ok (.getfield 74, 3) := by decide +kernel
theorem dX2_bringWise_64 : decode cX2_bringWise 64 = .ok (.aload 4, 2) := by decide +kernel
theorem dX2_bringWise_66 : decode cX2_bringWise 66 = .ok (.getfield 114, 3) := by decide +kernel
theorem dX2_bringWise_69 : decode cX2_bringWise 69 = .ok (.imul, 1) := by decide +kernel
theorem dX2_bringWise_70 : decode cX2_bringWise 70 = .ok (.iadd, 1) := by decide +kernel
theorem dX2_bringWise_71 : decode cX2_bringWise 71 = .ok (.istore_n 2, 1) := by decide +kernel
theorem dX2_bringWise_72 : decode cX2_bringWise 72 = .ok (.iinc 3 1, 3) := by decide +kernel
theorem dX2_bringWise_75 : decode cX2_bringWise 75 = .ok (.goto (-71), 3) := by decide +kernel
theorem dX2_bringWise_78 : decode cX2_bringWise 78 = .ok (.iload_n 2, 1) := by decide +kernel
theorem dX2_bringWise_79 : decode cX2_bringWise 79 = .ok (.ireturn, 1) := by decide +kernel
theorem dX2_priceOf_0 : decode cX2_priceOf 0 = .ok (.aload_n 0, 1) := by decide +kernel
theorem dX2_priceOf_1 : decode cX2_priceOf 1 = .ok (.getfield 31, 3) := by decide +kernel
theorem dX2_priceOf_4 : decode cX2_priceOf 4 = .ok (.iconst 1, 1) := by decide +kernel
theorem dX2_priceOf_5 : decode cX2_priceOf 5 = .ok (.if_icmp .ge 7, 3) := by decide +kernel
theorem dX2_priceOf_8 : decode cX2_priceOf 8 = .ok (.iconst 0, 1) := by decide +kernel
theorem dX2_priceOf_9 : decode cX2_priceOf 9 = .ok (.goto 18, 3) := by decide +kernel
theorem dX2_priceOf_12 : decode cX2_priceOf 12 = .ok (.iconst 0, 1) := by decide +kernel
theorem dX2_priceOf_13 : decode cX2_priceOf 13 = .ok (.aload_n 0, 1) := by decide +kernel
theorem dX2_priceOf_14 : decode cX2_priceOf 14 = .ok (.getfield 28, 3) := by decide +kernel
theorem dX2_priceOf_17 : decode cX2_priceOf 17 = .ok (.iload_n 1, 1) := by decide +kernel
theorem dX2_priceOf_18 : decode cX2_priceOf 18 = .ok (.aload_n 0, 1) := by decide +kernel
theorem dX2_priceOf_19 : decode cX2_priceOf 19 = .ok (.getfield 31, 3) := by decide +kernel
theorem dX2_priceOf_22 : decode cX2_priceOf 22 = .ok (.idiv, 1) := by decide +kernel
theorem dX2_priceOf_23 : decode cX2_priceOf 23 = .ok (.isub, 1) := by decide +kernel
theorem dX2_priceOf_24 : decode cX2_priceOf 24 = .ok (.invokestatic 117, 3) := by decide +kernel
theorem dX2_priceOf_27 : decode cX2_priceOf 27 = .ok (.ireturn, 1) := by decide +kernel
set_option maxRecDepth 20000 in
theorem ggX2_liveYear_X2_bringUnwise : GoodIn wsX2_liveYear wsX2_bringUnwise := goodIn_r _ [12, 13, 14, 15, 16, 17, 6, 4, 5, 18, 19, 20, 21, 22, 23, 24, 25, 26, 27, 28, 29, 30, 31, 32, 33, 34, 35, 36, 37, 38, 39, 40, 41, 88, 89, 90, 91, 92, 93, 94, 95, 96, 97, 98, 99, 100, 101, 102, 103, 104, 105, 106, 107, 108] (by decide +kernel) (by decide +kernel)
set_option maxRecDepth 20000 in
theorem gX2_liveYear_X2_bringUnwise : GoodIn wsX2_liveYear (wsV RX2 92 RX2 yX2_bringUnwise wsX2_bringUnwise) := goodIn_app (goodIn_of _ (by decide +kernel)) ggX2_liveYear_X2_bringUnwise
set_option maxRecDepth 20000 in
theorem ggX2_liveYear_X2_hasWise : GoodIn wsX2_liveYear wsX2_hasWise := goodIn_r _ [45, 13, 14, 15, 16, 88, 89, 90, 91, 92, 93, 94, 95, 96, 97, 98, 99, 100, 101, 102, 103, 104, 105, 106, 107, 108] (by decide +kernel) (by decide +kernel)
set_option maxRecDepth 20000 in
theorem gX2_liveYear_X2_hasWise : GoodIn wsX2_liveYear (wsV RX2 123 RX2 yX2_hasWise wsX2_hasWise) := goodIn_app (goodIn_of _ (by decide +kernel)) ggX2_liveYear_X2_hasWise
set_option maxRecDepth 20000 in
theorem ggX2_liveYear_X2_wiseGuess : GoodIn wsX2_liveYear wsX2_wiseGuess := goodIn_r _ [49, 50, 51, 52, 11, 53, 13, 14, 15, 16, 19, 20, 35, 36, 37, 38, 39, 40, 41, 54, 55, 56, 57, 58, 59, 60, 30, 27, 31, 88, 89, 90, 91, 92, 93, 94, 95, 96, 97, 98, 99, 100, 101, 102, 103, 104, 105, 106, 107, 108] (by decide +kernel) (by decide +kernel)
set_option maxRecDepth 20000 in
theorem gX2_liveYear_X2_wiseGuess : GoodIn wsX2_liveYear (wsV RX2 95 RX2 yX2_wiseGuess wsX2_wiseGuess) := goodIn_app (goodIn_of _ (by decide +kernel)) ggX2_liveYear_X2_wiseGuess
set_option maxRecDepth 20000 in
theorem ggX2_liveYear_X2_bringWise : GoodIn wsX2_liveYear wsX2_bringWise := goodIn_r _ [53, 13, 14, 15, 16, 19, 20, 35, 36, 37, 38, 39, 40, 41, 88, 89, 90, 91, 92, 93, 94, 95, 96, 97, 98, 99, 100, 101, 102, 103, 104, 105, 106, 107, 108] (by decide +kernel) (by decide +kernel)
set_option maxRecDepth 20000 in
theorem gX2_liveYear_X2_bringWise : GoodIn wsX2_liveYear (wsV RX2 105 RX2 yX2_bringWise wsX2_bringWise) := goodIn_app (goodIn_of _ (by decide +kernel)) ggX2_liveYear_X2_bringWise
set_option maxRecDepth 20000 in
theorem ggX2_liveYear_X2_priceOf : GoodIn wsX2_liveYear wsX2_priceOf := goodIn_r _ [57, 58, 59, 60, 30, 27, 31, 88, 89, 90, 91, 92, 93, 94, 95, 96, 97, 98, 99] (by decide +kernel) (by decide +kernel)
set_option maxRecDepth 20000 in
theorem gX2_liveYear_X2_priceOf : GoodIn wsX2_liveYear (wsV RX2 108 RX2 yX2_priceOf wsX2_priceOf) := goodIn_app (goodIn_of _ (by decide +kernel)) ggX2_liveYear_X2_priceOf
set_option maxRecDepth 20000 in
theorem ggX2_liveYear_X3_dealAt : GoodIn wsX2_liveYear wsX3_dealAt := goodIn_r _ [65, 66, 67, 68, 26, 27, 28, 69, 70, 109, 110, 111, 112, 113] (by decide +kernel) (by decide +kernel)
set_option maxRecDepth 20000 in
theorem gX2_liveYear_X3_dealAt : GoodIn wsX2_liveYear (wsV RX2 127 RX3 yX3_dealAt wsX3_dealAt) := goodIn_app (goodIn_of _ (by decide +kernel)) ggX2_liveYear_X3_dealAt
set_option maxRecDepth 20000 in
theorem ggX2_liveYear_X3_settle : GoodIn wsX2_liveYear wsX3_settle := goodIn_r _ [74, 70, 75, 109, 110, 111, 112, 113] (by decide +kernel) (by decide +kernel)
set_option maxRecDepth 20000 in
theorem gX2_liveYear_X3_settle : GoodIn wsX2_liveYear (wsV RX2 130 RX3 yX3_settle wsX3_settle) := goodIn_app (goodIn_of _ (by decide +kernel)) ggX2_liveYear_X3_settle
set_option maxRecDepth 20000 in
theorem ggX2_liveYear_X2_payFarmers : GoodIn wsX2_liveYear wsX2_payFarmers := goodIn_r _ [79, 13, 14, 15, 80, 81, 82, 38, 83, 84, 85, 86, 87, 88, 89, 90, 91, 92, 93, 94, 95, 96, 97, 98, 99, 100, 101, 102, 103, 104, 105, 106, 107, 108] (by decide +kernel) (by decide +kernel)
set_option maxRecDepth 20000 in
theorem gX2_liveYear_X2_payFarmers : GoodIn wsX2_liveYear (wsV RX2 134 RX2 yX2_payFarmers wsX2_payFarmers) := goodIn_app (goodIn_of _ (by decide +kernel)) ggX2_liveYear_X2_payFarmers
theorem dX2_liveYear_0 : decode cX2_liveYear 0 = .ok (.aload_n 0, 1) := by decide +kernel
theorem dX2_liveYear_1 : decode cX2_liveYear 1 = .ok (.aload_n 0, 1) := by decide +kernel
theorem dX2_liveYear_2 : decode cX2_liveYear 2 = .ok (.invokevirtual 92, 3) := by decide +kernel
theorem dX2_liveYear_5 : decode cX2_liveYear 5 = .ok (.putfield 49, 3) := by decide +kernel
theorem dX2_liveYear_8 : decode cX2_liveYear 8 = .ok (.aload_n 0, 1) := by decide +kernel
theorem dX2_liveYear_9 : decode cX2_liveYear 9 = .ok (.invokevirtual 123, 3) := by decide +kernel
theorem dX2_liveYear_12 : decode cX2_liveYear 12 = .ok (.ifCond .eq 24, 3) := by decide +kernel
theorem dX2_liveYear_15 : decode cX2_liveYear 15 = .ok (.aload_n 0, 1) := by decide +kernel
theorem dX2_liveYear_16 : decode cX2_liveYear 16 = .ok (.dup, 1) := by decide +kernel
theorem dX2_liveYear_17 : decode cX2_liveYear 17 = .ok (.getfield 49, 3) := by decide +kernel
theorem dX2_liveYear_20 : decode cX2_liveYear 20 = .ok (.aload_n 0, 1) := by decide +kernel
theorem dX2_liveYear_21 : decode cX2_liveYear 21 = .ok (.aload_n 0, 1) := by decide +kernel
theorem dX2_liveYear_22 : decode cX2_liveYear 22 = .ok (.aload_n 0, 1) := by decide +kernel
theorem dX2_liveYear_23 : decode cX2_liveYear 23 = .ok (.getfield 49, 3) := by decide +kernel
theorem dX2_liveYear_26 : decode cX2_liveYear 26 = .ok (.invokevirtual 95, 3) := by decide +kernel
theorem dX2_liveYear_29 : decode cX2_liveYear 29 = .ok (.invokevirtual 105, 3) := by decide +kernel
theorem dX2_liveYear_32 : decode cX2_liveYear 32 = .ok (.iadd, 1) := by decide +kernel
theorem dX2_liveYear_33 : decode cX2_liveYear 33 = .ok (.putfield 49, 3) := by decide +kernel
theorem dX2_liveYear_36 : decode cX2_liveYear 36 = .ok (.aload_n 0, 1) := by decide +kernel
theorem dX2_liveYear_37 : decode cX2_liveYear 37 = .ok (.getfield 20, 3) := by decide +kernel
theorem dX2_liveYear_40 : decode cX2_liveYear 40 = .ok (.aload_n 0, 1) := by decide +kernel
theorem dX2_liveYear_41 : decode cX2_liveYear 41 = .ok (.aload_n 0, 1) := by decide +kernel
theorem dX2_liveYear_42 : decode cX2_liveYear 42 = .ok (.getfield 49, 3) := by decide +kernel
theorem dX2_liveYear_45 : decode cX2_liveYear 45 = .ok (.invokevirtual 108, 3) := by decide +kernel
theorem dX2_liveYear_48 : decode cX2_liveYear 48 = .ok (.aload_n 0, 1) := by decide +kernel
theorem dX2_liveYear_49 : decode cX2_liveYear 49 = .ok (.getfield 49, 3) := by decide +kernel
theorem dX2_liveYear_52 : decode cX2_liveYear 52 = .ok (.invokevirtual 127, 3) := by decide +kernel
theorem dX2_liveYear_55 : decode cX2_liveYear 55 = .ok (.istore_n 1, 1) := by decide +kernel
theorem dX2_liveYear_56 : decode cX2_liveYear 56 = .ok (.aload_n 0, 1) := by decide +kernel
theorem dX2_liveYear_57 : decode cX2_liveYear 57 = .ok (.aload_n 0, 1) := by decide +kernel
theorem dX2_liveYear_58 : decode cX2_liveYear 58 = .ok (.getfield 49, 3) := by decide +kernel
theorem dX2_liveYear_61 : decode cX2_liveYear 61 = .ok (.iload_n 1, 1) := by decide +kernel
theorem dX2_liveYear_62 : decode cX2_liveYear 62 = .ok (.isub, 1) := by decide +kernel
theorem dX2_liveYear_63 : decode cX2_liveYear 63 = .ok (.invokevirtual 108, 3) := by decide +kernel
theorem dX2_liveYear_66 : decode cX2_liveYear 66 = .ok (.istore_n 2, 1) := by decide +kernel
theorem dX2_liveYear_67 : decode cX2_liveYear 67 = .ok (.aload_n 0, 1) := by decide +kernel
theorem dX2_liveYear_68 : decode cX2_liveYear 68 = .ok (.getfield 20, 3) := by decide +kernel
theorem dX2_liveYear_71 : decode cX2_liveYear 71 = .ok (.iload_n 1, 1) := by decide +kernel
theorem dX2_liveYear_72 : decode cX2_liveYear 72 = .ok (.iload_n 2, 1) := by decide +kernel
theorem dX2_liveYear_73 : decode cX2_liveYear 73 = .ok (.invokevirtual 130, 3) := by decide +kernel
theorem dX2_liveYear_76 : decode cX2_liveYear 76 = .ok (.aload_n 0, 1) := by decide +kernel
theorem dX2_liveYear_77 : decode cX2_liveYear 77 = .ok (.iload_n 2, 1) := by decide +kernel
theorem dX2_liveYear_78 : decode cX2_liveYear 78 = .ok (.aload_n 0, 1) := by decide +kernel
theorem dX2_liveYear_79 : decode cX2_liveYear 79 = .ok (.getfield 34, 3) := by decide +kernel
theorem dX2_liveYear_82 : decode cX2_liveYear 82 = .ok (.isub, 1) := by decide +kernel
theorem dX2_liveYear_83 : decode cX2_liveYear 83 = .ok (.invokevirtual 134, 3) := by decide +kernel
theorem dX2_liveYear_86 : decode cX2_liveYear 86 = .ok (.aload_n 0, 1) := by decide +kernel
theorem dX2_liveYear_87 : decode cX2_liveYear 87 = .ok (.aload_n 0, 1) := by decide +kernel
theorem dX2_liveYear_88 : decode cX2_liveYear 88 = .ok (.getfield 40, 3) := by decide +kernel
theorem dX2_liveYear_91 : decode cX2_liveYear 91 = .ok (.putfield 43, 3) := by decide +kernel
theorem dX2_liveYear_94 : decode cX2_liveYear 94 = .ok (.aload_n 0, 1) := by decide +kernel
theorem dX2_liveYear_95 : decode cX2_liveYear 95 = .ok (.aload_n 0, 1) := by decide +kernel
theorem dX2_liveYear_96 : decode cX2_liveYear 96 = .ok (.getfield 37, 3) := by decide +kernel
theorem dX2_liveYear_99 : decode cX2_liveYear 99 = .ok (.putfield 40, 3) := by decide +kernel
theorem dX2_liveYear_102 : decode cX2_liveYear 102 = .ok (.aload_n 0, 1) := by decide +kernel
theorem dX2_liveYear_103 : decode cX2_liveYear 103 = .ok (.iload_n 2, 1) := by decide +kernel
theorem dX2_liveYear_104 : decode cX2_liveYear 104 = .ok (.putfield 37, 3) := by decide +kernel
theorem dX2_liveYear_107 : decode cX2_liveYear 107 = .ok (.aload_n 0, 1) := by decide +kernel
theorem dX2_liveYear_108 : decode cX2_liveYear 108 = .ok (.dup, 1) := by decide +kernel
theorem dX2_liveYear_109 : decode cX2_liveYear 109 = .ok (.getfield 52, 3) := by decide +kernel
theorem dX2_liveYear_112 : decode cX2_liveYear 112 = .ok (.iconst 1, 1) := by decide +kernel
theorem dX2_liveYear_113 : decode cX2_liveYear 113 = .ok (.iadd, 1) := by decide +kernel
theorem dX2_liveYear_114 : decode cX2_liveYear 114 = .ok (.putfield 52, 3) := by decide +kernel
theorem dX2_liveYear_117 : decode cX2_liveYear 117 = .ok (.iload_n 2, 1) := by decide +kernel
theorem dX2_liveYear_118 : decode cX2_liveYear 118 = .ok (.ireturn, 1) := by decide +kernel
set_option maxRecDepth 20000 in
theorem ggX2_payFarmers_X1_earn : GoodIn wsX2_payFarmers wsX1_earn := goodIn_r _ [8, 9, 10, 11, 12, 25, 26, 27, 28, 29, 30, 31, 32, 33] (by decide +kernel) (by decide +kernel)
set_option maxRecDepth 20000 in
theorem gX2_payFarmers_X1_earn : GoodIn wsX2_payFarmers (wsV RX2 138 RX1 yX1_earn wsX1_earn) := goodIn_app (goodIn_of _ (by decide +kernel)) ggX2_payFarmers_X1_earn
theorem dX2_payFarmers_0 : decode cX2_payFarmers 0 = .ok (.iconst 0, 1) := by decide +kernel
theorem dX2_payFarmers_1 : decode cX2_payFarmers 1 = .ok (.istore_n 2, 1) := by decide +kernel
theorem dX2_payFarmers_2 : decode cX2_payFarmers 2 = .ok (.iload_n 2, 1) := by decide +kernel
theorem dX2_payFarmers_3 : decode cX2_payFarmers 3 = .ok (.aload_n 0, 1) := by decide +kernel
theorem dX2_payFarmers_4 : decode cX2_payFarmers 4 = .ok (.getfield 24, 3) := by decide +kernel
theorem dX2_payFarmers_7 : decode cX2_payFarmers 7 = .ok (.if_icmp .ge 40, 3) := by decide +kernel
theorem dX2_payFarmers_10 : decode cX2_payFarmers 10 = .ok (.iload_n 2, 1) := by decide +kernel
theorem dX2_payFarmers_11 : decode cX2_payFarmers 11 = .ok (.aload_n 0, 1) := by decide +kernel
theorem dX2_payFarmers_12 : decode cX2_payFarmers 12 = .ok (.getfield 11, 3) := by decide +kernel
theorem dX2_payFarmers_15 : decode cX2_payFarmers 15 = .ok (.arraylength, 1) := by decide +kernel
theorem dX2_payFarmers_16 : decode cX2_payFarmers 16 = .ok (.if_icmp .ge 31, 3) := by decide +kernel
theorem dX2_payFarmers_19 : decode cX2_payFarmers 19 = .ok (.aload_n 0, 1) := by decide +kernel
theorem dX2_payFarmers_20 : decode cX2_payFarmers 20 = .ok (.getfield 11, 3) := by decide +kernel
theorem dX2_payFarmers_23 : decode cX2_payFarmers 23 = .ok (.iload_n 2, 1) := by decide +kernel
theorem dX2_payFarmers_24 : decode cX2_payFarmers 24 = .ok (.aaload, 1) := by decide +kernel
theorem dX2_payFarmers_25 : decode cX2_payFarmers 25 = .ok (.getfield 70, 3) := by decide +kernel
theorem dX2_payFarmers_28 : decode cX2_payFarmers 28 = .ok (.ifCond .ne 13, 3) := by decide +kernel
theorem dX2_payFarmers_31 : decode cX2_payFarmers 31 = .ok (.aload_n 0, 1) := by decide +kernel
theorem dX2_payFarmers_32 : decode cX2_payFarmers 32 = .ok (.getfield 11, 3) := by decide +kernel
theorem dX2_payFarmers_35 : decode cX2_payFarmers 35 = .ok (.iload_n 2, 1) := by decide +kernel
theorem dX2_payFarmers_36 : decode cX2_payFarmers 36 = .ok (.aaload, 1) := by decide +kernel
theorem dX2_payFarmers_37 : decode cX2_payFarmers 37 = .ok (.iload_n 1, 1) := by decide +kernel
theorem dX2_payFarmers_38 : decode cX2_payFarmers 38 = .ok (.invokevirtual 138, 3) := by decide +kernel
theorem dX2_payFarmers_41 : decode cX2_payFarmers 41 = .ok (.iinc 2 1, 3) := by decide +kernel
theorem dX2_payFarmers_44 : decode cX2_payFarmers 44 = .ok (.goto (-42), 3) := by decide +kernel
theorem dX2_payFarmers_47 : decode cX2_payFarmers 47 = .ok (.return_, 1) := by decide +kernel
set_option maxRecDepth 20000 in
theorem ggX2_outlookAt_X1_pull : GoodIn wsX2_outlookAt wsX1_pull := goodIn_r _ [15, 16, 17, 41, 42, 43, 44, 45, 46, 47, 48, 49] (by decide +kernel) (by decide +kernel)
set_option maxRecDepth 20000 in
theorem gX2_outlookAt_X1_pull : GoodIn wsX2_outlookAt (wsV RX2 143 RX1 yX1_pull wsX1_pull) := goodIn_app (goodIn_of _ (by decide +kernel)) ggX2_outlookAt_X1_pull
set_option maxRecDepth 20000 in
theorem ggX2_outlookAt_X2_weightOf : GoodIn wsX2_outlookAt wsX2_weightOf := goodIn_r _ [21, 5, 22, 23, 24, 9, 25, 26, 27, 20, 28, 41, 42, 43, 44, 45, 46, 47, 48, 49] (by decide +kernel) (by decide +kernel)
set_option maxRecDepth 20000 in
theorem gX2_outlookAt_X2_weightOf : GoodIn wsX2_outlookAt (va_wsS RX2 146 yX2_weightOf wsX2_weightOf) := goodIn_app (goodIn_of _ (by decide +kernel)) ggX2_outlookAt_X2_weightOf
theorem dX2_outlookAt_0 : decode cX2_outlookAt 0 = .ok (.lconst 0, 1) := by decide +kernel
theorem dX2_outlookAt_1 : decode cX2_outlookAt 1 = .ok (.lstore_n 2, 1) := by decide +kernel
theorem dX2_outlookAt_2 : decode cX2_outlookAt 2 = .ok (.lconst 0, 1) := by decide +kernel
theorem dX2_outlookAt_3 : decode cX2_outlookAt 3 = .ok (.lstore 4, 2) := by decide +kernel
theorem dX2_outlookAt_5 : decode cX2_outlookAt 5 = .ok (.lconst 0, 1) := by decide +kernel
theorem dX2_outlookAt_6 : decode cX2_outlookAt 6 = .ok (.lstore 6, 2) := by decide +kernel
theorem dX2_outlookAt_8 : decode cX2_outlookAt 8 = .ok (.ldc2_w 141, 3) := by decide +kernel
theorem dX2_outlookAt_11 : decode cX2_outlookAt 11 = .ok (.iload_n 1, 1) := by decide +kernel
theorem dX2_outlookAt_12 : decode cX2_outlookAt 12 = .ok (.i2l, 1) := by decide +kernel
theorem dX2_outlookAt_13 : decode cX2_outlookAt 13 = .ok (.lmul, 1) := by decide +kernel
theorem dX2_outlookAt_14 : decode cX2_outlookAt 14 = .ok (.lstore 8, 2) := by decide +kernel
theorem dX2_outlookAt_16 : decode cX2_outlookAt 16 = .ok (.iconst 0, 1) := by decide +kernel
theorem dX2_outlookAt_17 : decode cX2_outlookAt 17 = .ok (.istore 10, 2) := by decide +kernel
theorem dX2_outlookAt_19 : decode cX2_outlookAt 19 = .ok (.iload 10, 2) := by decide +kernel
theorem dX2_outlookAt_21 : decode cX2_outlookAt 21 = .ok (.aload_n 0, 1) := by decide +kernel
theorem dX2_outlookAt_22 : decode cX2_outlookAt 22 = .ok (.getfield 24, 3) := by decide +kernel
theorem dX2_outlookAt_25 : decode cX2_outlookAt 25 = .ok (.if_icmp .ge 117, 3) := by decide +kernel
theorem dX2_outlookAt_28 : decode cX2_outlookAt 28 = .ok (.iload 10, 2) := by decide +kernel
theorem dX2_outlookAt_30 : decode cX2_outlookAt 30 = .ok (.aload_n 0, 1) := by decide +kernel
theorem dX2_outlookAt_31 : decode cX2_outlookAt 31 = .ok (.getfield 11, 3) := by decide +kernel
theorem dX2_outlookAt_34 : decode cX2_outlookAt 34 = .ok (.arraylength, 1) := by decide +kernel
theorem dX2_outlookAt_35 : decode cX2_outlookAt 35 = .ok (.if_icmp .ge 107, 3) := by decide +kernel
theorem dX2_outlookAt_38 : decode cX2_outlookAt 38 = .ok (.aload_n 0, 1) := by decide +kernel
theorem dX2_outlookAt_39 : decode cX2_outlookAt 39 = .ok (.getfield 11, 3) := by decide +kernel
theorem dX2_outlookAt_42 : decode cX2_outlookAt 42 = .ok (.iload 10, 2) := by decide +kernel
theorem dX2_outlookAt_44 : decode cX2_outlookAt 44 = .ok (.aaload, 1) := by decide +kernel
theorem dX2_outlookAt_45 : decode cX2_outlookAt 45 = .ok (.astore 11, 2) := by decide +kernel
theorem dX2_outlookAt_47 : decode cX2_outlookAt 47 = .ok (.aload 11, 2) := by decide +kernel
theorem dX2_outlookAt_49 : decode cX2_outlookAt 49 = .ok (.getfield 70, 3) := by decide +kernel
theorem dX2_outlookAt_52 : decode cX2_outlookAt 52 = .ok (.ifCond .ne 84, 3) := by decide +kernel
theorem dX2_outlookAt_55 : decode cX2_outlookAt 55 = .ok (.lload_n 2, 1) := by decide +kernel
theorem dX2_outlookAt_56 : decode cX2_outlookAt 56 = .ok (.aload 11, 2) := by decide +kernel
theorem dX2_outlookAt_58 : decode cX2_outlookAt 58 = .ok (.invokevirtual 143, 3) := by decide +kernel
theorem dX2_outlookAt_61 : decode cX2_outlookAt 61 = .ok (.aload 11, 2) := by decide +kernel
theorem dX2_outlookAt_63 : decode cX2_outlookAt 63 = .ok (.iconst 0, 1) := by decide +kernel
theorem dX2_outlookAt_64 : decode cX2_outlookAt 64 = .ok (.invokestatic 146, 3) := by decide +kernel
theorem dX2_outlookAt_67 : decode cX2_outlookAt 67 = .ok (.imul, 1) := by decide +kernel
theorem dX2_outlookAt_68 : decode cX2_outlookAt 68 = .ok (.i2l, 1) := by decide +kernel
theorem dX2_outlookAt_69 : decode cX2_outlookAt 69 = .ok (.ladd, 1) := by decide +kernel
theorem dX2_outlookAt_70 : decode cX2_outlookAt 70 = .ok (.lstore_n 2, 1) := by decide +kernel
theorem dX2_outlookAt_71 : decode cX2_outlookAt 71 = .ok (.lload 4, 2) := by decide +kernel
theorem dX2_outlookAt_73 : decode cX2_outlookAt 73 = .ok (.aload 11, 2) := by decide +kernel
theorem dX2_outlookAt_75 : decode cX2_outlookAt 75 = .ok (.invokevirtual 143, 3) := by decide +kernel
theorem dX2_outlookAt_78 : decode cX2_outlookAt 78 = .ok (.aload 11, 2) := by decide +kernel
theorem dX2_outlookAt_80 : decode cX2_outlookAt 80 = .ok (.iconst 1, 1) := by decide +kernel
theorem dX2_outlookAt_81 : decode cX2_outlookAt 81 = .ok (.invokestatic 146, 3) := by decide +kernel
theorem dX2_outlookAt_84 : decode cX2_outlookAt 84 = .ok (.imul, 1) := by decide +kernel
theorem dX2_outlookAt_85 : decode cX2_outlookAt 85 = .ok (.i2l, 1) := by decide +kernel
theorem dX2_outlookAt_86 : decode cX2_outlookAt 86 = .ok (.ladd, 1) := by decide +kernel
theorem dX2_outlookAt_87 : decode cX2_outlookAt 87 = .ok (.lstore 4, 2) := by decide +kernel
theorem dX2_outlookAt_89 : decode cX2_outlookAt 89 = .ok (.lload 6, 2) := by decide +kernel
theorem dX2_outlookAt_91 : decode cX2_outlookAt 91 = .ok (.aload 11, 2) := by decide +kernel
theorem dX2_outlookAt_93 : decode cX2_outlookAt 93 = .ok (.invokevirtual 143, 3) := by decide +kernel
theorem dX2_outlookAt_96 : decode cX2_outlookAt 96 = .ok (.aload 11, 2) := by decide +kernel
theorem dX2_outlookAt_98 : decode cX2_outlookAt 98 = .ok (.iconst 2, 1) := by decide +kernel
theorem dX2_outlookAt_99 : decode cX2_outlookAt 99 = .ok (.invokestatic 146, 3) := by decide +kernel
theorem dX2_outlookAt_102 : decode cX2_outlookAt 102 = .ok (.imul, 1) := by decide +kernel
theorem dX2_outlookAt_103 : decode cX2_outlookAt 103 = .ok (.i2l, 1) := by decide +kernel
theorem dX2_outlookAt_104 : decode cX2_outlookAt 104 = .ok (.ladd, 1) := by decide +kernel
theorem dX2_outlookAt_105 : decode cX2_outlookAt 105 = .ok (.lstore 6, 2) := by decide +kernel
theorem dX2_outlookAt_107 : decode cX2_outlookAt 107 = .ok (.lload 8, 2) := by decide +kernel
theorem dX2_outlookAt_109 : decode cX2_outlookAt 109 = .ok (.aload 11, 2) := by decide +kernel
theorem dX2_outlookAt_111 : decode cX2_outlookAt 111 = .ok (.getfield 87, 3) := by decide +kernel
theorem dX2_outlookAt_114 : decode cX2_outlookAt 114 = .ok (.bipush 6, 2) := by decide +kernel
theorem dX2_outlookAt_116 : decode cX2_outlookAt 116 = .ok (.if_icmp .ne 16, 3) := by decide +kernel
theorem dX2_outlookAt_119 : decode cX2_outlookAt 119 = .ok (.ldc2_w 150, 3) := by decide +kernel
theorem dX2_outlookAt_122 : decode cX2_outlookAt 122 = .ok (.aload 11, 2) := by decide +kernel
theorem dX2_outlookAt_124 : decode cX2_outlookAt 124 = .ok (.invokevirtual 143, 3) := by decide +kernel
theorem dX2_outlookAt_127 : decode cX2_outlookAt 127 = .ok (.i2l, 1) := by decide +kernel
theorem dX2_outlookAt_128 : decode cX2_outlookAt 128 = .ok (.lmul, 1) := by decide +kernel
theorem dX2_outlookAt_129 : decode cX2_outlookAt 129 = .ok (.goto 4, 3) := by decide +kernel
theorem dX2_outlookAt_132 : decode cX2_outlookAt 132 = .ok (.lconst 0, 1) := by decide +kernel
theorem dX2_outlookAt_133 : decode cX2_outlookAt 133 = .ok (.ladd, 1) := by decide +kernel
theorem dX2_outlookAt_134 : decode cX2_outlookAt 134 = .ok (.lstore 8, 2) := by decide +kernel
theorem dX2_outlookAt_136 : decode cX2_outlookAt 136 = .ok (.iinc 10 1, 3) := by decide +kernel
theorem dX2_outlookAt_139 : decode cX2_outlookAt 139 = .ok (.goto (-120), 3) := by decide +kernel
theorem dX2_outlookAt_142 : decode cX2_outlookAt 142 = .ok (.lload 8, 2) := by decide +kernel
theorem dX2_outlookAt_144 : decode cX2_outlookAt 144 = .ok (.lload 6, 2) := by decide +kernel
theorem dX2_outlookAt_146 : decode cX2_outlookAt 146 = .ok (.invokestatic 152, 3) := by decide +kernel
theorem dX2_outlookAt_149 : decode cX2_outlookAt 149 = .ok (.lsub, 1) := by decide +kernel
theorem dX2_outlookAt_150 : decode cX2_outlookAt 150 = .ok (.lstore 10, 2) := by decide +kernel
theorem dX2_outlookAt_152 : decode cX2_outlookAt 152 = .ok (.lload 8, 2) := by decide +kernel
theorem dX2_outlookAt_154 : decode cX2_outlookAt 154 = .ok (.lload 4, 2) := by decide +kernel
theorem dX2_outlookAt_156 : decode cX2_outlookAt 156 = .ok (.ladd, 1) := by decide +kernel
theorem dX2_outlookAt_157 : decode cX2_outlookAt 157 = .ok (.lload_n 2, 1) := by decide +kernel
theorem dX2_outlookAt_158 : decode cX2_outlookAt 158 = .ok (.lload 6, 2) := by decide +kernel
theorem dX2_outlookAt_160 : decode cX2_outlookAt 160 = .ok (.ladd, 1) := by decide +kernel
theorem dX2_outlookAt_161 : decode cX2_outlookAt 161 = .ok (.invokestatic 152, 3) := by decide +kernel
theorem dX2_outlookAt_164 : decode cX2_outlookAt 164 = .ok (.lsub, 1) := by decide +kernel
theorem dX2_outlookAt_165 : decode cX2_outlookAt 165 = .ok (.lstore 12, 2) := by decide +kernel
theorem dX2_outlookAt_167 : decode cX2_outlookAt 167 = .ok (.lload 8, 2) := by decide +kernel
theorem dX2_outlookAt_169 : decode cX2_outlookAt 169 = .ok (.lload 8, 2) := by decide +kernel
theorem dX2_outlookAt_171 : decode cX2_outlookAt 171 = .ok (.lmul, 1) := by decide +kernel
theorem dX2_outlookAt_172 : decode cX2_outlookAt 172 = .ok (.lload 6, 2) := by decide +kernel
theorem dX2_outlookAt_174 : decode cX2_outlookAt 174 = .ok (.lload 6, 2) := by decide +kernel
theorem dX2_outlookAt_176 : decode cX2_outlookAt 176 = .ok (.lmul, 1) := by decide +kernel
theorem dX2_outlookAt_177 : decode cX2_outlookAt 177 = .ok (.lsub, 1) := by decide +kernel
theorem dX2_outlookAt_178 : decode cX2_outlookAt 178 = .ok (.lload 4, 2) := by decide +kernel
theorem dX2_outlookAt_180 : decode cX2_outlookAt 180 = .ok (.lload 8, 2) := by decide +kernel
theorem dX2_outlookAt_182 : decode cX2_outlookAt 182 = .ok (.lmul, 1) := by decide +kernel
theorem dX2_outlookAt_183 : decode cX2_outlookAt 183 = .ok (.lload_n 2, 1) := by decide +kernel
theorem dX2_outlookAt_184 : decode cX2_outlookAt 184 = .ok (.lload 6, 2) := by decide +kernel
theorem dX2_outlookAt_186 : decode cX2_outlookAt 186 = .ok (.lmul, 1) := by decide +kernel
theorem dX2_outlookAt_187 : decode cX2_outlookAt 187 = .ok (.lsub, 1) := by decide +kernel
theorem dX2_outlookAt_188 : decode cX2_outlookAt 188 = .ok (.invokestatic 152, 3) := by decide +kernel
theorem dX2_outlookAt_191 : decode cX2_outlookAt 191 = .ok (.lsub, 1) := by decide +kernel
theorem dX2_outlookAt_192 : decode cX2_outlookAt 192 = .ok (.lstore 14, 2) := by decide +kernel
theorem dX2_outlookAt_194 : decode cX2_outlookAt 194 = .ok (.lload 10, 2) := by decide +kernel
theorem dX2_outlookAt_196 : decode cX2_outlookAt 196 = .ok (.lconst 0, 1) := by decide +kernel
theorem dX2_outlookAt_197 : decode cX2_outlookAt 197 = .ok (.lcmp, 1) := by decide +kernel
theorem dX2_outlookAt_198 : decode cX2_outlookAt 198 = .ok (.ifCond .lt 17, 3) := by decide +kernel
theorem dX2_outlookAt_201 : decode cX2_outlookAt 201 = .ok (.lload 12, 2) := by decide +kernel
theorem dX2_outlookAt_203 : decode cX2_outlookAt 203 = .ok (.lconst 0, 1) := by decide +kernel
theorem dX2_outlookAt_204 : decode cX2_outlookAt 204 = .ok (.lcmp, 1) := by decide +kernel
theorem dX2_outlookAt_205 : decode cX2_outlookAt 205 = .ok (.ifCond .lt 10, 3) := by decide +kernel
theorem dX2_outlookAt_208 : decode cX2_outlookAt 208 = .ok (.lload 14, 2) := by decide +kernel
theorem dX2_outlookAt_210 : decode cX2_outlookAt 210 = .ok (.lconst 0, 1) := by decide +kernel
theorem dX2_outlookAt_211 : decode cX2_outlookAt 211 = .ok (.lcmp, 1) := by decide +kernel
theorem dX2_outlookAt_212 : decode cX2_outlookAt 212 = .ok (.ifCond .ge 5, 3) := by decide +kernel
theorem dX2_outlookAt_215 : decode cX2_outlookAt 215 = .ok (.iconst 2, 1) := by decide +kernel
theorem dX2_outlookAt_216 : decode cX2_outlookAt 216 = .ok (.ireturn, 1) := by decide +kernel
theorem dX2_outlookAt_217 : decode cX2_outlookAt 217 = .ok (.lload 10, 2) := by decide +kernel
theorem dX2_outlookAt_219 : decode cX2_outlookAt 219 = .ok (.lconst 0, 1) := by decide +kernel
theorem dX2_outlookAt_220 : decode cX2_outlookAt 220 = .ok (.lcmp, 1) := by decide +kernel
theorem dX2_outlookAt_221 : decode cX2_outlookAt 221 = .ok (.ifCond .le 21, 3) := by decide +kernel
theorem dX2_outlookAt_224 : decode cX2_outlookAt 224 = .ok (.lload 12, 2) := by decide +kernel
theorem dX2_outlookAt_226 : decode cX2_outlookAt 226 = .ok (.lconst 0, 1) := by decide +kernel
theorem dX2_outlookAt_227 : decode cX2_outlookAt 227 = .ok (.lcmp, 1) := by decide +kernel
theorem dX2_outlookAt_228 : decode cX2_outlookAt 228 = .ok (.ifCond .le 14, 3) := by decide +kernel
theorem dX2_outlookAt_231 : decode cX2_outlookAt 231 = .ok (.lload 14, 2) := by decide +kernel
theorem dX2_outlookAt_233 : decode cX2_outlookAt 233 = .ok (.lconst 0, 1) := by decide +kernel
theorem dX2_outlookAt_234 : decode cX2_outlookAt 234 = .ok (.lcmp, 1) := by decide +kernel
theorem dX2_outlookAt_235 : decode cX2_outlookAt 235 = .ok (.ifCond .le 7, 3) := by decide +kernel
theorem dX2_outlookAt_238 : decode cX2_outlookAt 238 = .ok (.iconst 0, 1) := by decide +kernel
theorem dX2_outlookAt_239 : decode cX2_outlookAt 239 = .ok (.goto 4, 3) := by decide +kernel
theorem dX2_outlookAt_242 : decode cX2_outlookAt 242 = .ok (.iconst 1, 1) := by decide +kernel
theorem dX2_outlookAt_243 : decode cX2_outlookAt 243 = .ok (.ireturn, 1) := by decide +kernel
set_option maxRecDepth 20000 in
theorem ggX2_weightOf_X2_trendWeight : GoodIn wsX2_weightOf wsX2_trendWeight := goodIn_r _ [10] (by decide +kernel) (by decide +kernel)
set_option maxRecDepth 20000 in
theorem gX2_weightOf_X2_trendWeight : GoodIn wsX2_weightOf (va_wsS RX2 156 yX2_trendWeight wsX2_trendWeight) := goodIn_app (goodIn_of _ (by decide +kernel)) ggX2_weightOf_X2_trendWeight
theorem dX2_weightOf_0 : decode cX2_weightOf 0 = .ok (.aload_n 0, 1) := by decide +kernel
theorem dX2_weightOf_1 : decode cX2_weightOf 1 = .ok (.getfield 87, 3) := by decide +kernel
theorem dX2_weightOf_4 : decode cX2_weightOf 4 = .ok (.tableswitch 90 1 4 #[32, 43, 67, 78], 32) := by decide +kernel
theorem dX2_weightOf_36 : decode cX2_weightOf 36 = .ok (.iload_n 1, 1) := by decide +kernel
theorem dX2_weightOf_37 : decode cX2_weightOf 37 = .ok (.ifCond .ne 8, 3) := by decide +kernel
theorem dX2_weightOf_40 : decode cX2_weightOf 40 = .ok (.bipush 30, 2) := by decide +kernel
theorem dX2_weightOf_42 : decode cX2_weightOf 42 = .ok (.goto 4, 3) := by decide +kernel
theorem dX2_weightOf_45 : decode cX2_weightOf 45 = .ok (.iconst 0, 1) := by decide +kernel
theorem dX2_weightOf_46 : decode cX2_weightOf 46 = .ok (.ireturn, 1) := by decide +kernel
theorem dX2_weightOf_47 : decode cX2_weightOf 47 = .ok (.iload_n 1, 1) := by decide +kernel
theorem dX2_weightOf_48 : decode cX2_weightOf 48 = .ok (.aload_n 0, 1) := by decide +kernel
theorem dX2_weightOf_49 : decode cX2_weightOf 49 = .ok (.getfield 98, 3) := by decide +kernel
theorem dX2_weightOf_52 : decode cX2_weightOf 52 = .ok (.if_icmp .ge 17, 3) := by decide +kernel
theorem dX2_weightOf_55 : decode cX2_weightOf 55 = .ok (.bipush 30, 2) := by decide +kernel
theorem dX2_weightOf_57 : decode cX2_weightOf 57 = .ok (.iconst 1, 1) := by decide +kernel
theorem dX2_weightOf_58 : decode cX2_weightOf 58 = .ok (.aload_n 0, 1) := by decide +kernel
theorem dX2_weightOf_59 : decode cX2_weightOf 59 = .ok (.getfield 98, 3) := by decide +kernel
theorem dX2_weightOf_62 : decode cX2_weightOf 62 = .ok (.invokestatic 117, 3) := by decide +kernel
theorem dX2_weightOf_65 : decode cX2_weightOf 65 = .ok (.idiv, 1) := by decide +kernel
theorem dX2_weightOf_66 : decode cX2_weightOf 66 = .ok (.goto 4, 3) := by decide +kernel
theorem dX2_weightOf_69 : decode cX2_weightOf 69 = .ok (.iconst 0, 1) := by decide +kernel
theorem dX2_weightOf_70 : decode cX2_weightOf 70 = .ok (.ireturn, 1) := by decide +kernel
theorem dX2_weightOf_71 : decode cX2_weightOf 71 = .ok (.iconst 3, 1) := by decide +kernel
theorem dX2_weightOf_72 : decode cX2_weightOf 72 = .ok (.aload_n 0, 1) := by decide +kernel
theorem dX2_weightOf_73 : decode cX2_weightOf 73 = .ok (.getfield 98, 3) := by decide +kernel
theorem dX2_weightOf_76 : decode cX2_weightOf 76 = .ok (.imul, 1) := by decide +kernel
theorem dX2_weightOf_77 : decode cX2_weightOf 77 = .ok (.iload_n 1, 1) := by decide +kernel
theorem dX2_weightOf_78 : decode cX2_weightOf 78 = .ok (.invokestatic 156, 3) := by decide +kernel
theorem dX2_weightOf_81 : decode cX2_weightOf 81 = .ok (.ireturn, 1) := by decide +kernel
theorem dX2_weightOf_82 : decode cX2_weightOf 82 = .ok (.iload_n 1, 1) := by decide +kernel
theorem dX2_weightOf_83 : decode cX2_weightOf 83 = .ok (.ifCond .ne 8, 3) := by decide +kernel
theorem dX2_weightOf_86 : decode cX2_weightOf 86 = .ok (.bipush (-10), 2) := by decide +kernel
theorem dX2_weightOf_88 : decode cX2_weightOf 88 = .ok (.goto 5, 3) := by decide +kernel
theorem dX2_weightOf_91 : decode cX2_weightOf 91 = .ok (.bipush 20, 2) := by decide +kernel
theorem dX2_weightOf_93 : decode cX2_weightOf 93 = .ok (.ireturn, 1) := by decide +kernel
theorem dX2_weightOf_94 : decode cX2_weightOf 94 = .ok (.iconst 0, 1) := by decide +kernel
theorem dX2_weightOf_95 : decode cX2_weightOf 95 = .ok (.ireturn, 1) := by decide +kernel
theorem dX2_trendWeight_0 : decode cX2_trendWeight 0 = .ok (.iload_n 1, 1) := by decide +kernel
theorem dX2_trendWeight_1 : decode cX2_trendWeight 1 = .ok (.ifCond .ne 8, 3) := by decide +kernel
theorem dX2_trendWeight_4 : decode cX2_trendWeight 4 = .ok (.bipush 30, 2) := by decide +kernel
theorem dX2_trendWeight_6 : decode cX2_trendWeight 6 = .ok (.iload_n 0, 1) := by decide +kernel
theorem dX2_trendWeight_7 : decode cX2_trendWeight 7 = .ok (.iadd, 1) := by decide +kernel
theorem dX2_trendWeight_8 : decode cX2_trendWeight 8 = .ok (.ireturn, 1) := by decide +kernel
theorem dX2_trendWeight_9 : decode cX2_trendWeight 9 = .ok (.iload_n 1, 1) := by decide +kernel
theorem dX2_trendWeight_10 : decode cX2_trendWeight 10 = .ok (.iconst 1, 1) := by decide +kernel
theorem dX2_trendWeight_11 : decode cX2_trendWeight 11 = .ok (.if_icmp .ne 8, 3) := by decide +kernel
theorem dX2_trendWeight_14 : decode cX2_trendWeight 14 = .ok (.iload_n 0, 1) := by decide +kernel
theorem dX2_trendWeight_15 : decode cX2_trendWeight 15 = .ok (.ineg, 1) := by decide +kernel
theorem dX2_trendWeight_16 : decode cX2_trendWeight 16 = .ok (.goto 4, 3) := by decide +kernel
theorem dX2_trendWeight_19 : decode cX2_trendWeight 19 = .ok (.iconst 0, 1) := by decide +kernel
theorem dX2_trendWeight_20 : decode cX2_trendWeight 20 = .ok (.ireturn, 1) := by decide +kernel
theorem dX3_init_0 : decode cX3_init 0 = .ok (.aload_n 0, 1) := by decide +kernel
theorem dX3_init_1 : decode cX3_init 1 = .ok (.invokespecial 1, 3) := by decide +kernel
theorem dX3_init_4 : decode cX3_init 4 = .ok (.aload_n 0, 1) := by decide +kernel
theorem dX3_init_5 : decode cX3_init 5 = .ok (.iconst 0, 1) := by decide +kernel
theorem dX3_init_6 : decode cX3_init 6 = .ok (.putfield 7, 3) := by decide +kernel
theorem dX3_init_9 : decode cX3_init 9 = .ok (.aload_n 0, 1) := by decide +kernel
theorem dX3_init_10 : decode cX3_init 10 = .ok (.iconst 0, 1) := by decide +kernel
theorem dX3_init_11 : decode cX3_init 11 = .ok (.putfield 13, 3) := by decide +kernel
theorem dX3_init_14 : decode cX3_init 14 = .ok (.aload_n 0, 1) := by decide +kernel
theorem dX3_init_15 : decode cX3_init 15 = .ok (.iconst 0, 1) := by decide +kernel
theorem dX3_init_16 : decode cX3_init 16 = .ok (.putfield 16, 3) := by decide +kernel
theorem dX3_init_19 : decode cX3_init 19 = .ok (.aload_n 0, 1) := by decide +kernel
theorem dX3_init_20 : decode cX3_init 20 = .ok (.iconst 0, 1) := by decide +kernel
theorem dX3_init_21 : decode cX3_init 21 = .ok (.putfield 19, 3) := by decide +kernel
theorem dX3_init_24 : decode cX3_init 24 = .ok (.aload_n 0, 1) := by decide +kernel
theorem dX3_init_25 : decode cX3_init 25 = .ok (.iconst 0, 1) := by decide +kernel
theorem dX3_init_26 : decode cX3_init 26 = .ok (.putfield 22, 3) := by decide +kernel
theorem dX3_init_29 : decode cX3_init 29 = .ok (.return_, 1) := by decide +kernel
theorem dX3_order_0 : decode cX3_order 0 = .ok (.aload_n 0, 1) := by decide +kernel
theorem dX3_order_1 : decode cX3_order 1 = .ok (.iload_n 1, 1) := by decide +kernel
theorem dX3_order_2 : decode cX3_order 2 = .ok (.putfield 7, 3) := by decide +kernel
theorem dX3_order_5 : decode cX3_order 5 = .ok (.aload_n 0, 1) := by decide +kernel
theorem dX3_order_6 : decode cX3_order 6 = .ok (.iload_n 2, 1) := by decide +kernel
theorem dX3_order_7 : decode cX3_order 7 = .ok (.putfield 13, 3) := by decide +kernel
theorem dX3_order_10 : decode cX3_order 10 = .ok (.aload_n 0, 1) := by decide +kernel
theorem dX3_order_11 : decode cX3_order 11 = .ok (.iload_n 3, 1) := by decide +kernel
theorem dX3_order_12 : decode cX3_order 12 = .ok (.putfield 16, 3) := by decide +kernel
theorem dX3_order_15 : decode cX3_order 15 = .ok (.return_, 1) := by decide +kernel
theorem dX3_forget_0 : decode cX3_forget 0 = .ok (.aload_n 0, 1) := by decide +kernel
theorem dX3_forget_1 : decode cX3_forget 1 = .ok (.iconst 0, 1) := by decide +kernel
theorem dX3_forget_2 : decode cX3_forget 2 = .ok (.putfield 19, 3) := by decide +kernel
theorem dX3_forget_5 : decode cX3_forget 5 = .ok (.aload_n 0, 1) := by decide +kernel
theorem dX3_forget_6 : decode cX3_forget 6 = .ok (.iconst 0, 1) := by decide +kernel
theorem dX3_forget_7 : decode cX3_forget 7 = .ok (.putfield 22, 3) := by decide +kernel
theorem dX3_forget_10 : decode cX3_forget 10 = .ok (.return_, 1) := by decide +kernel
set_option maxRecDepth 20000 in
theorem ggX3_takeAll_X3_order : GoodIn wsX3_takeAll wsX3_order := goodIn_r _ [10, 1, 2, 3, 11, 12, 13, 14, 15] (by decide +kernel) (by decide +kernel)
set_option maxRecDepth 20000 in
theorem gX3_takeAll_X3_order : GoodIn wsX3_takeAll (wsV RX3 25 RX3 yX3_order wsX3_order) := goodIn_app (goodIn_of _ (by decide +kernel)) ggX3_takeAll_X3_order
theorem dX3_takeAll_0 : decode cX3_takeAll 0 = .ok (.aload_n 0, 1) := by decide +kernel
theorem dX3_takeAll_1 : decode cX3_takeAll 1 = .ok (.aload_n 1, 1) := by decide +kernel
theorem dX3_takeAll_2 : decode cX3_takeAll 2 = .ok (.getfield 7, 3) := by decide +kernel
theorem dX3_takeAll_5 : decode cX3_takeAll 5 = .ok (.aload_n 1, 1) := by decide +kernel
theorem dX3_takeAll_6 : decode cX3_takeAll 6 = .ok (.getfield 13, 3) := by decide +kernel
theorem dX3_takeAll_9 : decode cX3_takeAll 9 = .ok (.aload_n 1, 1) := by decide +kernel
theorem dX3_takeAll_10 : decode cX3_takeAll 10 = .ok (.getfield 16, 3) := by decide +kernel
theorem dX3_takeAll_13 : decode cX3_takeAll 13 = .ok (.invokevirtual 25, 3) := by decide +kernel
theorem dX3_takeAll_16 : decode cX3_takeAll 16 = .ok (.aload_n 0, 1) := by decide +kernel
theorem dX3_takeAll_17 : decode cX3_takeAll 17 = .ok (.aload_n 1, 1) := by decide +kernel
theorem dX3_takeAll_18 : decode cX3_takeAll 18 = .ok (.getfield 19, 3) := by decide +kernel
theorem dX3_takeAll_21 : decode cX3_takeAll 21 = .ok (.putfield 19, 3) := by decide +kernel
theorem dX3_takeAll_24 : decode cX3_takeAll 24 = .ok (.aload_n 0, 1) := by decide +kernel
theorem dX3_takeAll_25 : decode cX3_takeAll 25 = .ok (.aload_n 1, 1) := by decide +kernel
theorem dX3_takeAll_26 : decode cX3_takeAll 26 = .ok (.getfield 22, 3) := by decide +kernel
theorem dX3_takeAll_29 : decode cX3_takeAll 29 = .ok (.putfield 22, 3) := by decide +kernel
theorem dX3_takeAll_32 : decode cX3_takeAll 32 = .ok (.return_, 1) := by decide +kernel
theorem dX3_dealAt_0 : decode cX3_dealAt 0 = .ok (.aload_n 0, 1) := by decide +kernel
theorem dX3_dealAt_1 : decode cX3_dealAt 1 = .ok (.getfield 16, 3) := by decide +kernel
theorem dX3_dealAt_4 : decode cX3_dealAt 4 = .ok (.ifCond .le 20, 3) := by decide +kernel
theorem dX3_dealAt_7 : decode cX3_dealAt 7 = .ok (.iload_n 1, 1) := by decide +kernel
theorem dX3_dealAt_8 : decode cX3_dealAt 8 = .ok (.aload_n 0, 1) := by decide +kernel
theorem dX3_dealAt_9 : decode cX3_dealAt 9 = .ok (.getfield 7, 3) := by decide +kernel
theorem dX3_dealAt_12 : decode cX3_dealAt 12 = .ok (.if_icmp .ge 12, 3) := by decide +kernel
theorem dX3_dealAt_15 : decode cX3_dealAt 15 = .ok (.aload_n 0, 1) := by decide +kernel
theorem dX3_dealAt_16 : decode cX3_dealAt 16 = .ok (.getfield 16, 3) := by decide +kernel
theorem dX3_dealAt_19 : decode cX3_dealAt 19 = .ok (.iload_n 2, 1) := by decide +kernel
theorem dX3_dealAt_20 : decode cX3_dealAt 20 = .ok (.invokestatic 29, 3) := by decide +kernel
theorem dX3_dealAt_23 : decode cX3_dealAt 23 = .ok (.ireturn, 1) := by decide +kernel
theorem dX3_dealAt_24 : decode cX3_dealAt 24 = .ok (.aload_n 0, 1) := by decide +kernel
theorem dX3_dealAt_25 : decode cX3_dealAt 25 = .ok (.getfield 16, 3) := by decide +kernel
theorem dX3_dealAt_28 : decode cX3_dealAt 28 = .ok (.ifCond .le 24, 3) := by decide +kernel
theorem dX3_dealAt_31 : decode cX3_dealAt 31 = .ok (.iload_n 1, 1) := by decide +kernel
theorem dX3_dealAt_32 : decode cX3_dealAt 32 = .ok (.aload_n 0, 1) := by decide +kernel
theorem dX3_dealAt_33 : decode cX3_dealAt 33 = .ok (.getfield 13, 3) := by decide +kernel
theorem dX3_dealAt_36 : decode cX3_dealAt 36 = .ok (.if_icmp .le 16, 3) := by decide +kernel
theorem dX3_dealAt_39 : decode cX3_dealAt 39 = .ok (.aload_n 0, 1) := by decide +kernel
theorem dX3_dealAt_40 : decode cX3_dealAt 40 = .ok (.getfield 16, 3) := by decide +kernel
theorem dX3_dealAt_43 : decode cX3_dealAt 43 = .ok (.aload_n 0, 1) := by decide +kernel
theorem dX3_dealAt_44 : decode cX3_dealAt 44 = .ok (.getfield 19, 3) := by decide +kernel
theorem dX3_dealAt_47 : decode cX3_dealAt 47 = .ok (.invokestatic 29, 3) := by decide +kernel
theorem dX3_dealAt_50 : decode cX3_dealAt 50 = .ok (.ineg, 1) := by decide +kernel
theorem dX3_dealAt_51 : decode cX3_dealAt 51 = .ok (.ireturn, 1) := by decide +kernel
theorem dX3_dealAt_52 : decode cX3_dealAt 52 = .ok (.iconst 0, 1) := by decide +kernel
theorem dX3_dealAt_53 : decode cX3_dealAt 53 = .ok (.ireturn, 1) := by decide +kernel
theorem dX3_settle_0 : decode cX3_settle 0 = .ok (.aload_n 0, 1) := by decide +kernel
theorem dX3_settle_1 : decode cX3_settle 1 = .ok (.dup, 1) := by decide +kernel
theorem dX3_settle_2 : decode cX3_settle 2 = .ok (.getfield 19, 3) := by decide +kernel
theorem dX3_settle_5 : decode cX3_settle 5 = .ok (.iload_n 1, 1) := by decide +kernel
theorem dX3_settle_6 : decode cX3_settle 6 = .ok (.iadd, 1) := by decide +kernel
theorem dX3_settle_7 : decode cX3_settle 7 = .ok (.putfield 19, 3) := by decide +kernel
theorem dX3_settle_10 : decode cX3_settle 10 = .ok (.aload_n 0, 1) := by decide +kernel
theorem dX3_settle_11 : decode cX3_settle 11 = .ok (.dup, 1) := by decide +kernel
theorem dX3_settle_12 : decode cX3_settle 12 = .ok (.getfield 22, 3) := by decide +kernel
theorem dX3_settle_15 : decode cX3_settle 15 = .ok (.iload_n 1, 1) := by decide +kernel
theorem dX3_settle_16 : decode cX3_settle 16 = .ok (.iload_n 2, 1) := by decide +kernel
theorem dX3_settle_17 : decode cX3_settle 17 = .ok (.imul, 1) := by decide +kernel
theorem dX3_settle_18 : decode cX3_settle 18 = .ok (.iadd, 1) := by decide +kernel
theorem dX3_settle_19 : decode cX3_settle 19 = .ok (.putfield 22, 3) := by decide +kernel
theorem dX3_settle_22 : decode cX3_settle 22 = .ok (.return_, 1) := by decide +kernel
theorem dX4_init_0 : decode cX4_init 0 = .ok (.aload_n 0, 1) := by decide +kernel
theorem dX4_init_1 : decode cX4_init 1 = .ok (.invokespecial 3, 3) := by decide +kernel
theorem dX4_init_4 : decode cX4_init 4 = .ok (.aload_n 0, 1) := by decide +kernel
theorem dX4_init_5 : decode cX4_init 5 = .ok (.iconst 5, 1) := by decide +kernel
theorem dX4_init_6 : decode cX4_init 6 = .ok (.newarray .int, 2) := by decide +kernel
theorem dX4_init_8 : decode cX4_init 8 = .ok (.putfield 9, 3) := by decide +kernel
theorem dX4_init_11 : decode cX4_init 11 = .ok (.aload_n 0, 1) := by decide +kernel
theorem dX4_init_12 : decode cX4_init 12 = .ok (.iconst 0, 1) := by decide +kernel
theorem dX4_init_13 : decode cX4_init 13 = .ok (.putfield 15, 3) := by decide +kernel
theorem dX4_init_16 : decode cX4_init 16 = .ok (.aload_n 0, 1) := by decide +kernel
theorem dX4_init_17 : decode cX4_init 17 = .ok (.iconst 0, 1) := by decide +kernel
theorem dX4_init_18 : decode cX4_init 18 = .ok (.putfield 19, 3) := by decide +kernel
theorem dX4_init_21 : decode cX4_init 21 = .ok (.aload_n 0, 1) := by decide +kernel
theorem dX4_init_22 : decode cX4_init 22 = .ok (.iconst 0, 1) := by decide +kernel
theorem dX4_init_23 : decode cX4_init 23 = .ok (.putfield 22, 3) := by decide +kernel
theorem dX4_init_26 : decode cX4_init 26 = .ok (.aload_n 0, 1) := by decide +kernel
theorem dX4_init_27 : decode cX4_init 27 = .ok (.iconst 0, 1) := by decide +kernel
theorem dX4_init_28 : decode cX4_init 28 = .ok (.putfield 25, 3) := by decide +kernel
theorem dX4_init_31 : decode cX4_init 31 = .ok (.aload_n 0, 1) := by decide +kernel
theorem dX4_init_32 : decode cX4_init 32 = .ok (.iconst 0, 1) := by decide +kernel
theorem dX4_init_33 : decode cX4_init 33 = .ok (.putfield 28, 3) := by decide +kernel
theorem dX4_init_36 : decode cX4_init 36 = .ok (.aload_n 0, 1) := by decide +kernel
theorem dX4_init_37 : decode cX4_init 37 = .ok (.aload_n 1, 1) := by decide +kernel
theorem dX4_init_38 : decode cX4_init 38 = .ok (.putfield 31, 3) := by decide +kernel
theorem dX4_init_41 : decode cX4_init 41 = .ok (.return_, 1) := by decide +kernel
set_option maxRecDepth 20000 in
theorem ggX4_readInto_X2_clear : GoodIn wsX4_readInto wsX2_clear := goodIn_r _ [8, 9, 10, 11, 12, 13, 14, 15, 16, 17, 18, 19, 20, 21, 22, 23, 24, 25, 26, 169, 170, 171, 172, 173, 174, 175, 176, 177, 178, 179, 180, 181, 182, 183, 184, 185] (by decide +kernel) (by decide +kernel)
set_option maxRecDepth 20000 in
theorem gX4_readInto_X2_clear : GoodIn wsX4_readInto (wsV RX4 35 RX2 yX2_clear wsX2_clear) := goodIn_app (goodIn_of _ (by decide +kernel)) ggX4_readInto_X2_clear
set_option maxRecDepth 20000 in
theorem ggX4_readInto_X4_readMarket : GoodIn wsX4_readInto wsX4_readMarket := goodIn_r _ [31, 32, 33, 34, 35, 36, 37, 38, 39, 40, 30, 41, 42, 43, 44, 45, 1, 46, 47, 48, 3, 49, 50, 51, 52, 53, 54, 55, 56, 57, 58, 59, 60, 61, 62, 63, 64, 65, 66, 67, 68, 69, 70, 71, 72, 73, 74, 75, 76, 77, 78, 79, 80, 81, 82, 83, 84, 85, 86, 87, 88, 89, 90, 91, 92, 93, 94, 95, 96, 97, 98, 99, 100, 101, 102, 103, 104, 105, 106, 107, 108, 109, 110, 111, 112, 113, 114, 115, 116, 2, 117, 118, 119, 120, 121, 122, 123, 124, 162, 163, 164, 165, 166, 167, 168, 169, 170, 171, 172, 173, 174, 175, 176, 177, 178, 179, 180, 186, 187] (by decide +kernel) (by decide +kernel)
set_option maxRecDepth 20000 in
theorem gX4_readInto_X4_readMarket : GoodIn wsX4_readInto (wsV RX4 40 RX4 yX4_readMarket wsX4_readMarket) := goodIn_app (goodIn_of _ (by decide +kernel)) ggX4_readInto_X4_readMarket
set_option maxRecDepth 20000 in
theorem ggX4_readInto_X4_readStart : GoodIn wsX4_readInto wsX4_readStart := goodIn_r _ [128, 129, 130, 34, 131, 132, 133, 134, 38, 39, 40, 30, 41, 42, 43, 44, 45, 1, 46, 47, 48, 3, 49, 50, 51, 52, 53, 54, 55, 56, 57, 58, 59, 60, 61, 62, 63, 64, 65, 66, 67, 68, 69, 70, 71, 72, 73, 74, 75, 76, 77, 78, 79, 80, 81, 82, 83, 84, 85, 86, 87, 88, 89, 90, 91, 92, 93, 94, 95, 96, 97, 98, 99, 100, 101, 102, 103, 104, 105, 106, 107, 108, 109, 110, 111, 112, 113, 114, 115, 116, 2, 117, 118, 119, 120, 121, 122, 123, 124, 162, 163, 164, 165, 166, 167, 168, 169, 170, 171, 172, 173, 174, 175, 176, 177, 178, 179, 180, 186, 187] (by decide +kernel) (by decide +kernel)
set_option maxRecDepth 20000 in
theorem gX4_readInto_X4_readStart : GoodIn wsX4_readInto (wsV RX4 44 RX4 yX4_readStart wsX4_readStart) := goodIn_app (goodIn_of _ (by decide +kernel)) ggX4_readInto_X4_readStart
set_option maxRecDepth 20000 in
theorem ggX4_readInto_X4_scan : GoodIn wsX4_readInto wsX4_scan := goodIn_r _ [45, 1, 46, 47, 48, 3, 49, 50, 51, 52, 53, 54, 55, 56, 57, 58, 30, 59, 162, 163, 164, 165, 166, 167, 168, 186, 187] (by decide +kernel) (by decide +kernel)
set_option maxRecDepth 20000 in
theorem gX4_readInto_X4_scan : GoodIn wsX4_readInto (wsV RX4 47 RX4 yX4_scan wsX4_scan) := goodIn_app (goodIn_of _ (by decide +kernel)) ggX4_readInto_X4_scan
set_option maxRecDepth 20000 in
theorem ggX4_readInto_X4_readKind : GoodIn wsX4_readInto wsX4_readKind := goodIn_r _ [138, 139, 140, 34, 141, 142, 143, 144, 145, 60, 61, 62, 30, 63, 3, 1, 48, 46, 64, 65, 66, 67, 68, 69, 70, 71, 72, 73, 74, 75, 50, 51, 52, 53, 54, 55, 56, 76, 77, 78, 79, 80, 81, 82, 83, 84, 85, 86, 87, 88, 89, 90, 91, 92, 93, 94, 95, 96, 97, 98, 99, 100, 101, 102, 103, 104, 105, 106, 107, 108, 109, 110, 111, 112, 113, 114, 115, 116, 2, 146, 147, 148, 7, 149, 9, 150, 151, 152, 153, 154, 155, 156, 157, 49, 42, 43, 44, 45, 47, 57, 58, 59, 158, 159, 160, 161, 121, 122, 123, 124, 117, 118, 119, 120, 162, 163, 164, 165, 166, 167, 168, 188, 189, 190, 191, 192, 193, 194, 195, 196, 186, 187, 169, 170, 171, 172, 173, 174, 175, 176, 177, 178, 179, 180] (by decide +kernel) (by decide +kernel)
set_option maxRecDepth 20000 in
theorem gX4_readInto_X4_readKind : GoodIn wsX4_readInto (wsV RX4 50 RX4 yX4_readKind wsX4_readKind) := goodIn_app (goodIn_of _ (by decide +kernel)) ggX4_readInto_X4_readKind
theorem dX4_readInto_0 : decode cX4_readInto 0 = .ok (.aload_n 0, 1) := by decide +kernel
theorem dX4_readInto_1 : decode cX4_readInto 1 = .ok (.iconst 0, 1) := by decide +kernel
theorem dX4_readInto_2 : decode cX4_readInto 2 = .ok (.putfield 15, 3) := by decide +kernel
theorem dX4_readInto_5 : decode cX4_readInto 5 = .ok (.aload_n 0, 1) := by decide +kernel
theorem dX4_readInto_6 : decode cX4_readInto 6 = .ok (.iconst 0, 1) := by decide +kernel
theorem dX4_readInto_7 : decode cX4_readInto 7 = .ok (.putfield 28, 3) := by decide +kernel
theorem dX4_readInto_10 : decode cX4_readInto 10 = .ok (.aload_n 1, 1) := by decide +kernel
theorem dX4_readInto_11 : decode cX4_readInto 11 = .ok (.invokevirtual 35, 3) := by decide +kernel
theorem dX4_readInto_14 : decode cX4_readInto 14 = .ok (.aload_n 0, 1) := by decide +kernel
theorem dX4_readInto_15 : decode cX4_readInto 15 = .ok (.aload_n 1, 1) := by decide +kernel
theorem dX4_readInto_16 : decode cX4_readInto 16 = .ok (.invokevirtual 40, 3) := by decide +kernel
theorem dX4_readInto_19 : decode cX4_readInto 19 = .ok (.ifCond .eq 15, 3) := by decide +kernel
theorem dX4_readInto_22 : decode cX4_readInto 22 = .ok (.aload_n 0, 1) := by decide +kernel
theorem dX4_readInto_23 : decode cX4_readInto 23 = .ok (.aload_n 1, 1) := by decide +kernel
theorem dX4_readInto_24 : decode cX4_readInto 24 = .ok (.invokevirtual 44, 3) := by decide +kernel
theorem dX4_readInto_27 : decode cX4_readInto 27 = .ok (.ifCond .eq 7, 3) := by decide +kernel
theorem dX4_readInto_30 : decode cX4_readInto 30 = .ok (.iconst 1, 1) := by decide +kernel
theorem dX4_readInto_31 : decode cX4_readInto 31 = .ok (.goto 4, 3) := by decide +kernel
theorem dX4_readInto_34 : decode cX4_readInto 34 = .ok (.iconst 0, 1) := by decide +kernel
theorem dX4_readInto_35 : decode cX4_readInto 35 = .ok (.istore_n 2, 1) := by decide +kernel
theorem dX4_readInto_36 : decode cX4_readInto 36 = .ok (.iconst 0, 1) := by decide +kernel
theorem dX4_readInto_37 : decode cX4_readInto 37 = .ok (.istore_n 3, 1) := by decide +kernel
theorem dX4_readInto_38 : decode cX4_readInto 38 = .ok (.iload_n 2, 1) := by decide +kernel
theorem dX4_readInto_39 : decode cX4_readInto 39 = .ok (.ifCond .eq 39, 3) := by decide +kernel
theorem dX4_readInto_42 : decode cX4_readInto 42 = .ok (.iload_n 3, 1) := by decide +kernel
theorem dX4_readInto_43 : decode cX4_readInto 43 = .ok (.iconst 5, 1) := by decide +kernel
theorem dX4_readInto_44 : decode cX4_readInto 44 = .ok (.if_icmp .gt 34, 3) := by decide +kernel
theorem dX4_readInto_47 : decode cX4_readInto 47 = .ok (.aload_n 0, 1) := by decide +kernel
theorem dX4_readInto_48 : decode cX4_readInto 48 = .ok (.invokevirtual 47, 3) := by decide +kernel
theorem dX4_readInto_51 : decode cX4_readInto 51 = .ok (.aload_n 0, 1) := by decide +kernel
theorem dX4_readInto_52 : decode cX4_readInto 52 = .ok (.getfield 19, 3) := by decide +kernel
theorem dX4_readInto_55 : decode cX4_readInto 55 = .ok (.ifCond .eq 15, 3) := by decide +kernel
theorem dX4_readInto_58 : decode cX4_readInto 58 = .ok (.aload_n 0, 1) := by decide +kernel
theorem dX4_readInto_59 : decode cX4_readInto 59 = .ok (.aload_n 1, 1) := by decide +kernel
theorem dX4_readInto_60 : decode cX4_readInto 60 = .ok (.invokevirtual 50, 3) := by decide +kernel
theorem dX4_readInto_63 : decode cX4_readInto 63 = .ok (.ifCond .eq 7, 3) := by decide +kernel
theorem dX4_readInto_66 : decode cX4_readInto 66 = .ok (.iconst 1, 1) := by decide +kernel
theorem dX4_readInto_67 : decode cX4_readInto 67 = .ok (.goto 4, 3) := by decide +kernel
theorem dX4_readInto_70 : decode cX4_readInto 70 = .ok (.iconst 0, 1) := by decide +kernel
theorem dX4_readInto_71 : decode cX4_readInto 71 = .ok (.istore_n 2, 1) := by decide +kernel
theorem dX4_readInto_72 : decode cX4_readInto 72 = .ok (.iinc 3 1, 3) := by decide +kernel
theorem dX4_readInto_75 : decode cX4_readInto 75 = .ok (.goto (-37), 3) := by decide +kernel
theorem dX4_readInto_78 : decode cX4_readInto 78 = .ok (.return_, 1) := by decide +kernel
set_option maxRecDepth 20000 in
theorem ggX4_readMarket_X4_takeName : GoodIn wsX4_readMarket wsX4_takeName := goodIn_r _ [11, 12, 13, 14, 10, 15, 16, 17, 18, 19, 20, 21, 22, 23, 24, 25, 26, 27, 28, 29, 30, 31, 32, 33, 34, 35, 36, 37, 38, 39, 40, 41, 42, 43, 44, 45, 46, 47, 48, 49, 50, 51, 52, 53, 54, 55, 56, 57, 58, 59, 60, 61, 62, 63, 64, 65, 66, 67, 68, 69, 70, 71, 72, 73, 74, 75, 76, 77, 78, 79, 80, 81, 82, 83, 84, 85, 86, 87, 88, 89, 98, 99, 100, 101, 102, 103, 104, 117, 118] (by decide +kernel) (by decide +kernel)
set_option maxRecDepth 20000 in
theorem gX4_readMarket_X4_takeName : GoodIn wsX4_readMarket (wsV RX4 55 RX4 yX4_takeName wsX4_takeName) := goodIn_app (goodIn_of _ (by decide +kernel)) ggX4_readMarket_X4_takeName
set_option maxRecDepth 20000 in
theorem ggX4_readMarket_X4_takeNumbers : GoodIn wsX4_readMarket wsX4_takeNumbers := goodIn_r _ [93, 3, 21, 20, 94, 95, 96, 10, 97, 12, 13, 14, 15, 16, 17, 18, 19, 22, 23, 24, 25, 26, 27, 28, 29, 30, 31, 85, 86, 87, 88, 89, 98, 99, 100, 101, 102, 103, 104, 117, 118] (by decide +kernel) (by decide +kernel)
set_option maxRecDepth 20000 in
theorem gX4_readMarket_X4_takeNumbers : GoodIn wsX4_readMarket (wsV RX4 65 RX4 yX4_takeNumbers wsX4_takeNumbers) := goodIn_app (goodIn_of _ (by decide +kernel)) ggX4_readMarket_X4_takeNumbers
theorem dX4_readMarket_0 : decode cX4_readMarket 0 = .ok (.aload_n 0, 1) := by decide +kernel
theorem dX4_readMarket_1 : decode cX4_readMarket 1 = .ok (.ldc 53, 2) := by decide +kernel
theorem dX4_readMarket_3 : decode cX4_readMarket 3 = .ok (.invokevirtual 55, 3) := by decide +kernel
theorem dX4_readMarket_6 : decode cX4_readMarket 6 = .ok (.ifCond .eq 16, 3) := by decide +kernel
theorem dX4_readMarket_9 : decode cX4_readMarket 9 = .ok (.aload_n 0, 1) := by decide +kernel
theorem dX4_readMarket_10 : decode cX4_readMarket 10 = .ok (.getstatic 59, 3) := by decide +kernel
theorem dX4_readMarket_13 : decode cX4_readMarket 13 = .ok (.getstatic 62, 3) := by decide +kernel
theorem dX4_readMarket_16 : decode cX4_readMarket 16 = .ok (.invokevirtual 65, 3) := by decide +kernel
theorem dX4_readMarket_19 : decode cX4_readMarket 19 = .ok (.ifCond .ne 5, 3) := by decide +kernel
theorem dX4_readMarket_22 : decode cX4_readMarket 22 = .ok (.iconst 0, 1) := by decide +kernel
theorem dX4_readMarket_23 : decode cX4_readMarket 23 = .ok (.ireturn, 1) := by decide +kernel
theorem dX4_readMarket_24 : decode cX4_readMarket 24 = .ok (.aload_n 1, 1) := by decide +kernel
theorem dX4_readMarket_25 : decode cX4_readMarket 25 = .ok (.aload_n 0, 1) := by decide +kernel
theorem dX4_readMarket_26 : decode cX4_readMarket 26 = .ok (.getfield 9, 3) := by decide +kernel
theorem dX4_readMarket_29 : decode cX4_readMarket 29 = .ok (.iconst 0, 1) := by decide +kernel
theorem dX4_readMarket_30 : decode cX4_readMarket 30 = .ok (.iaload, 1) := by decide +kernel
theorem dX4_readMarket_31 : decode cX4_readMarket 31 = .ok (.putfield 69, 3) := by decide +kernel
theorem dX4_readMarket_34 : decode cX4_readMarket 34 = .ok (.aload_n 1, 1) := by decide +kernel
theorem dX4_readMarket_35 : decode cX4_readMarket 35 = .ok (.aload_n 0, 1) := by decide +kernel
theorem dX4_readMarket_36 : decode cX4_readMarket 36 = .ok (.getfield 9, 3) := by decide +kernel
theorem dX4_readMarket_39 : decode cX4_readMarket 39 = .ok (.iconst 1, 1) := by decide +kernel
theorem dX4_readMarket_40 : decode cX4_readMarket 40 = .ok (.iaload, 1) := by decide +kernel
theorem dX4_readMarket_41 : decode cX4_readMarket 41 = .ok (.putfield 72, 3) := by decide +kernel
theorem dX4_readMarket_44 : decode cX4_readMarket 44 = .ok (.aload_n 1, 1) := by decide +kernel
theorem dX4_readMarket_45 : decode cX4_readMarket 45 = .ok (.aload_n 0, 1) := by decide +kernel
theorem dX4_readMarket_46 : decode cX4_readMarket 46 = .ok (.getfield 9, 3) := by decide +kernel
theorem dX4_readMarket_49 : decode cX4_readMarket 49 = .ok (.iconst 2, 1) := by decide +kernel
theorem dX4_readMarket_50 : decode cX4_readMarket 50 = .ok (.iaload, 1) := by decide +kernel
theorem dX4_readMarket_51 : decode cX4_readMarket 51 = .ok (.putfield 75, 3) := by decide +kernel
theorem dX4_readMarket_54 : decode cX4_readMarket 54 = .ok (.iconst 1, 1) := by decide +kernel
theorem dX4_readMarket_55 : decode cX4_readMarket 55 = .ok (.ireturn, 1) := by decide +kernel
set_option maxRecDepth 20000 in
theorem ggX4_readStart_X4_takeName : GoodIn wsX4_readStart wsX4_takeName := goodIn_r _ [12, 13, 14, 15, 11, 16, 17, 18, 19, 20, 21, 22, 23, 24, 25, 26, 27, 28, 29, 30, 31, 32, 33, 34, 35, 36, 37, 38, 39, 40, 41, 42, 43, 44, 45, 46, 47, 48, 49, 50, 51, 52, 53, 54, 55, 56, 57, 58, 59, 60, 61, 62, 63, 64, 65, 66, 67, 68, 69, 70, 71, 72, 73, 74, 75, 76, 77, 78, 79, 80, 81, 82, 83, 84, 85, 86, 87, 88, 89, 90, 99, 100, 101, 102, 103, 104, 105, 118, 119] (by decide +kernel) (by decide +kernel)
set_option maxRecDepth 20000 in
theorem gX4_readStart_X4_takeName : GoodIn wsX4_readStart (wsV RX4 55 RX4 yX4_takeName wsX4_takeName) := goodIn_app (goodIn_of _ (by decide +kernel)) ggX4_readStart_X4_takeName
set_option maxRecDepth 20000 in
theorem ggX4_readStart_X4_takeNumbers : GoodIn wsX4_readStart wsX4_takeNumbers := goodIn_r _ [94, 3, 22, 21, 95, 96, 97, 11, 98, 13, 14, 15, 16, 17, 18, 19, 20, 23, 24, 25, 26, 27, 28, 29, 30, 31, 32, 86, 87, 88, 89, 90, 99, 100, 101, 102, 103, 104, 105, 118, 119] (by decide +kernel) (by decide +kernel)
set_option maxRecDepth 20000 in
theorem gX4_readStart_X4_takeNumbers : GoodIn wsX4_readStart (wsV RX4 65 RX4 yX4_takeNumbers wsX4_takeNumbers) := goodIn_app (goodIn_of _ (by decide +kernel)) ggX4_readStart_X4_takeNumbers
theorem dX4_readStart_0 : decode cX4_readStart 0 = .ok (.aload_n 0, 1) := by decide +kernel
theorem dX4_readStart_1 : decode cX4_readStart 1 = .ok (.ldc 78, 2) := by decide +kernel
theorem dX4_readStart_3 : decode cX4_readStart 3 = .ok (.invokevirtual 55, 3) := by decide +kernel
theorem dX4_readStart_6 : decode cX4_readStart 6 = .ok (.ifCond .eq 16, 3) := by decide +kernel
theorem dX4_readStart_9 : decode cX4_readStart 9 = .ok (.aload_n 0, 1) := by decide +kernel
theorem dX4_readStart_10 : decode cX4_readStart 10 = .ok (.getstatic 79, 3) := by decide +kernel
theorem dX4_readStart_13 : decode cX4_readStart 13 = .ok (.getstatic 82, 3) := by decide +kernel
theorem dX4_readStart_16 : decode cX4_readStart 16 = .ok (.invokevirtual 65, 3) := by decide +kernel
theorem dX4_readStart_19 : decode cX4_readStart 19 = .ok (.ifCond .ne 5, 3) := by decide +kernel
theorem dX4_readStart_22 : decode cX4_readStart 22 = .ok (.iconst 0, 1) := by decide +kernel
theorem dX4_readStart_23 : decode cX4_readStart 23 = .ok (.ireturn, 1) := by decide +kernel
theorem dX4_readStart_24 : decode cX4_readStart 24 = .ok (.aload_n 1, 1) := by decide +kernel
theorem dX4_readStart_25 : decode cX4_readStart 25 = .ok (.aload_n 0, 1) := by decide +kernel
theorem dX4_readStart_26 : decode cX4_readStart 26 = .ok (.getfield 9, 3) := by decide +kernel
theorem dX4_readStart_29 : decode cX4_readStart 29 = .ok (.iconst 0, 1) := by decide +kernel
theorem dX4_readStart_30 : decode cX4_readStart 30 = .ok (.iaload, 1) := by decide +kernel
theorem dX4_readStart_31 : decode cX4_readStart 31 = .ok (.putfield 85, 3) := by decide +kernel
theorem dX4_readStart_34 : decode cX4_readStart 34 = .ok (.aload_n 1, 1) := by decide +kernel
theorem dX4_readStart_35 : decode cX4_readStart 35 = .ok (.aload_n 0, 1) := by decide +kernel
theorem dX4_readStart_36 : decode cX4_readStart 36 = .ok (.getfield 9, 3) := by decide +kernel
theorem dX4_readStart_39 : decode cX4_readStart 39 = .ok (.iconst 1, 1) := by decide +kernel
theorem dX4_readStart_40 : decode cX4_readStart 40 = .ok (.iaload, 1) := by decide +kernel
theorem dX4_readStart_41 : decode cX4_readStart 41 = .ok (.putfield 88, 3) := by decide +kernel
theorem dX4_readStart_44 : decode cX4_readStart 44 = .ok (.aload_n 1, 1) := by decide +kernel
theorem dX4_readStart_45 : decode cX4_readStart 45 = .ok (.aload_n 0, 1) := by decide +kernel
theorem dX4_readStart_46 : decode cX4_readStart 46 = .ok (.getfield 9, 3) := by decide +kernel
theorem dX4_readStart_49 : decode cX4_readStart 49 = .ok (.iconst 2, 1) := by decide +kernel
theorem dX4_readStart_50 : decode cX4_readStart 50 = .ok (.iaload, 1) := by decide +kernel
theorem dX4_readStart_51 : decode cX4_readStart 51 = .ok (.putfield 91, 3) := by decide +kernel
theorem dX4_readStart_54 : decode cX4_readStart 54 = .ok (.aload_n 1, 1) := by decide +kernel
theorem dX4_readStart_55 : decode cX4_readStart 55 = .ok (.aload_n 1, 1) := by decide +kernel
theorem dX4_readStart_56 : decode cX4_readStart 56 = .ok (.getfield 85, 3) := by decide +kernel
theorem dX4_readStart_59 : decode cX4_readStart 59 = .ok (.putfield 94, 3) := by decide +kernel
theorem dX4_readStart_62 : decode cX4_readStart 62 = .ok (.iconst 1, 1) := by decide +kernel
theorem dX4_readStart_63 : decode cX4_readStart 63 = .ok (.ireturn, 1) := by decide +kernel
set_option maxRecDepth 20000 in
theorem ggX4_readKind_X4_nameIs : GoodIn wsX4_readKind wsX4_nameIs := goodIn_r _ [13, 14, 15, 16, 17, 18, 19, 20, 21, 22, 23, 24, 25, 26, 27, 28, 29, 30, 31, 32, 33, 34, 35, 36, 37, 38, 39, 40, 41, 42, 43, 44, 45, 46, 47, 48, 49, 50, 51, 52, 53, 54, 55, 56, 57, 58, 59, 60, 61, 62, 63, 64, 65, 66, 67, 68, 69, 70, 71, 72, 73, 114, 115, 116, 117, 118, 119, 120, 130, 131] (by decide +kernel) (by decide +kernel)
set_option maxRecDepth 20000 in
theorem gX4_readKind_X4_nameIs : GoodIn wsX4_readKind (wsV RX4 99 RX4 yX4_nameIs wsX4_nameIs) := goodIn_app (goodIn_of _ (by decide +kernel)) ggX4_readKind_X4_nameIs
set_option maxRecDepth 20000 in
theorem ggX4_readKind_X4_failed : GoodIn wsX4_readKind wsX4_failed := goodIn_r _ [77, 78, 114, 115, 116, 117, 118, 119, 120] (by decide +kernel) (by decide +kernel)
set_option maxRecDepth 20000 in
theorem gX4_readKind_X4_failed : GoodIn wsX4_readKind (wsV RX4 102 RX4 yX4_failed wsX4_failed) := goodIn_app (goodIn_of _ (by decide +kernel)) ggX4_readKind_X4_failed
set_option maxRecDepth 20000 in
theorem ggX4_readKind_X2_nextKind : GoodIn wsX4_readKind wsX2_nextKind := goodIn_r _ [83, 84, 85, 86, 132, 133, 134, 135, 136, 137, 138, 139, 140, 141, 142, 143, 121, 122, 123, 124, 125, 126, 127, 128, 129] (by decide +kernel) (by decide +kernel)
set_option maxRecDepth 20000 in
theorem gX4_readKind_X2_nextKind : GoodIn wsX4_readKind (wsV RX4 106 RX2 yX2_nextKind wsX2_nextKind) := goodIn_app (goodIn_of _ (by decide +kernel)) ggX4_readKind_X2_nextKind
set_option maxRecDepth 20000 in
theorem ggX4_readKind_X4_readWay : GoodIn wsX4_readKind wsX4_readWay := goodIn_r _ [90, 91, 92, 93, 94, 95, 96, 12, 97, 15, 17, 98, 16, 14, 30, 31, 32, 33, 34, 35, 36, 99, 100, 101, 102, 103, 104, 105, 9, 10, 11, 13, 18, 19, 20, 21, 22, 23, 24, 25, 26, 27, 28, 29, 37, 38, 39, 40, 41, 42, 43, 44, 45, 46, 47, 48, 49, 50, 51, 52, 53, 54, 55, 56, 57, 58, 59, 60, 61, 62, 63, 64, 65, 66, 67, 68, 69, 70, 71, 72, 73, 74, 75, 76, 77, 78, 106, 107, 108, 109, 121, 122, 123, 124, 125, 126, 127, 128, 129, 114, 115, 116, 117, 118, 119, 120, 130, 131] (by decide +kernel) (by decide +kernel)
set_option maxRecDepth 20000 in
theorem gX4_readKind_X4_readWay : GoodIn wsX4_readKind (wsV RX4 110 RX4 yX4_readWay wsX4_readWay) := goodIn_app (goodIn_of _ (by decide +kernel)) ggX4_readKind_X4_readWay
set_option maxRecDepth 20000 in
theorem ggX4_readKind_X4_takeNumbers : GoodIn wsX4_readKind wsX4_takeNumbers := goodIn_r _ [113, 3, 93, 14, 106, 107, 108, 12, 109, 94, 95, 96, 97, 15, 17, 98, 16, 30, 31, 32, 33, 34, 35, 36, 99, 100, 101, 74, 75, 76, 77, 78, 114, 115, 116, 117, 118, 119, 120, 130, 131] (by decide +kernel) (by decide +kernel)
set_option maxRecDepth 20000 in
theorem gX4_readKind_X4_takeNumbers : GoodIn wsX4_readKind (wsV RX4 65 RX4 yX4_takeNumbers wsX4_takeNumbers) := goodIn_app (goodIn_of _ (by decide +kernel)) ggX4_readKind_X4_takeNumbers
theorem dX4_readKind_0 : decode cX4_readKind 0 = .ok (.aload_n 0, 1) := by decide +kernel
theorem dX4_readKind_1 : decode cX4_readKind 1 = .ok (.ldc 97, 2) := by decide +kernel
theorem dX4_readKind_3 : decode cX4_readKind 3 = .ok (.invokevirtual 99, 3) := by decide +kernel
theorem dX4_readKind_6 : decode cX4_readKind 6 = .ok (.ifCond .ne 9, 3) := by decide +kernel
theorem dX4_readKind_9 : decode cX4_readKind 9 = .ok (.aload_n 0, 1) := by decide +kernel
theorem dX4_readKind_10 : decode cX4_readKind 10 = .ok (.iconst 1, 1) := by decide +kernel
theorem dX4_readKind_11 : decode cX4_readKind 11 = .ok (.invokevirtual 102, 3) := by decide +kernel
theorem dX4_readKind_14 : decode cX4_readKind 14 = .ok (.ireturn, 1) := by decide +kernel
theorem dX4_readKind_15 : decode cX4_readKind 15 = .ok (.aload_n 1, 1) := by decide +kernel
theorem dX4_readKind_16 : decode cX4_readKind 16 = .ok (.invokevirtual 106, 3) := by decide +kernel
theorem dX4_readKind_19 : decode cX4_readKind 19 = .ok (.astore_n 2, 1) := by decide +kernel
theorem dX4_readKind_20 : decode cX4_readKind 20 = .ok (.aload_n 2, 1) := by decide +kernel
theorem dX4_readKind_21 : decode cX4_readKind 21 = .ok (.ifnonnull 9, 3) := by decide +kernel
theorem dX4_readKind_24 : decode cX4_readKind 24 = .ok (.aload_n 0, 1) := by decide +kernel
theorem dX4_readKind_25 : decode cX4_readKind 25 = .ok (.iconst 3, 1) := by decide +kernel
theorem dX4_readKind_26 : decode cX4_readKind 26 = .ok (.invokevirtual 102, 3) := by decide +kernel
theorem dX4_readKind_29 : decode cX4_readKind 29 = .ok (.ireturn, 1) := by decide +kernel
theorem dX4_readKind_30 : decode cX4_readKind 30 = .ok (.aload_n 0, 1) := by decide +kernel
theorem dX4_readKind_31 : decode cX4_readKind 31 = .ok (.aload_n 2, 1) := by decide +kernel
theorem dX4_readKind_32 : decode cX4_readKind 32 = .ok (.invokevirtual 110, 3) := by decide +kernel
theorem dX4_readKind_35 : decode cX4_readKind 35 = .ok (.ifCond .eq 16, 3) := by decide +kernel
theorem dX4_readKind_38 : decode cX4_readKind 38 = .ok (.aload_n 0, 1) := by decide +kernel
theorem dX4_readKind_39 : decode cX4_readKind 39 = .ok (.getstatic 114, 3) := by decide +kernel
theorem dX4_readKind_42 : decode cX4_readKind 42 = .ok (.getstatic 117, 3) := by decide +kernel
theorem dX4_readKind_45 : decode cX4_readKind 45 = .ok (.invokevirtual 65, 3) := by decide +kernel
theorem dX4_readKind_48 : decode cX4_readKind 48 = .ok (.ifCond .ne 5, 3) := by decide +kernel
theorem dX4_readKind_51 : decode cX4_readKind 51 = .ok (.iconst 0, 1) := by decide +kernel
theorem dX4_readKind_52 : decode cX4_readKind 52 = .ok (.ireturn, 1) := by decide +kernel
theorem dX4_readKind_53 : decode cX4_readKind 53 = .ok (.aload_n 2, 1) := by decide +kernel
theorem dX4_readKind_54 : decode cX4_readKind 54 = .ok (.aload_n 0, 1) := by decide +kernel
theorem dX4_readKind_55 : decode cX4_readKind 55 = .ok (.getfield 9, 3) := by decide +kernel
theorem dX4_readKind_58 : decode cX4_readKind 58 = .ok (.iconst 0, 1) := by decide +kernel
theorem dX4_readKind_59 : decode cX4_readKind 59 = .ok (.iaload, 1) := by decide +kernel
theorem dX4_readKind_60 : decode cX4_readKind 60 = .ok (.putfield 120, 3) := by decide +kernel
theorem dX4_readKind_63 : decode cX4_readKind 63 = .ok (.aload_n 2, 1) := by decide +kernel
theorem dX4_readKind_64 : decode cX4_readKind 64 = .ok (.aload_n 0, 1) := by decide +kernel
theorem dX4_readKind_65 : decode cX4_readKind 65 = .ok (.getfield 9, 3) := by decide +kernel
theorem dX4_readKind_68 : decode cX4_readKind 68 = .ok (.iconst 1, 1) := by decide +kernel
theorem dX4_readKind_69 : decode cX4_readKind 69 = .ok (.iaload, 1) := by decide +kernel
theorem dX4_readKind_70 : decode cX4_readKind 70 = .ok (.putfield 125, 3) := by decide +kernel
theorem dX4_readKind_73 : decode cX4_readKind 73 = .ok (.aload_n 2, 1) := by decide +kernel
theorem dX4_readKind_74 : decode cX4_readKind 74 = .ok (.aload_n 0, 1) := by decide +kernel
theorem dX4_readKind_75 : decode cX4_readKind 75 = .ok (.getfield 9, 3) := by decide +kernel
theorem dX4_readKind_78 : decode cX4_readKind 78 = .ok (.iconst 2, 1) := by decide +kernel
theorem dX4_readKind_79 : decode cX4_readKind 79 = .ok (.iaload, 1) := by decide +kernel
theorem dX4_readKind_80 : decode cX4_readKind 80 = .ok (.putfield 128, 3) := by decide +kernel
theorem dX4_readKind_83 : decode cX4_readKind 83 = .ok (.aload_n 2, 1) := by decide +kernel
theorem dX4_readKind_84 : decode cX4_readKind 84 = .ok (.aload_n 0, 1) := by decide +kernel
theorem dX4_readKind_85 : decode cX4_readKind 85 = .ok (.getfield 9, 3) := by decide +kernel
theorem dX4_readKind_88 : decode cX4_readKind 88 = .ok (.iconst 3, 1) := by decide +kernel
theorem dX4_readKind_89 : decode cX4_readKind 89 = .ok (.iaload, 1) := by decide +kernel
theorem dX4_readKind_90 : decode cX4_readKind 90 = .ok (.putfield 131, 3) := by decide +kernel
theorem dX4_readKind_93 : decode cX4_readKind 93 = .ok (.aload_n 2, 1) := by decide +kernel
theorem dX4_readKind_94 : decode cX4_readKind 94 = .ok (.aload_n 0, 1) := by decide +kernel
theorem dX4_readKind_95 : decode cX4_readKind 95 = .ok (.getfield 9, 3) := by decide +kernel
theorem dX4_readKind_98 : decode cX4_readKind 98 = .ok (.iconst 4, 1) := by decide +kernel
theorem dX4_readKind_99 : decode cX4_readKind 99 = .ok (.iaload, 1) := by decide +kernel
theorem dX4_readKind_100 : decode cX4_readKind 100 = .ok (.putfield 134, 3) := by decide +kernel
theorem dX4_readKind_103 : decode cX4_readKind 103 = .ok (.iconst 1, 1) := by decide +kernel
theorem dX4_readKind_104 : decode cX4_readKind 104 = .ok (.ireturn, 1) := by decide +kernel
set_option maxRecDepth 20000 in
theorem ggX4_readWay_X4_scan : GoodIn wsX4_readWay wsX4_scan := goodIn_r _ [8, 9, 10, 11, 12, 13, 3, 14, 15, 16, 17, 18, 19, 20, 21, 22, 7, 23, 99, 100, 101, 102, 103, 104, 105, 106, 107] (by decide +kernel) (by decide +kernel)
set_option maxRecDepth 20000 in
theorem gX4_readWay_X4_scan : GoodIn wsX4_readWay (wsV RX4 47 RX4 yX4_scan wsX4_scan) := goodIn_app (goodIn_of _ (by decide +kernel)) ggX4_readWay_X4_scan
set_option maxRecDepth 20000 in
theorem ggX4_readWay_X4_wayNamed : GoodIn wsX4_readWay wsX4_wayNamed := goodIn_r _ [27, 28, 29, 30, 7, 31, 13, 9, 12, 10, 32, 33, 34, 35, 36, 37, 38, 39, 40, 41, 42, 43, 14, 15, 16, 17, 18, 19, 20, 44, 45, 46, 47, 48, 49, 50, 51, 52, 53, 54, 55, 56, 57, 58, 59, 60, 61, 62, 63, 64, 65, 66, 67, 68, 69, 70, 71, 72, 73, 74, 75, 76, 77, 78, 79, 80, 99, 100, 101, 102, 103, 104, 105, 106, 107] (by decide +kernel) (by decide +kernel)
set_option maxRecDepth 20000 in
theorem gX4_readWay_X4_wayNamed : GoodIn wsX4_readWay (wsV RX4 137 RX4 yX4_wayNamed wsX4_wayNamed) := goodIn_app (goodIn_of _ (by decide +kernel)) ggX4_readWay_X4_wayNamed
set_option maxRecDepth 20000 in
theorem ggX4_readWay_X4_failed : GoodIn wsX4_readWay wsX4_failed := goodIn_r _ [84, 85, 99, 100, 101, 102, 103, 104, 105] (by decide +kernel) (by decide +kernel)
set_option maxRecDepth 20000 in
theorem gX4_readWay_X4_failed : GoodIn wsX4_readWay (wsV RX4 102 RX4 yX4_failed wsX4_failed) := goodIn_app (goodIn_of _ (by decide +kernel)) ggX4_readWay_X4_failed
set_option maxRecDepth 20000 in
theorem ggX4_readWay_X4_takeNumber : GoodIn wsX4_readWay wsX4_takeNumber := goodIn_r _ [89, 13, 3, 4, 5, 6, 7, 8, 9, 10, 11, 12, 14, 15, 16, 17, 18, 19, 20, 21, 22, 23, 81, 82, 83, 84, 85, 99, 100, 101, 102, 103, 104, 105, 106, 107] (by decide +kernel) (by decide +kernel)
set_option maxRecDepth 20000 in
theorem gX4_readWay_X4_takeNumber : GoodIn wsX4_readWay (wsV RX4 147 RX4 yX4_takeNumber wsX4_takeNumber) := goodIn_app (goodIn_of _ (by decide +kernel)) ggX4_readWay_X4_takeNumber
theorem dX4_readWay_0 : decode cX4_readWay 0 = .ok (.aload_n 0, 1) := by decide +kernel
theorem dX4_readWay_1 : decode cX4_readWay 1 = .ok (.invokevirtual 47, 3) := by decide +kernel
theorem dX4_readWay_4 : decode cX4_readWay 4 = .ok (.aload_n 1, 1) := by decide +kernel
theorem dX4_readWay_5 : decode cX4_readWay 5 = .ok (.aload_n 0, 1) := by decide +kernel
theorem dX4_readWay_6 : decode cX4_readWay 6 = .ok (.invokevirtual 137, 3) := by decide +kernel
theorem dX4_readWay_9 : decode cX4_readWay 9 = .ok (.putfield 141, 3) := by decide +kernel
theorem dX4_readWay_12 : decode cX4_readWay 12 = .ok (.aload_n 1, 1) := by decide +kernel
theorem dX4_readWay_13 : decode cX4_readWay 13 = .ok (.iconst 0, 1) := by decide +kernel
theorem dX4_readWay_14 : decode cX4_readWay 14 = .ok (.putfield 144, 3) := by decide +kernel
theorem dX4_readWay_17 : decode cX4_readWay 17 = .ok (.aload_n 1, 1) := by decide +kernel
theorem dX4_readWay_18 : decode cX4_readWay 18 = .ok (.getfield 141, 3) := by decide +kernel
theorem dX4_readWay_21 : decode cX4_readWay 21 = .ok (.tableswitch 80 0 3 #[31, 80, 37, 58], 31) := by decide +kernel
theorem dX4_readWay_52 : decode cX4_readWay 52 = .ok (.aload_n 0, 1) := by decide +kernel
theorem dX4_readWay_53 : decode cX4_readWay 53 = .ok (.iconst 1, 1) := by decide +kernel
theorem dX4_readWay_54 : decode cX4_readWay 54 = .ok (.invokevirtual 102, 3) := by decide +kernel
theorem dX4_readWay_57 : decode cX4_readWay 57 = .ok (.ireturn, 1) := by decide +kernel
theorem dX4_readWay_58 : decode cX4_readWay 58 = .ok (.aload_n 0, 1) := by decide +kernel
theorem dX4_readWay_59 : decode cX4_readWay 59 = .ok (.iconst 1, 1) := by decide +kernel
theorem dX4_readWay_60 : decode cX4_readWay 60 = .ok (.iconst 3, 1) := by decide +kernel
