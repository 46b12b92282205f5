theorem dX11_keep_12 : decode cX11_keep 12 = .ok (.iload_n 1, 1) := by decide +kernel
theorem dX11_keep_13 : decode cX11_keep 13 = .ok (.aload_n 0, 1) := by decide +kernel
theorem dX11_keep_14 : decode cX11_keep 14 = .ok (.getfield 37, 3) := by decide +kernel
theorem dX11_keep_17 : decode cX11_keep 17 = .ok (.iload_n 1, 1) := by decide +kernel
theorem dX11_keep_18 : decode cX11_keep 18 = .ok (.iaload, 1) := by decide +kernel
theorem dX11_keep_19 : decode cX11_keep 19 = .ok (.iastore, 1) := by decide +kernel
theorem dX11_keep_20 : decode cX11_keep 20 = .ok (.iinc 1 1, 3) := by decide +kernel
theorem dX11_keep_23 : decode cX11_keep 23 = .ok (.goto (-21), 3) := by decide +kernel
theorem dX11_keep_26 : decode cX11_keep 26 = .ok (.return_, 1) := by decide +kernel
theorem dX11_comeBack_0 : decode cX11_comeBack 0 = .ok (.iconst 0, 1) := by decide +kernel
theorem dX11_comeBack_1 : decode cX11_comeBack 1 = .ok (.istore_n 1, 1) := by decide +kernel
theorem dX11_comeBack_2 : decode cX11_comeBack 2 = .ok (.iload_n 1, 1) := by decide +kernel
theorem dX11_comeBack_3 : decode cX11_comeBack 3 = .ok (.bipush 17, 2) := by decide +kernel
theorem dX11_comeBack_5 : decode cX11_comeBack 5 = .ok (.if_icmp .ge 21, 3) := by decide +kernel
theorem dX11_comeBack_8 : decode cX11_comeBack 8 = .ok (.aload_n 0, 1) := by decide +kernel
theorem dX11_comeBack_9 : decode cX11_comeBack 9 = .ok (.getfield 37, 3) := by decide +kernel
theorem dX11_comeBack_12 : decode cX11_comeBack 12 = .ok (.iload_n 1, 1) := by decide +kernel
theorem dX11_comeBack_13 : decode cX11_comeBack 13 = .ok (.aload_n 0, 1) := by decide +kernel
theorem dX11_comeBack_14 : decode cX11_comeBack 14 = .ok (.getfield 40, 3) := by decide +kernel
theorem dX11_comeBack_17 : decode cX11_comeBack 17 = .ok (.iload_n 1, 1) := by decide +kernel
theorem dX11_comeBack_18 : decode cX11_comeBack 18 = .ok (.iaload, 1) := by decide +kernel
theorem dX11_comeBack_19 : decode cX11_comeBack 19 = .ok (.iastore, 1) := by decide +kernel
theorem dX11_comeBack_20 : decode cX11_comeBack 20 = .ok (.iinc 1 1, 3) := by decide +kernel
theorem dX11_comeBack_23 : decode cX11_comeBack 23 = .ok (.goto (-21), 3) := by decide +kernel
theorem dX11_comeBack_26 : decode cX11_comeBack 26 = .ok (.return_, 1) := by decide +kernel
set_option maxRecDepth 20000 in
theorem ggX11_years_X11_in : GoodIn wsX11_years wsX11_in := goodIn_r _ [10] (by decide +kernel) (by decide +kernel)
set_option maxRecDepth 20000 in
theorem gX11_years_X11_in : GoodIn wsX11_years (va_wsS RX11 68 yX11_in wsX11_in) := goodIn_app (goodIn_of _ (by decide +kernel)) ggX11_years_X11_in
set_option maxRecDepth 20000 in
theorem ggX11_years_X11_year : GoodIn wsX11_years wsX11_year := goodIn_r _ [14, 15, 16, 17, 18, 19, 6, 20, 21, 22, 23, 9, 24, 25, 26, 27, 28, 29, 30, 31, 32, 33, 34, 35, 36, 37, 38, 39, 40, 41, 42, 43, 44, 45, 46, 47, 48, 49, 50, 51, 52, 53, 54, 55, 56, 57, 58, 59, 60, 61, 62, 63, 64, 65, 66, 67, 68, 69, 70, 71, 72, 73, 74, 75, 76, 77, 78, 79, 80, 81, 82, 83, 84, 85, 86, 87, 88, 89, 90, 91] (by decide +kernel) (by decide +kernel)
set_option maxRecDepth 20000 in
theorem gX11_years_X11_year : GoodIn wsX11_years (wsV RX11 234 RX11 yX11_year wsX11_year) := goodIn_app (goodIn_of _ (by decide +kernel)) ggX11_years_X11_year
theorem dX11_years_0 : decode cX11_years 0 = .ok (.aload_n 0, 1) := by decide +kernel
theorem dX11_years_1 : decode cX11_years 1 = .ok (.iconst 0, 1) := by decide +kernel
theorem dX11_years_2 : decode cX11_years 2 = .ok (.putfield 58, 3) := by decide +kernel
theorem dX11_years_5 : decode cX11_years 5 = .ok (.iload_n 1, 1) := by decide +kernel
theorem dX11_years_6 : decode cX11_years 6 = .ok (.i2l, 1) := by decide +kernel
theorem dX11_years_7 : decode cX11_years 7 = .ok (.lconst 1, 1) := by decide +kernel
theorem dX11_years_8 : decode cX11_years 8 = .ok (.ldc2_w 232, 3) := by decide +kernel
theorem dX11_years_11 : decode cX11_years 11 = .ok (.invokestatic 68, 3) := by decide +kernel
theorem dX11_years_14 : decode cX11_years 14 = .ok (.ifCond .ne 6, 3) := by decide +kernel
theorem dX11_years_17 : decode cX11_years 17 = .ok (.ldc 78, 2) := by decide +kernel
theorem dX11_years_19 : decode cX11_years 19 = .ok (.ireturn, 1) := by decide +kernel
theorem dX11_years_20 : decode cX11_years 20 = .ok (.aload_n 0, 1) := by decide +kernel
theorem dX11_years_21 : decode cX11_years 21 = .ok (.getfield 176, 3) := by decide +kernel
theorem dX11_years_24 : decode cX11_years 24 = .ok (.ifCond .ne 6, 3) := by decide +kernel
theorem dX11_years_27 : decode cX11_years 27 = .ok (.ldc 231, 2) := by decide +kernel
theorem dX11_years_29 : decode cX11_years 29 = .ok (.ireturn, 1) := by decide +kernel
theorem dX11_years_30 : decode cX11_years 30 = .ok (.iconst 0, 1) := by decide +kernel
theorem dX11_years_31 : decode cX11_years 31 = .ok (.istore_n 2, 1) := by decide +kernel
theorem dX11_years_32 : decode cX11_years 32 = .ok (.iload_n 2, 1) := by decide +kernel
theorem dX11_years_33 : decode cX11_years 33 = .ok (.iload_n 1, 1) := by decide +kernel
theorem dX11_years_34 : decode cX11_years 34 = .ok (.if_icmp .ge 13, 3) := by decide +kernel
theorem dX11_years_37 : decode cX11_years 37 = .ok (.aload_n 0, 1) := by decide +kernel
theorem dX11_years_38 : decode cX11_years 38 = .ok (.invokevirtual 234, 3) := by decide +kernel
theorem dX11_years_41 : decode cX11_years 41 = .ok (.iinc 2 1, 3) := by decide +kernel
theorem dX11_years_44 : decode cX11_years 44 = .ok (.goto (-12), 3) := by decide +kernel
theorem dX11_years_47 : decode cX11_years 47 = .ok (.aload_n 0, 1) := by decide +kernel
theorem dX11_years_48 : decode cX11_years 48 = .ok (.getfield 37, 3) := by decide +kernel
theorem dX11_years_51 : decode cX11_years 51 = .ok (.iconst 0, 1) := by decide +kernel
theorem dX11_years_52 : decode cX11_years 52 = .ok (.iaload, 1) := by decide +kernel
theorem dX11_years_53 : decode cX11_years 53 = .ok (.ireturn, 1) := by decide +kernel
set_option maxRecDepth 20000 in
theorem ggX11_now_X11_in : GoodIn wsX11_now wsX11_in := goodIn_r _ [10] (by decide +kernel) (by decide +kernel)
set_option maxRecDepth 20000 in
theorem gX11_now_X11_in : GoodIn wsX11_now (va_wsS RX11 68 yX11_in wsX11_in) := goodIn_app (goodIn_of _ (by decide +kernel)) ggX11_now_X11_in
theorem dX11_now_0 : decode cX11_now 0 = .ok (.aload_n 0, 1) := by decide +kernel
theorem dX11_now_1 : decode cX11_now 1 = .ok (.iconst 0, 1) := by decide +kernel
theorem dX11_now_2 : decode cX11_now 2 = .ok (.putfield 58, 3) := by decide +kernel
theorem dX11_now_5 : decode cX11_now 5 = .ok (.iload_n 1, 1) := by decide +kernel
theorem dX11_now_6 : decode cX11_now 6 = .ok (.i2l, 1) := by decide +kernel
theorem dX11_now_7 : decode cX11_now 7 = .ok (.lconst 0, 1) := by decide +kernel
theorem dX11_now_8 : decode cX11_now 8 = .ok (.ldc2_w 237, 3) := by decide +kernel
theorem dX11_now_11 : decode cX11_now 11 = .ok (.invokestatic 68, 3) := by decide +kernel
theorem dX11_now_14 : decode cX11_now 14 = .ok (.ifCond .ne 8, 3) := by decide +kernel
theorem dX11_now_17 : decode cX11_now 17 = .ok (.ldc 78, 2) := by decide +kernel
theorem dX11_now_19 : decode cX11_now 19 = .ok (.goto 21, 3) := by decide +kernel
theorem dX11_now_22 : decode cX11_now 22 = .ok (.aload_n 0, 1) := by decide +kernel
theorem dX11_now_23 : decode cX11_now 23 = .ok (.getfield 176, 3) := by decide +kernel
theorem dX11_now_26 : decode cX11_now 26 = .ok (.ifCond .eq 12, 3) := by decide +kernel
theorem dX11_now_29 : decode cX11_now 29 = .ok (.aload_n 0, 1) := by decide +kernel
theorem dX11_now_30 : decode cX11_now 30 = .ok (.getfield 37, 3) := by decide +kernel
theorem dX11_now_33 : decode cX11_now 33 = .ok (.iload_n 1, 1) := by decide +kernel
theorem dX11_now_34 : decode cX11_now 34 = .ok (.iaload, 1) := by decide +kernel
theorem dX11_now_35 : decode cX11_now 35 = .ok (.goto 5, 3) := by decide +kernel
theorem dX11_now_38 : decode cX11_now 38 = .ok (.ldc 231, 2) := by decide +kernel
theorem dX11_now_40 : decode cX11_now 40 = .ok (.ireturn, 1) := by decide +kernel
theorem dX11_size_0 : decode cX11_size 0 = .ok (.lload_n 0, 1) := by decide +kernel
theorem dX11_size_1 : decode cX11_size 1 = .ok (.lconst 0, 1) := by decide +kernel
theorem dX11_size_2 : decode cX11_size 2 = .ok (.lcmp, 1) := by decide +kernel
theorem dX11_size_3 : decode cX11_size 3 = .ok (.ifCond .ge 8, 3) := by decide +kernel
theorem dX11_size_6 : decode cX11_size 6 = .ok (.lload_n 0, 1) := by decide +kernel
theorem dX11_size_7 : decode cX11_size 7 = .ok (.lneg, 1) := by decide +kernel
theorem dX11_size_8 : decode cX11_size 8 = .ok (.goto 4, 3) := by decide +kernel
theorem dX11_size_11 : decode cX11_size 11 = .ok (.lload_n 0, 1) := by decide +kernel
theorem dX11_size_12 : decode cX11_size 12 = .ok (.lreturn, 1) := by decide +kernel
theorem dX11_side_0 : decode cX11_side 0 = .ok (.lload_n 0, 1) := by decide +kernel
theorem dX11_side_1 : decode cX11_side 1 = .ok (.lload_n 2, 1) := by decide +kernel
theorem dX11_side_2 : decode cX11_side 2 = .ok (.lcmp, 1) := by decide +kernel
theorem dX11_side_3 : decode cX11_side 3 = .ok (.ifCond .ge 7, 3) := by decide +kernel
theorem dX11_side_6 : decode cX11_side 6 = .ok (.iconst (-1), 1) := by decide +kernel
theorem dX11_side_7 : decode cX11_side 7 = .ok (.goto 14, 3) := by decide +kernel
theorem dX11_side_10 : decode cX11_side 10 = .ok (.lload_n 0, 1) := by decide +kernel
theorem dX11_side_11 : decode cX11_side 11 = .ok (.lload_n 2, 1) := by decide +kernel
theorem dX11_side_12 : decode cX11_side 12 = .ok (.lcmp, 1) := by decide +kernel
theorem dX11_side_13 : decode cX11_side 13 = .ok (.ifCond .ne 7, 3) := by decide +kernel
theorem dX11_side_16 : decode cX11_side 16 = .ok (.iconst 0, 1) := by decide +kernel
theorem dX11_side_17 : decode cX11_side 17 = .ok (.goto 4, 3) := by decide +kernel
theorem dX11_side_20 : decode cX11_side 20 = .ok (.iconst 1, 1) := by decide +kernel
theorem dX11_side_21 : decode cX11_side 21 = .ok (.ireturn, 1) := by decide +kernel
set_option maxRecDepth 20000 in
theorem ggX11_diesAt_X11_isOut : GoodIn wsX11_diesAt wsX11_isOut := goodIn_r _ [11, 12, 24, 25, 26, 27, 28, 29, 30, 31, 32, 33, 34, 35, 36, 37, 38, 39, 40, 41, 42, 43, 44, 45, 46, 47, 48, 49, 50, 51, 52, 53, 54, 55, 56, 57, 58] (by decide +kernel) (by decide +kernel)
set_option maxRecDepth 20000 in
theorem gX11_diesAt_X11_isOut : GoodIn wsX11_diesAt (wsV RX11 208 RX11 yX11_isOut wsX11_isOut) := goodIn_app (goodIn_of _ (by decide +kernel)) ggX11_diesAt_X11_isOut
set_option maxRecDepth 20000 in
theorem ggX11_diesAt_X11_told : GoodIn wsX11_diesAt wsX11_told := goodIn_r _ [16, 17, 24, 25, 26, 27, 28, 29, 30, 31, 32, 33, 34, 35, 36, 37, 38, 39, 40, 41, 42, 43, 44, 45, 46, 47, 48, 49, 50, 51, 52, 53, 54, 55, 56, 57, 58] (by decide +kernel) (by decide +kernel)
set_option maxRecDepth 20000 in
theorem gX11_diesAt_X11_told : GoodIn wsX11_diesAt (wsV RX11 201 RX11 yX11_told wsX11_told) := goodIn_app (goodIn_of _ (by decide +kernel)) ggX11_diesAt_X11_told
set_option maxRecDepth 20000 in
theorem ggX11_diesAt_X11_size : GoodIn wsX11_diesAt wsX11_size := goodIn_r _ [20] (by decide +kernel) (by decide +kernel)
set_option maxRecDepth 20000 in
theorem gX11_diesAt_X11_size : GoodIn wsX11_diesAt (va_wsS RX11 249 yX11_size wsX11_size) := goodIn_app (goodIn_of _ (by decide +kernel)) ggX11_diesAt_X11_size
set_option maxRecDepth 20000 in
theorem ggX11_diesAt_X11_side : GoodIn wsX11_diesAt wsX11_side := goodIn_r _ [23] (by decide +kernel) (by decide +kernel)
set_option maxRecDepth 20000 in
theorem gX11_diesAt_X11_side : GoodIn wsX11_diesAt (va_wsS RX11 253 yX11_side wsX11_side) := goodIn_app (goodIn_of _ (by decide +kernel)) ggX11_diesAt_X11_side
theorem dX11_diesAt_0 : decode cX11_diesAt 0 = .ok (.lconst 0, 1) := by decide +kernel
theorem dX11_diesAt_1 : decode cX11_diesAt 1 = .ok (.lstore_n 2, 1) := by decide +kernel
theorem dX11_diesAt_2 : decode cX11_diesAt 2 = .ok (.lconst 0, 1) := by decide +kernel
theorem dX11_diesAt_3 : decode cX11_diesAt 3 = .ok (.lstore 4, 2) := by decide +kernel
theorem dX11_diesAt_5 : decode cX11_diesAt 5 = .ok (.lconst 0, 1) := by decide +kernel
theorem dX11_diesAt_6 : decode cX11_diesAt 6 = .ok (.lstore 6, 2) := by decide +kernel
theorem dX11_diesAt_8 : decode cX11_diesAt 8 = .ok (.ldc2_w 239, 3) := by decide +kernel
theorem dX11_diesAt_11 : decode cX11_diesAt 11 = .ok (.iload_n 1, 1) := by decide +kernel
theorem dX11_diesAt_12 : decode cX11_diesAt 12 = .ok (.i2l, 1) := by decide +kernel
theorem dX11_diesAt_13 : decode cX11_diesAt 13 = .ok (.lmul, 1) := by decide +kernel
theorem dX11_diesAt_14 : decode cX11_diesAt 14 = .ok (.lstore 8, 2) := by decide +kernel
theorem dX11_diesAt_16 : decode cX11_diesAt 16 = .ok (.iconst 0, 1) := by decide +kernel
theorem dX11_diesAt_17 : decode cX11_diesAt 17 = .ok (.istore 10, 2) := by decide +kernel
theorem dX11_diesAt_19 : decode cX11_diesAt 19 = .ok (.iload 10, 2) := by decide +kernel
theorem dX11_diesAt_21 : decode cX11_diesAt 21 = .ok (.aload_n 0, 1) := by decide +kernel
theorem dX11_diesAt_22 : decode cX11_diesAt 22 = .ok (.getfield 180, 3) := by decide +kernel
theorem dX11_diesAt_25 : decode cX11_diesAt 25 = .ok (.if_icmp .ge 258, 3) := by decide +kernel
theorem dX11_diesAt_28 : decode cX11_diesAt 28 = .ok (.aload_n 0, 1) := by decide +kernel
theorem dX11_diesAt_29 : decode cX11_diesAt 29 = .ok (.iload 10, 2) := by decide +kernel
theorem dX11_diesAt_31 : decode cX11_diesAt 31 = .ok (.invokevirtual 208, 3) := by decide +kernel
theorem dX11_diesAt_34 : decode cX11_diesAt 34 = .ok (.ifCond .eq 7, 3) := by decide +kernel
theorem dX11_diesAt_37 : decode cX11_diesAt 37 = .ok (.lconst 0, 1) := by decide +kernel
theorem dX11_diesAt_38 : decode cX11_diesAt 38 = .ok (.goto 20, 3) := by decide +kernel
theorem dX11_diesAt_41 : decode cX11_diesAt 41 = .ok (.aload_n 0, 1) := by decide +kernel
theorem dX11_diesAt_42 : decode cX11_diesAt 42 = .ok (.iload 10, 2) := by decide +kernel
theorem dX11_diesAt_44 : decode cX11_diesAt 44 = .ok (.iconst 2, 1) := by decide +kernel
theorem dX11_diesAt_45 : decode cX11_diesAt 45 = .ok (.invokevirtual 201, 3) := by decide +kernel
theorem dX11_diesAt_48 : decode cX11_diesAt 48 = .ok (.i2l, 1) := by decide +kernel
theorem dX11_diesAt_49 : decode cX11_diesAt 49 = .ok (.aload_n 0, 1) := by decide +kernel
theorem dX11_diesAt_50 : decode cX11_diesAt 50 = .ok (.iload 10, 2) := by decide +kernel
theorem dX11_diesAt_52 : decode cX11_diesAt 52 = .ok (.iconst 4, 1) := by decide +kernel
theorem dX11_diesAt_53 : decode cX11_diesAt 53 = .ok (.invokevirtual 201, 3) := by decide +kernel
theorem dX11_diesAt_56 : decode cX11_diesAt 56 = .ok (.i2l, 1) := by decide +kernel
theorem dX11_diesAt_57 : decode cX11_diesAt 57 = .ok (.lmul, 1) := by decide +kernel
theorem dX11_diesAt_58 : decode cX11_diesAt 58 = .ok (.lstore 11, 2) := by decide +kernel
theorem dX11_diesAt_60 : decode cX11_diesAt 60 = .ok (.aload_n 0, 1) := by decide +kernel
theorem dX11_diesAt_61 : decode cX11_diesAt 61 = .ok (.iload 10, 2) := by decide +kernel
theorem dX11_diesAt_63 : decode cX11_diesAt 63 = .ok (.iconst 1, 1) := by decide +kernel
theorem dX11_diesAt_64 : decode cX11_diesAt 64 = .ok (.invokevirtual 201, 3) := by decide +kernel
theorem dX11_diesAt_67 : decode cX11_diesAt 67 = .ok (.istore 13, 2) := by decide +kernel
theorem dX11_diesAt_69 : decode cX11_diesAt 69 = .ok (.aload_n 0, 1) := by decide +kernel
theorem dX11_diesAt_70 : decode cX11_diesAt 70 = .ok (.iload 10, 2) := by decide +kernel
theorem dX11_diesAt_72 : decode cX11_diesAt 72 = .ok (.iconst 0, 1) := by decide +kernel
theorem dX11_diesAt_73 : decode cX11_diesAt 73 = .ok (.invokevirtual 201, 3) := by decide +kernel
theorem dX11_diesAt_76 : decode cX11_diesAt 76 = .ok (.tableswitch 201 1 6 #[40, 52, 118, 153, 201, 187], 40) := by decide +kernel
theorem dX11_diesAt_116 : decode cX11_diesAt 116 = .ok (.lload_n 2, 1) := by decide +kernel
theorem dX11_diesAt_117 : decode cX11_diesAt 117 = .ok (.ldc2_w 241, 3) := by decide +kernel
theorem dX11_diesAt_120 : decode cX11_diesAt 120 = .ok (.lload 11, 2) := by decide +kernel
theorem dX11_diesAt_122 : decode cX11_diesAt 122 = .ok (.lmul, 1) := by decide +kernel
theorem dX11_diesAt_123 : decode cX11_diesAt 123 = .ok (.ladd, 1) := by decide +kernel
theorem dX11_diesAt_124 : decode cX11_diesAt 124 = .ok (.lstore_n 2, 1) := by decide +kernel
theorem dX11_diesAt_125 : decode cX11_diesAt 125 = .ok (.goto 152, 3) := by decide +kernel
theorem dX11_diesAt_128 : decode cX11_diesAt 128 = .ok (.lload_n 2, 1) := by decide +kernel
theorem dX11_diesAt_129 : decode cX11_diesAt 129 = .ok (.ldc2_w 241, 3) := by decide +kernel
theorem dX11_diesAt_132 : decode cX11_diesAt 132 = .ok (.iload 13, 2) := by decide +kernel
theorem dX11_diesAt_134 : decode cX11_diesAt 134 = .ok (.i2l, 1) := by decide +kernel
theorem dX11_diesAt_135 : decode cX11_diesAt 135 = .ok (.ldiv, 1) := by decide +kernel
theorem dX11_diesAt_136 : decode cX11_diesAt 136 = .ok (.lload 11, 2) := by decide +kernel
theorem dX11_diesAt_138 : decode cX11_diesAt 138 = .ok (.lmul, 1) := by decide +kernel
theorem dX11_diesAt_139 : decode cX11_diesAt 139 = .ok (.ladd, 1) := by decide +kernel
theorem dX11_diesAt_140 : decode cX11_diesAt 140 = .ok (.lstore_n 2, 1) := by decide +kernel
theorem dX11_diesAt_141 : decode cX11_diesAt 141 = .ok (.lload 4, 2) := by decide +kernel
theorem dX11_diesAt_143 : decode cX11_diesAt 143 = .ok (.iload 13, 2) := by decide +kernel
theorem dX11_diesAt_145 : decode cX11_diesAt 145 = .ok (.iconst 1, 1) := by decide +kernel
theorem dX11_diesAt_146 : decode cX11_diesAt 146 = .ok (.if_icmp .le 16, 3) := by decide +kernel
theorem dX11_diesAt_149 : decode cX11_diesAt 149 = .ok (.ldc2_w 241, 3) := by decide +kernel
theorem dX11_diesAt_152 : decode cX11_diesAt 152 = .ok (.iload 13, 2) := by decide +kernel
theorem dX11_diesAt_154 : decode cX11_diesAt 154 = .ok (.i2l, 1) := by decide +kernel
theorem dX11_diesAt_155 : decode cX11_diesAt 155 = .ok (.ldiv, 1) := by decide +kernel
theorem dX11_diesAt_156 : decode cX11_diesAt 156 = .ok (.lload 11, 2) := by decide +kernel
theorem dX11_diesAt_158 : decode cX11_diesAt 158 = .ok (.lmul, 1) := by decide +kernel
theorem dX11_diesAt_159 : decode cX11_diesAt 159 = .ok (.goto 4, 3) := by decide +kernel
theorem dX11_diesAt_162 : decode cX11_diesAt 162 = .ok (.lconst 0, 1) := by decide +kernel
theorem dX11_diesAt_163 : decode cX11_diesAt 163 = .ok (.ladd, 1) := by decide +kernel
theorem dX11_diesAt_164 : decode cX11_diesAt 164 = .ok (.lstore 4, 2) := by decide +kernel
theorem dX11_diesAt_166 : decode cX11_diesAt 166 = .ok (.lload 6, 2) := by decide +kernel
theorem dX11_diesAt_168 : decode cX11_diesAt 168 = .ok (.iload 13, 2) := by decide +kernel
theorem dX11_diesAt_170 : decode cX11_diesAt 170 = .ok (.iconst 2, 1) := by decide +kernel
theorem dX11_diesAt_171 : decode cX11_diesAt 171 = .ok (.if_icmp .le 16, 3) := by decide +kernel
theorem dX11_diesAt_174 : decode cX11_diesAt 174 = .ok (.ldc2_w 241, 3) := by decide +kernel
theorem dX11_diesAt_177 : decode cX11_diesAt 177 = .ok (.iload 13, 2) := by decide +kernel
theorem dX11_diesAt_179 : decode cX11_diesAt 179 = .ok (.i2l, 1) := by decide +kernel
theorem dX11_diesAt_180 : decode cX11_diesAt 180 = .ok (.ldiv, 1) := by decide +kernel
theorem dX11_diesAt_181 : decode cX11_diesAt 181 = .ok (.lload 11, 2) := by decide +kernel
theorem dX11_diesAt_183 : decode cX11_diesAt 183 = .ok (.lmul, 1) := by decide +kernel
theorem dX11_diesAt_184 : decode cX11_diesAt 184 = .ok (.goto 4, 3) := by decide +kernel
theorem dX11_diesAt_187 : decode cX11_diesAt 187 = .ok (.lconst 0, 1) := by decide +kernel
theorem dX11_diesAt_188 : decode cX11_diesAt 188 = .ok (.ladd, 1) := by decide +kernel
theorem dX11_diesAt_189 : decode cX11_diesAt 189 = .ok (.lstore 6, 2) := by decide +kernel
theorem dX11_diesAt_191 : decode cX11_diesAt 191 = .ok (.goto 86, 3) := by decide +kernel
theorem dX11_diesAt_194 : decode cX11_diesAt 194 = .ok (.lload_n 2, 1) := by decide +kernel
theorem dX11_diesAt_195 : decode cX11_diesAt 195 = .ok (.ldc2_w 241, 3) := by decide +kernel
theorem dX11_diesAt_198 : decode cX11_diesAt 198 = .ok (.ldc2_w 243, 3) := by decide +kernel
theorem dX11_diesAt_201 : decode cX11_diesAt 201 = .ok (.iload 13, 2) := by decide +kernel
theorem dX11_diesAt_203 : decode cX11_diesAt 203 = .ok (.i2l, 1) := by decide +kernel
theorem dX11_diesAt_204 : decode cX11_diesAt 204 = .ok (.lmul, 1) := by decide +kernel
theorem dX11_diesAt_205 : decode cX11_diesAt 205 = .ok (.ladd, 1) := by decide +kernel
theorem dX11_diesAt_206 : decode cX11_diesAt 206 = .ok (.lload 11, 2) := by decide +kernel
theorem dX11_diesAt_208 : decode cX11_diesAt 208 = .ok (.lmul, 1) := by decide +kernel
theorem dX11_diesAt_209 : decode cX11_diesAt 209 = .ok (.ladd, 1) := by decide +kernel
theorem dX11_diesAt_210 : decode cX11_diesAt 210 = .ok (.lstore_n 2, 1) := by decide +kernel
theorem dX11_diesAt_211 : decode cX11_diesAt 211 = .ok (.lload 4, 2) := by decide +kernel
theorem dX11_diesAt_213 : decode cX11_diesAt 213 = .ok (.ldc2_w 243, 3) := by decide +kernel
theorem dX11_diesAt_216 : decode cX11_diesAt 216 = .ok (.iload 13, 2) := by decide +kernel
theorem dX11_diesAt_218 : decode cX11_diesAt 218 = .ok (.i2l, 1) := by decide +kernel
theorem dX11_diesAt_219 : decode cX11_diesAt 219 = .ok (.lmul, 1) := by decide +kernel
theorem dX11_diesAt_220 : decode cX11_diesAt 220 = .ok (.lload 11, 2) := by decide +kernel
theorem dX11_diesAt_222 : decode cX11_diesAt 222 = .ok (.lmul, 1) := by decide +kernel
theorem dX11_diesAt_223 : decode cX11_diesAt 223 = .ok (.lsub, 1) := by decide +kernel
theorem dX11_diesAt_224 : decode cX11_diesAt 224 = .ok (.lstore 4, 2) := by decide +kernel
theorem dX11_diesAt_226 : decode cX11_diesAt 226 = .ok (.goto 51, 3) := by decide +kernel
theorem dX11_diesAt_229 : decode cX11_diesAt 229 = .ok (.lload_n 2, 1) := by decide +kernel
theorem dX11_diesAt_230 : decode cX11_diesAt 230 = .ok (.ldc2_w 245, 3) := by decide +kernel
theorem dX11_diesAt_233 : decode cX11_diesAt 233 = .ok (.lload 11, 2) := by decide +kernel
theorem dX11_diesAt_235 : decode cX11_diesAt 235 = .ok (.lmul, 1) := by decide +kernel
theorem dX11_diesAt_236 : decode cX11_diesAt 236 = .ok (.lsub, 1) := by decide +kernel
theorem dX11_diesAt_237 : decode cX11_diesAt 237 = .ok (.lstore_n 2, 1) := by decide +kernel
theorem dX11_diesAt_238 : decode cX11_diesAt 238 = .ok (.lload 4, 2) := by decide +kernel
theorem dX11_diesAt_240 : decode cX11_diesAt 240 = .ok (.ldc2_w 247, 3) := by decide +kernel
theorem dX11_diesAt_243 : decode cX11_diesAt 243 = .ok (.lload 11, 2) := by decide +kernel
theorem dX11_diesAt_245 : decode cX11_diesAt 245 = .ok (.lmul, 1) := by decide +kernel
theorem dX11_diesAt_246 : decode cX11_diesAt 246 = .ok (.ladd, 1) := by decide +kernel
theorem dX11_diesAt_247 : decode cX11_diesAt 247 = .ok (.lstore 4, 2) := by decide +kernel
theorem dX11_diesAt_249 : decode cX11_diesAt 249 = .ok (.lload 6, 2) := by decide +kernel
theorem dX11_diesAt_251 : decode cX11_diesAt 251 = .ok (.ldc2_w 247, 3) := by decide +kernel
theorem dX11_diesAt_254 : decode cX11_diesAt 254 = .ok (.lload 11, 2) := by decide +kernel
theorem dX11_diesAt_256 : decode cX11_diesAt 256 = .ok (.lmul, 1) := by decide +kernel
theorem dX11_diesAt_257 : decode cX11_diesAt 257 = .ok (.ladd, 1) := by decide +kernel
theorem dX11_diesAt_258 : decode cX11_diesAt 258 = .ok (.lstore 6, 2) := by decide +kernel
theorem dX11_diesAt_260 : decode cX11_diesAt 260 = .ok (.goto 17, 3) := by decide +kernel
theorem dX11_diesAt_263 : decode cX11_diesAt 263 = .ok (.lload 8, 2) := by decide +kernel
theorem dX11_diesAt_265 : decode cX11_diesAt 265 = .ok (.ldc2_w 241, 3) := by decide +kernel
theorem dX11_diesAt_268 : decode cX11_diesAt 268 = .ok (.lload 11, 2) := by decide +kernel
theorem dX11_diesAt_270 : decode cX11_diesAt 270 = .ok (.lmul, 1) := by decide +kernel
theorem dX11_diesAt_271 : decode cX11_diesAt 271 = .ok (.ladd, 1) := by decide +kernel
theorem dX11_diesAt_272 : decode cX11_diesAt 272 = .ok (.lstore 8, 2) := by decide +kernel
theorem dX11_diesAt_274 : decode cX11_diesAt 274 = .ok (.goto 3, 3) := by decide +kernel
theorem dX11_diesAt_277 : decode cX11_diesAt 277 = .ok (.iinc 10 1, 3) := by decide +kernel
theorem dX11_diesAt_280 : decode cX11_diesAt 280 = .ok (.goto (-261), 3) := by decide +kernel
theorem dX11_diesAt_283 : decode cX11_diesAt 283 = .ok (.lload 6, 2) := by decide +kernel
theorem dX11_diesAt_285 : decode cX11_diesAt 285 = .ok (.invokestatic 249, 3) := by decide +kernel
theorem dX11_diesAt_288 : decode cX11_diesAt 288 = .ok (.lload 8, 2) := by decide +kernel
theorem dX11_diesAt_290 : decode cX11_diesAt 290 = .ok (.invokestatic 253, 3) := by decide +kernel
theorem dX11_diesAt_293 : decode cX11_diesAt 293 = .ok (.istore 10, 2) := by decide +kernel
theorem dX11_diesAt_295 : decode cX11_diesAt 295 = .ok (.lload_n 2, 1) := by decide +kernel
theorem dX11_diesAt_296 : decode cX11_diesAt 296 = .ok (.lload 6, 2) := by decide +kernel
theorem dX11_diesAt_298 : decode cX11_diesAt 298 = .ok (.ladd, 1) := by decide +kernel
theorem dX11_diesAt_299 : decode cX11_diesAt 299 = .ok (.invokestatic 249, 3) := by decide +kernel
theorem dX11_diesAt_302 : decode cX11_diesAt 302 = .ok (.lload 8, 2) := by decide +kernel
theorem dX11_diesAt_304 : decode cX11_diesAt 304 = .ok (.lload 4, 2) := by decide +kernel
theorem dX11_diesAt_306 : decode cX11_diesAt 306 = .ok (.ladd, 1) := by decide +kernel
theorem dX11_diesAt_307 : decode cX11_diesAt 307 = .ok (.invokestatic 253, 3) := by decide +kernel
theorem dX11_diesAt_310 : decode cX11_diesAt 310 = .ok (.istore 11, 2) := by decide +kernel
theorem dX11_diesAt_312 : decode cX11_diesAt 312 = .ok (.lload 4, 2) := by decide +kernel
theorem dX11_diesAt_314 : decode cX11_diesAt 314 = .ok (.lload 8, 2) := by decide +kernel
theorem dX11_diesAt_316 : decode cX11_diesAt 316 = .ok (.lmul, 1) := by decide +kernel
theorem dX11_diesAt_317 : decode cX11_diesAt 317 = .ok (.lload_n 2, 1) := by decide +kernel
theorem dX11_diesAt_318 : decode cX11_diesAt 318 = .ok (.lload 6, 2) := by decide +kernel
theorem dX11_diesAt_320 : decode cX11_diesAt 320 = .ok (.lmul, 1) := by decide +kernel
theorem dX11_diesAt_321 : decode cX11_diesAt 321 = .ok (.lsub, 1) := by decide +kernel
theorem dX11_diesAt_322 : decode cX11_diesAt 322 = .ok (.invokestatic 249, 3) := by decide +kernel
theorem dX11_diesAt_325 : decode cX11_diesAt 325 = .ok (.lload 8, 2) := by decide +kernel
theorem dX11_diesAt_327 : decode cX11_diesAt 327 = .ok (.lload 8, 2) := by decide +kernel
theorem dX11_diesAt_329 : decode cX11_diesAt 329 = .ok (.lmul, 1) := by decide +kernel
theorem dX11_diesAt_330 : decode cX11_diesAt 330 = .ok (.lload 6, 2) := by decide +kernel
theorem dX11_diesAt_332 : decode cX11_diesAt 332 = .ok (.lload 6, 2) := by decide +kernel
theorem dX11_diesAt_334 : decode cX11_diesAt 334 = .ok (.lmul, 1) := by decide +kernel
theorem dX11_diesAt_335 : decode cX11_diesAt 335 = .ok (.lsub, 1) := by decide +kernel
theorem dX11_diesAt_336 : decode cX11_diesAt 336 = .ok (.invokestatic 253, 3) := by decide +kernel
theorem dX11_diesAt_339 : decode cX11_diesAt 339 = .ok (.istore 12, 2) := by decide +kernel
theorem dX11_diesAt_341 : decode cX11_diesAt 341 = .ok (.iload 10, 2) := by decide +kernel
theorem dX11_diesAt_343 : decode cX11_diesAt 343 = .ok (.ifCond .gt 13, 3) := by decide +kernel
theorem dX11_diesAt_346 : decode cX11_diesAt 346 = .ok (.iload 11, 2) := by decide +kernel
theorem dX11_diesAt_348 : decode cX11_diesAt 348 = .ok (.ifCond .gt 8, 3) := by decide +kernel
theorem dX11_diesAt_351 : decode cX11_diesAt 351 = .ok (.iload 12, 2) := by decide +kernel
theorem dX11_diesAt_353 : decode cX11_diesAt 353 = .ok (.ifCond .le 7, 3) := by decide +kernel
theorem dX11_diesAt_356 : decode cX11_diesAt 356 = .ok (.iconst 2, 1) := by decide +kernel
theorem dX11_diesAt_357 : decode cX11_diesAt 357 = .ok (.goto 23, 3) := by decide +kernel
theorem dX11_diesAt_360 : decode cX11_diesAt 360 = .ok (.iload 10, 2) := by decide +kernel
theorem dX11_diesAt_362 : decode cX11_diesAt 362 = .ok (.ifCond .ge 17, 3) := by decide +kernel
theorem dX11_diesAt_365 : decode cX11_diesAt 365 = .ok (.iload 11, 2) := by decide +kernel
theorem dX11_diesAt_367 : decode cX11_diesAt 367 = .ok (.ifCond .ge 12, 3) := by decide +kernel
theorem dX11_diesAt_370 : decode cX11_diesAt 370 = .ok (.iload 12, 2) := by decide +kernel
theorem dX11_diesAt_372 : decode cX11_diesAt 372 = .ok (.ifCond .ge 7, 3) := by decide +kernel
theorem dX11_diesAt_375 : decode cX11_diesAt 375 = .ok (.iconst 0, 1) := by decide +kernel
theorem dX11_diesAt_376 : decode cX11_diesAt 376 = .ok (.goto 4, 3) := by decide +kernel
theorem dX11_diesAt_379 : decode cX11_diesAt 379 = .ok (.iconst 1, 1) := by decide +kernel
theorem dX11_diesAt_380 : decode cX11_diesAt 380 = .ok (.ireturn, 1) := by decide +kernel
set_option maxRecDepth 20000 in
theorem ggX11_dies_X11_diesAt : GoodIn wsX11_dies wsX11_diesAt := goodIn_r _ [9, 10, 11, 12, 13, 14, 15, 16, 17, 18, 8, 19, 20, 21, 22, 23, 24, 25, 26, 27, 28, 29, 30, 31, 32, 33, 34, 35, 36, 37, 38, 39, 40, 41, 42, 43, 44, 45, 46, 47, 48, 49, 50, 51, 52, 53, 54, 55, 56, 57, 58, 59, 60, 61, 62, 63, 64, 65, 66] (by decide +kernel) (by decide +kernel)
set_option maxRecDepth 20000 in
theorem gX11_dies_X11_diesAt : GoodIn wsX11_dies (wsV RX11 257 RX11 yX11_diesAt wsX11_diesAt) := goodIn_app (goodIn_of _ (by decide +kernel)) ggX11_dies_X11_diesAt
theorem dX11_dies_0 : decode cX11_dies 0 = .ok (.aload_n 0, 1) := by decide +kernel
theorem dX11_dies_1 : decode cX11_dies 1 = .ok (.iconst 0, 1) := by decide +kernel
theorem dX11_dies_2 : decode cX11_dies 2 = .ok (.putfield 58, 3) := by decide +kernel
theorem dX11_dies_5 : decode cX11_dies 5 = .ok (.aload_n 0, 1) := by decide +kernel
theorem dX11_dies_6 : decode cX11_dies 6 = .ok (.getfield 176, 3) := by decide +kernel
theorem dX11_dies_9 : decode cX11_dies 9 = .ok (.ifCond .eq 16, 3) := by decide +kernel
theorem dX11_dies_12 : decode cX11_dies 12 = .ok (.aload_n 0, 1) := by decide +kernel
theorem dX11_dies_13 : decode cX11_dies 13 = .ok (.aload_n 0, 1) := by decide +kernel
theorem dX11_dies_14 : decode cX11_dies 14 = .ok (.getfield 19, 3) := by decide +kernel
theorem dX11_dies_17 : decode cX11_dies 17 = .ok (.iconst 1, 1) := by decide +kernel
theorem dX11_dies_18 : decode cX11_dies 18 = .ok (.iaload, 1) := by decide +kernel
theorem dX11_dies_19 : decode cX11_dies 19 = .ok (.invokevirtual 257, 3) := by decide +kernel
theorem dX11_dies_22 : decode cX11_dies 22 = .ok (.goto 5, 3) := by decide +kernel
theorem dX11_dies_25 : decode cX11_dies 25 = .ok (.ldc 231, 2) := by decide +kernel
theorem dX11_dies_27 : decode cX11_dies 27 = .ok (.ireturn, 1) := by decide +kernel
set_option maxRecDepth 20000 in
theorem ggX11_steep_X11_diesAt : GoodIn wsX11_steep wsX11_diesAt := goodIn_r _ [9, 10, 11, 12, 13, 14, 15, 16, 17, 18, 8, 19, 20, 21, 22, 23, 24, 25, 26, 27, 28, 29, 30, 31, 32, 33, 34, 35, 36, 37, 38, 39, 40, 41, 42, 43, 44, 45, 46, 47, 48, 49, 50, 51, 52, 53, 54, 55, 56, 57, 58, 59, 60, 61, 62, 63, 64, 65, 66] (by decide +kernel) (by decide +kernel)
set_option maxRecDepth 20000 in
theorem gX11_steep_X11_diesAt : GoodIn wsX11_steep (wsV RX11 257 RX11 yX11_diesAt wsX11_diesAt) := goodIn_app (goodIn_of _ (by decide +kernel)) ggX11_steep_X11_diesAt
theorem dX11_steep_0 : decode cX11_steep 0 = .ok (.aload_n 0, 1) := by decide +kernel
theorem dX11_steep_1 : decode cX11_steep 1 = .ok (.iconst 0, 1) := by decide +kernel
theorem dX11_steep_2 : decode cX11_steep 2 = .ok (.putfield 58, 3) := by decide +kernel
theorem dX11_steep_5 : decode cX11_steep 5 = .ok (.aload_n 0, 1) := by decide +kernel
theorem dX11_steep_6 : decode cX11_steep 6 = .ok (.getfield 176, 3) := by decide +kernel
theorem dX11_steep_9 : decode cX11_steep 9 = .ok (.ifCond .ne 6, 3) := by decide +kernel
theorem dX11_steep_12 : decode cX11_steep 12 = .ok (.ldc 231, 2) := by decide +kernel
theorem dX11_steep_14 : decode cX11_steep 14 = .ok (.ireturn, 1) := by decide +kernel
theorem dX11_steep_15 : decode cX11_steep 15 = .ok (.iconst 1, 1) := by decide +kernel
theorem dX11_steep_16 : decode cX11_steep 16 = .ok (.istore_n 1, 1) := by decide +kernel
theorem dX11_steep_17 : decode cX11_steep 17 = .ok (.iload_n 1, 1) := by decide +kernel
theorem dX11_steep_18 : decode cX11_steep 18 = .ok (.bipush 21, 2) := by decide +kernel
theorem dX11_steep_20 : decode cX11_steep 20 = .ok (.if_icmp .ge 19, 3) := by decide +kernel
theorem dX11_steep_23 : decode cX11_steep 23 = .ok (.aload_n 0, 1) := by decide +kernel
theorem dX11_steep_24 : decode cX11_steep 24 = .ok (.iload_n 1, 1) := by decide +kernel
theorem dX11_steep_25 : decode cX11_steep 25 = .ok (.invokevirtual 257, 3) := by decide +kernel
theorem dX11_steep_28 : decode cX11_steep 28 = .ok (.ifCond .ne 5, 3) := by decide +kernel
theorem dX11_steep_31 : decode cX11_steep 31 = .ok (.iload_n 1, 1) := by decide +kernel
theorem dX11_steep_32 : decode cX11_steep 32 = .ok (.ireturn, 1) := by decide +kernel
theorem dX11_steep_33 : decode cX11_steep 33 = .ok (.iinc 1 1, 3) := by decide +kernel
theorem dX11_steep_36 : decode cX11_steep 36 = .ok (.goto (-19), 3) := by decide +kernel
theorem dX11_steep_39 : decode cX11_steep 39 = .ok (.ldc 94, 2) := by decide +kernel
theorem dX11_steep_41 : decode cX11_steep 41 = .ok (.ireturn, 1) := by decide +kernel
theorem dX11_see_0 : decode cX11_see 0 = .ok (.aload_n 0, 1) := by decide +kernel
theorem dX11_see_1 : decode cX11_see 1 = .ok (.getfield 49, 3) := by decide +kernel
theorem dX11_see_4 : decode cX11_see 4 = .ok (.iload_n 1, 1) := by decide +kernel
theorem dX11_see_5 : decode cX11_see 5 = .ok (.sipush 10000, 3) := by decide +kernel
theorem dX11_see_8 : decode cX11_see 8 = .ok (.aload_n 0, 1) := by decide +kernel
theorem dX11_see_9 : decode cX11_see 9 = .ok (.getfield 37, 3) := by decide +kernel
theorem dX11_see_12 : decode cX11_see 12 = .ok (.iconst 0, 1) := by decide +kernel
theorem dX11_see_13 : decode cX11_see 13 = .ok (.iaload, 1) := by decide +kernel
theorem dX11_see_14 : decode cX11_see 14 = .ok (.imul, 1) := by decide +kernel
theorem dX11_see_15 : decode cX11_see 15 = .ok (.bipush 100, 2) := by decide +kernel
theorem dX11_see_17 : decode cX11_see 17 = .ok (.aload_n 0, 1) := by decide +kernel
theorem dX11_see_18 : decode cX11_see 18 = .ok (.getfield 37, 3) := by decide +kernel
theorem dX11_see_21 : decode cX11_see 21 = .ok (.iconst 1, 1) := by decide +kernel
theorem dX11_see_22 : decode cX11_see 22 = .ok (.iaload, 1) := by decide +kernel
theorem dX11_see_23 : decode cX11_see 23 = .ok (.imul, 1) := by decide +kernel
theorem dX11_see_24 : decode cX11_see 24 = .ok (.iadd, 1) := by decide +kernel
theorem dX11_see_25 : decode cX11_see 25 = .ok (.aload_n 0, 1) := by decide +kernel
theorem dX11_see_26 : decode cX11_see 26 = .ok (.getfield 37, 3) := by decide +kernel
theorem dX11_see_29 : decode cX11_see 29 = .ok (.iconst 2, 1) := by decide +kernel
theorem dX11_see_30 : decode cX11_see 30 = .ok (.iaload, 1) := by decide +kernel
theorem dX11_see_31 : decode cX11_see 31 = .ok (.iadd, 1) := by decide +kernel
theorem dX11_see_32 : decode cX11_see 32 = .ok (.iastore, 1) := by decide +kernel
theorem dX11_see_33 : decode cX11_see 33 = .ok (.aload_n 0, 1) := by decide +kernel
theorem dX11_see_34 : decode cX11_see 34 = .ok (.getfield 52, 3) := by decide +kernel
theorem dX11_see_37 : decode cX11_see 37 = .ok (.iload_n 1, 1) := by decide +kernel
theorem dX11_see_38 : decode cX11_see 38 = .ok (.iconst 0, 1) := by decide +kernel
theorem dX11_see_39 : decode cX11_see 39 = .ok (.iastore, 1) := by decide +kernel
theorem dX11_see_40 : decode cX11_see 40 = .ok (.iconst 0, 1) := by decide +kernel
theorem dX11_see_41 : decode cX11_see 41 = .ok (.istore_n 2, 1) := by decide +kernel
theorem dX11_see_42 : decode cX11_see 42 = .ok (.iload_n 2, 1) := by decide +kernel
theorem dX11_see_43 : decode cX11_see 43 = .ok (.aload_n 0, 1) := by decide +kernel
theorem dX11_see_44 : decode cX11_see 44 = .ok (.getfield 180, 3) := by decide +kernel
theorem dX11_see_47 : decode cX11_see 47 = .ok (.if_icmp .ge 29, 3) := by decide +kernel
theorem dX11_see_50 : decode cX11_see 50 = .ok (.aload_n 0, 1) := by decide +kernel
theorem dX11_see_51 : decode cX11_see 51 = .ok (.getfield 52, 3) := by decide +kernel
theorem dX11_see_54 : decode cX11_see 54 = .ok (.iload_n 1, 1) := by decide +kernel
theorem dX11_see_55 : decode cX11_see 55 = .ok (.dup2, 1) := by decide +kernel
theorem dX11_see_56 : decode cX11_see 56 = .ok (.iaload, 1) := by decide +kernel
theorem dX11_see_57 : decode cX11_see 57 = .ok (.aload_n 0, 1) := by decide +kernel
theorem dX11_see_58 : decode cX11_see 58 = .ok (.getfield 37, 3) := by decide +kernel
theorem dX11_see_61 : decode cX11_see 61 = .ok (.bipush 12, 2) := by decide +kernel
theorem dX11_see_63 : decode cX11_see 63 = .ok (.iload_n 2, 1) := by decide +kernel
theorem dX11_see_64 : decode cX11_see 64 = .ok (.iadd, 1) := by decide +kernel
theorem dX11_see_65 : decode cX11_see 65 = .ok (.iaload, 1) := by decide +kernel
theorem dX11_see_66 : decode cX11_see 66 = .ok (.iload_n 2, 1) := by decide +kernel
theorem dX11_see_67 : decode cX11_see 67 = .ok (.ishl, 1) := by decide +kernel
theorem dX11_see_68 : decode cX11_see 68 = .ok (.ior, 1) := by decide +kernel
theorem dX11_see_69 : decode cX11_see 69 = .ok (.iastore, 1) := by decide +kernel
theorem dX11_see_70 : decode cX11_see 70 = .ok (.iinc 2 1, 3) := by decide +kernel
theorem dX11_see_73 : decode cX11_see 73 = .ok (.goto (-31), 3) := by decide +kernel
theorem dX11_see_76 : decode cX11_see 76 = .ok (.return_, 1) := by decide +kernel
set_option maxRecDepth 20000 in
theorem ggX11_round_X11_in : GoodIn wsX11_round wsX11_in := goodIn_r _ [11] (by decide +kernel) (by decide +kernel)
set_option maxRecDepth 20000 in
theorem gX11_round_X11_in : GoodIn wsX11_round (va_wsS RX11 68 yX11_in wsX11_in) := goodIn_app (goodIn_of _ (by decide +kernel)) ggX11_round_X11_in
set_option maxRecDepth 20000 in
theorem ggX11_round_X11_keep : GoodIn wsX11_round wsX11_keep := goodIn_r _ [15, 16, 17, 72, 73, 74, 75, 76, 77, 78, 79, 80, 81, 82, 83, 84, 85, 86, 87, 88, 89, 90, 91, 92, 93, 94, 95, 96, 97, 98, 99, 100, 101, 102, 103, 104, 105, 106] (by decide +kernel) (by decide +kernel)
set_option maxRecDepth 20000 in
theorem gX11_round_X11_keep : GoodIn wsX11_round (wsV RX11 260 RX11 yX11_keep wsX11_keep) := goodIn_app (goodIn_of _ (by decide +kernel)) ggX11_round_X11_keep
set_option maxRecDepth 20000 in
theorem ggX11_round_X11_see : GoodIn wsX11_round wsX11_see := goodIn_r _ [21, 6, 17, 7, 22, 72, 73, 74, 75, 76, 77, 78, 79, 80, 81, 82, 83, 84, 85, 86, 87, 88, 89, 90, 91, 92, 93, 94, 95, 96, 97, 98, 99, 100, 101, 102, 103, 104, 105, 106] (by decide +kernel) (by decide +kernel)
set_option maxRecDepth 20000 in
theorem gX11_round_X11_see : GoodIn wsX11_round (wsV RX11 263 RX11 yX11_see wsX11_see) := goodIn_app (goodIn_of _ (by decide +kernel)) ggX11_round_X11_see
set_option maxRecDepth 20000 in
theorem ggX11_round_X11_year : GoodIn wsX11_round wsX11_year := goodIn_r _ [26, 22, 27, 28, 29, 30, 17, 31, 32, 33, 34, 10, 35, 36, 37, 38, 39, 40, 41, 42, 43, 44, 45, 46, 47, 48, 49, 50, 51, 52, 53, 54, 55, 56, 57, 58, 59, 60, 61, 62, 63, 64, 65, 66, 67, 72, 73, 74, 75, 76, 77, 78, 79, 80, 81, 82, 83, 84, 85, 86, 87, 88, 89, 90, 91, 92, 93, 94, 95, 96, 97, 98, 99, 100, 101, 102, 103, 104, 105, 106] (by decide +kernel) (by decide +kernel)
set_option maxRecDepth 20000 in
theorem gX11_round_X11_year : GoodIn wsX11_round (wsV RX11 234 RX11 yX11_year wsX11_year) := goodIn_app (goodIn_of _ (by decide +kernel)) ggX11_round_X11_year
set_option maxRecDepth 20000 in
theorem ggX11_round_X11_comeBack : GoodIn wsX11_round wsX11_comeBack := goodIn_r _ [71, 17, 16, 72, 73, 74, 75, 76, 77, 78, 79, 80, 81, 82, 83, 84, 85, 86, 87, 88, 89, 90, 91, 92, 93, 94, 95, 96, 97, 98, 99, 100, 101, 102, 103, 104, 105, 106] (by decide +kernel) (by decide +kernel)
set_option maxRecDepth 20000 in
theorem gX11_round_X11_comeBack : GoodIn wsX11_round (wsV RX11 266 RX11 yX11_comeBack wsX11_comeBack) := goodIn_app (goodIn_of _ (by decide +kernel)) ggX11_round_X11_comeBack
theorem dX11_round_0 : decode cX11_round 0 = .ok (.aload_n 0, 1) := by decide +kernel
theorem dX11_round_1 : decode cX11_round 1 = .ok (.iconst 0, 1) := by decide +kernel
theorem dX11_round_2 : decode cX11_round 2 = .ok (.putfield 58, 3) := by decide +kernel
theorem dX11_round_5 : decode cX11_round 5 = .ok (.iload_n 1, 1) := by decide +kernel
theorem dX11_round_6 : decode cX11_round 6 = .ok (.i2l, 1) := by decide +kernel
theorem dX11_round_7 : decode cX11_round 7 = .ok (.lconst 0, 1) := by decide +kernel
theorem dX11_round_8 : decode cX11_round 8 = .ok (.lconst 1, 1) := by decide +kernel
theorem dX11_round_9 : decode cX11_round 9 = .ok (.invokestatic 68, 3) := by decide +kernel
theorem dX11_round_12 : decode cX11_round 12 = .ok (.ifCond .ne 6, 3) := by decide +kernel
theorem dX11_round_15 : decode cX11_round 15 = .ok (.ldc 78, 2) := by decide +kernel
theorem dX11_round_17 : decode cX11_round 17 = .ok (.ireturn, 1) := by decide +kernel
theorem dX11_round_18 : decode cX11_round 18 = .ok (.aload_n 0, 1) := by decide +kernel
theorem dX11_round_19 : decode cX11_round 19 = .ok (.getfield 176, 3) := by decide +kernel
theorem dX11_round_22 : decode cX11_round 22 = .ok (.ifCond .ne 6, 3) := by decide +kernel
theorem dX11_round_25 : decode cX11_round 25 = .ok (.ldc 231, 2) := by decide +kernel
theorem dX11_round_27 : decode cX11_round 27 = .ok (.ireturn, 1) := by decide +kernel
theorem dX11_round_28 : decode cX11_round 28 = .ok (.aload_n 0, 1) := by decide +kernel
theorem dX11_round_29 : decode cX11_round 29 = .ok (.invokevirtual 260, 3) := by decide +kernel
theorem dX11_round_32 : decode cX11_round 32 = .ok (.aload_n 0, 1) := by decide +kernel
theorem dX11_round_33 : decode cX11_round 33 = .ok (.iconst 0, 1) := by decide +kernel
theorem dX11_round_34 : decode cX11_round 34 = .ok (.invokevirtual 263, 3) := by decide +kernel
theorem dX11_round_37 : decode cX11_round 37 = .ok (.ldc 94, 2) := by decide +kernel
theorem dX11_round_39 : decode cX11_round 39 = .ok (.istore_n 2, 1) := by decide +kernel
theorem dX11_round_40 : decode cX11_round 40 = .ok (.iconst 1, 1) := by decide +kernel
theorem dX11_round_41 : decode cX11_round 41 = .ok (.istore_n 3, 1) := by decide +kernel
theorem dX11_round_42 : decode cX11_round 42 = .ok (.iload_n 3, 1) := by decide +kernel
theorem dX11_round_43 : decode cX11_round 43 = .ok (.bipush 61, 2) := by decide +kernel
theorem dX11_round_45 : decode cX11_round 45 = .ok (.if_icmp .ge 104, 3) := by decide +kernel
theorem dX11_round_48 : decode cX11_round 48 = .ok (.iload_n 2, 1) := by decide +kernel
theorem dX11_round_49 : decode cX11_round 49 = .ok (.ldc 94, 2) := by decide +kernel
theorem dX11_round_51 : decode cX11_round 51 = .ok (.if_icmp .ne 98, 3) := by decide +kernel
theorem dX11_round_54 : decode cX11_round 54 = .ok (.aload_n 0, 1) := by decide +kernel
theorem dX11_round_55 : decode cX11_round 55 = .ok (.invokevirtual 234, 3) := by decide +kernel
theorem dX11_round_58 : decode cX11_round 58 = .ok (.aload_n 0, 1) := by decide +kernel
theorem dX11_round_59 : decode cX11_round 59 = .ok (.iload_n 3, 1) := by decide +kernel
theorem dX11_round_60 : decode cX11_round 60 = .ok (.invokevirtual 263, 3) := by decide +kernel
theorem dX11_round_63 : decode cX11_round 63 = .ok (.iconst 1, 1) := by decide +kernel
theorem dX11_round_64 : decode cX11_round 64 = .ok (.istore 4, 2) := by decide +kernel
theorem dX11_round_66 : decode cX11_round 66 = .ok (.iload 4, 2) := by decide +kernel
theorem dX11_round_68 : decode cX11_round 68 = .ok (.bipush 31, 2) := by decide +kernel
theorem dX11_round_70 : decode cX11_round 70 = .ok (.if_icmp .ge 73, 3) := by decide +kernel
theorem dX11_round_73 : decode cX11_round 73 = .ok (.iload 4, 2) := by decide +kernel
theorem dX11_round_75 : decode cX11_round 75 = .ok (.iload_n 3, 1) := by decide +kernel
theorem dX11_round_76 : decode cX11_round 76 = .ok (.if_icmp .gt 67, 3) := by decide +kernel
theorem dX11_round_79 : decode cX11_round 79 = .ok (.iload_n 2, 1) := by decide +kernel
theorem dX11_round_80 : decode cX11_round 80 = .ok (.ldc 94, 2) := by decide +kernel
theorem dX11_round_82 : decode cX11_round 82 = .ok (.if_icmp .ne 61, 3) := by decide +kernel
theorem dX11_round_85 : decode cX11_round 85 = .ok (.aload_n 0, 1) := by decide +kernel
theorem dX11_round_86 : decode cX11_round 86 = .ok (.getfield 49, 3) := by decide +kernel
theorem dX11_round_89 : decode cX11_round 89 = .ok (.iload_n 3, 1) := by decide +kernel
theorem dX11_round_90 : decode cX11_round 90 = .ok (.iaload, 1) := by decide +kernel
theorem dX11_round_91 : decode cX11_round 91 = .ok (.aload_n 0, 1) := by decide +kernel
theorem dX11_round_92 : decode cX11_round 92 = .ok (.getfield 49, 3) := by decide +kernel
theorem dX11_round_95 : decode cX11_round 95 = .ok (.iload_n 3, 1) := by decide +kernel
theorem dX11_round_96 : decode cX11_round 96 = .ok (.iload 4, 2) := by decide +kernel
theorem dX11_round_98 : decode cX11_round 98 = .ok (.isub, 1) := by decide +kernel
theorem dX11_round_99 : decode cX11_round 99 = .ok (.iaload, 1) := by decide +kernel
theorem dX11_round_100 : decode cX11_round 100 = .ok (.if_icmp .ne 34, 3) := by decide +kernel
theorem dX11_round_103 : decode cX11_round 103 = .ok (.aload_n 0, 1) := by decide +kernel
theorem dX11_round_104 : decode cX11_round 104 = .ok (.getfield 52, 3) := by decide +kernel
theorem dX11_round_107 : decode cX11_round 107 = .ok (.iload_n 3, 1) := by decide +kernel
theorem dX11_round_108 : decode cX11_round 108 = .ok (.iaload, 1) := by decide +kernel
theorem dX11_round_109 : decode cX11_round 109 = .ok (.aload_n 0, 1) := by decide +kernel
theorem dX11_round_110 : decode cX11_round 110 = .ok (.getfield 52, 3) := by decide +kernel
theorem dX11_round_113 : decode cX11_round 113 = .ok (.iload_n 3, 1) := by decide +kernel
theorem dX11_round_114 : decode cX11_round 114 = .ok (.iload 4, 2) := by decide +kernel
theorem dX11_round_116 : decode cX11_round 116 = .ok (.isub, 1) := by decide +kernel
theorem dX11_round_117 : decode cX11_round 117 = .ok (.iaload, 1) := by decide +kernel
theorem dX11_round_118 : decode cX11_round 118 = .ok (.if_icmp .ne 16, 3) := by decide +kernel
theorem dX11_round_121 : decode cX11_round 121 = .ok (.iload_n 1, 1) := by decide +kernel
theorem dX11_round_122 : decode cX11_round 122 = .ok (.ifCond .ne 8, 3) := by decide +kernel
theorem dX11_round_125 : decode cX11_round 125 = .ok (.iload 4, 2) := by decide +kernel
theorem dX11_round_127 : decode cX11_round 127 = .ok (.goto 9, 3) := by decide +kernel
theorem dX11_round_130 : decode cX11_round 130 = .ok (.iload_n 3, 1) := by decide +kernel
theorem dX11_round_131 : decode cX11_round 131 = .ok (.goto 5, 3) := by decide +kernel
theorem dX11_round_134 : decode cX11_round 134 = .ok (.ldc 94, 2) := by decide +kernel
theorem dX11_round_136 : decode cX11_round 136 = .ok (.istore_n 2, 1) := by decide +kernel
theorem dX11_round_137 : decode cX11_round 137 = .ok (.iinc 4 1, 3) := by decide +kernel
theorem dX11_round_140 : decode cX11_round 140 = .ok (.goto (-74), 3) := by decide +kernel
theorem dX11_round_143 : decode cX11_round 143 = .ok (.iinc 3 1, 3) := by decide +kernel
theorem dX11_round_146 : decode cX11_round 146 = .ok (.goto (-104), 3) := by decide +kernel
theorem dX11_round_149 : decode cX11_round 149 = .ok (.aload_n 0, 1) := by decide +kernel
theorem dX11_round_150 : decode cX11_round 150 = .ok (.invokevirtual 266, 3) := by decide +kernel
theorem dX11_round_153 : decode cX11_round 153 = .ok (.iload_n 2, 1) := by decide +kernel
theorem dX11_round_154 : decode cX11_round 154 = .ok (.ireturn, 1) := by decide +kernel
set_option maxRecDepth 20000 in
theorem ggX11_bears_X11_isKind : GoodIn wsX11_bears wsX11_isKind := goodIn_r _ [11, 12, 13, 14, 10, 15, 68, 69, 70, 71, 72, 73, 74, 75, 76, 77, 78, 79, 80, 81, 82, 83, 84, 85, 86, 87, 88, 89, 90, 91, 92, 93, 94, 95, 96, 97, 98, 99, 100, 101, 102] (by decide +kernel) (by decide +kernel)
set_option maxRecDepth 20000 in
theorem gX11_bears_X11_isKind : GoodIn wsX11_bears (wsV RX11 223 RX11 yX11_isKind wsX11_isKind) := goodIn_app (goodIn_of _ (by decide +kernel)) ggX11_bears_X11_isKind
set_option maxRecDepth 20000 in
theorem ggX11_bears_X11_in : GoodIn wsX11_bears wsX11_in := goodIn_r _ [15] (by decide +kernel) (by decide +kernel)
set_option maxRecDepth 20000 in
theorem gX11_bears_X11_in : GoodIn wsX11_bears (va_wsS RX11 68 yX11_in wsX11_in) := goodIn_app (goodIn_of _ (by decide +kernel)) ggX11_bears_X11_in
set_option maxRecDepth 20000 in
theorem ggX11_bears_X11_keep : GoodIn wsX11_bears wsX11_keep := goodIn_r _ [19, 6, 5, 68, 69, 70, 71, 72, 73, 74, 75, 76, 77, 78, 79, 80, 81, 82, 83, 84, 85, 86, 87, 88, 89, 90, 91, 92, 93, 94, 95, 96, 97, 98, 99, 100, 101, 102] (by decide +kernel) (by decide +kernel)
set_option maxRecDepth 20000 in
theorem gX11_bears_X11_keep : GoodIn wsX11_bears (wsV RX11 260 RX11 yX11_keep wsX11_keep) := goodIn_app (goodIn_of _ (by decide +kernel)) ggX11_bears_X11_keep
set_option maxRecDepth 20000 in
theorem ggX11_bears_X11_told : GoodIn wsX11_bears wsX11_told := goodIn_r _ [23, 4, 68, 69, 70, 71, 72, 73, 74, 75, 76, 77, 78, 79, 80, 81, 82, 83, 84, 85, 86, 87, 88, 89, 90, 91, 92, 93, 94, 95, 96, 97, 98, 99, 100, 101, 102] (by decide +kernel) (by decide +kernel)
set_option maxRecDepth 20000 in
theorem gX11_bears_X11_told : GoodIn wsX11_bears (wsV RX11 201 RX11 yX11_told wsX11_told) := goodIn_app (goodIn_of _ (by decide +kernel)) ggX11_bears_X11_told
set_option maxRecDepth 20000 in
theorem ggX11_bears_X11_year : GoodIn wsX11_bears wsX11_year := goodIn_r _ [27, 12, 28, 29, 30, 31, 5, 32, 33, 34, 35, 10, 36, 37, 38, 39, 40, 41, 42, 43, 44, 20, 21, 22, 23, 4, 45, 46, 47, 48, 49, 50, 51, 52, 53, 54, 55, 56, 57, 58, 59, 60, 61, 62, 63, 68, 69, 70, 71, 72, 73, 74, 75, 76, 77, 78, 79, 80, 81, 82, 83, 84, 85, 86, 87, 88, 89, 90, 91, 92, 93, 94, 95, 96, 97, 98, 99, 100, 101, 102] (by decide +kernel) (by decide +kernel)
set_option maxRecDepth 20000 in
theorem gX11_bears_X11_year : GoodIn wsX11_bears (wsV RX11 234 RX11 yX11_year wsX11_year) := goodIn_app (goodIn_of _ (by decide +kernel)) ggX11_bears_X11_year
set_option maxRecDepth 20000 in
theorem ggX11_bears_X11_comeBack : GoodIn wsX11_bears wsX11_comeBack := goodIn_r _ [67, 5, 6, 68, 69, 70, 71, 72, 73, 74, 75, 76, 77, 78, 79, 80, 81, 82, 83, 84, 85, 86, 87, 88, 89, 90, 91, 92, 93, 94, 95, 96, 97, 98, 99, 100, 101, 102] (by decide +kernel) (by decide +kernel)
set_option maxRecDepth 20000 in
theorem gX11_bears_X11_comeBack : GoodIn wsX11_bears (wsV RX11 266 RX11 yX11_comeBack wsX11_comeBack) := goodIn_app (goodIn_of _ (by decide +kernel)) ggX11_bears_X11_comeBack
theorem dX11_bears_0 : decode cX11_bears 0 = .ok (.aload_n 0, 1) := by decide +kernel
theorem dX11_bears_1 : decode cX11_bears 1 = .ok (.iconst 0, 1) := by decide +kernel
theorem dX11_bears_2 : decode cX11_bears 2 = .ok (.putfield 58, 3) := by decide +kernel
theorem dX11_bears_5 : decode cX11_bears 5 = .ok (.aload_n 0, 1) := by decide +kernel
theorem dX11_bears_6 : decode cX11_bears 6 = .ok (.iload_n 1, 1) := by decide +kernel
theorem dX11_bears_7 : decode cX11_bears 7 = .ok (.invokevirtual 223, 3) := by decide +kernel
theorem dX11_bears_10 : decode cX11_bears 10 = .ok (.ifCond .eq 19, 3) := by decide +kernel
theorem dX11_bears_13 : decode cX11_bears 13 = .ok (.iload_n 1, 1) := by decide +kernel
theorem dX11_bears_14 : decode cX11_bears 14 = .ok (.ifCond .eq 15, 3) := by decide +kernel
theorem dX11_bears_17 : decode cX11_bears 17 = .ok (.iload_n 2, 1) := by decide +kernel
theorem dX11_bears_18 : decode cX11_bears 18 = .ok (.i2l, 1) := by decide +kernel
theorem dX11_bears_19 : decode cX11_bears 19 = .ok (.lconst 1, 1) := by decide +kernel
theorem dX11_bears_20 : decode cX11_bears 20 = .ok (.ldc2_w 241, 3) := by decide +kernel
theorem dX11_bears_23 : decode cX11_bears 23 = .ok (.invokestatic 68, 3) := by decide +kernel
theorem dX11_bears_26 : decode cX11_bears 26 = .ok (.ifCond .ne 6, 3) := by decide +kernel
theorem dX11_bears_29 : decode cX11_bears 29 = .ok (.ldc 78, 2) := by decide +kernel
theorem dX11_bears_31 : decode cX11_bears 31 = .ok (.ireturn, 1) := by decide +kernel
theorem dX11_bears_32 : decode cX11_bears 32 = .ok (.aload_n 0, 1) := by decide +kernel
theorem dX11_bears_33 : decode cX11_bears 33 = .ok (.invokevirtual 260, 3) := by decide +kernel
theorem dX11_bears_36 : decode cX11_bears 36 = .ok (.aload_n 0, 1) := by decide +kernel
theorem dX11_bears_37 : decode cX11_bears 37 = .ok (.iload_n 1, 1) := by decide +kernel
theorem dX11_bears_38 : decode cX11_bears 38 = .ok (.iconst 2, 1) := by decide +kernel
theorem dX11_bears_39 : decode cX11_bears 39 = .ok (.invokevirtual 201, 3) := by decide +kernel
theorem dX11_bears_42 : decode cX11_bears 42 = .ok (.istore_n 3, 1) := by decide +kernel
theorem dX11_bears_43 : decode cX11_bears 43 = .ok (.iconst 0, 1) := by decide +kernel
theorem dX11_bears_44 : decode cX11_bears 44 = .ok (.istore 4, 2) := by decide +kernel
theorem dX11_bears_46 : decode cX11_bears 46 = .ok (.iconst 1, 1) := by decide +kernel
theorem dX11_bears_47 : decode cX11_bears 47 = .ok (.istore 5, 2) := by decide +kernel
theorem dX11_bears_49 : decode cX11_bears 49 = .ok (.iload 5, 2) := by decide +kernel
theorem dX11_bears_51 : decode cX11_bears 51 = .ok (.ifCond .eq 110, 3) := by decide +kernel
theorem dX11_bears_54 : decode cX11_bears 54 = .ok (.iload 4, 2) := by decide +kernel
theorem dX11_bears_56 : decode cX11_bears 56 = .ok (.bipush 40, 2) := by decide +kernel
theorem dX11_bears_58 : decode cX11_bears 58 = .ok (.if_icmp .ge 103, 3) := by decide +kernel
theorem dX11_bears_61 : decode cX11_bears 61 = .ok (.aload_n 0, 1) := by decide +kernel
theorem dX11_bears_62 : decode cX11_bears 62 = .ok (.getfield 22, 3) := by decide +kernel
theorem dX11_bears_65 : decode cX11_bears 65 = .ok (.bipush 6, 2) := by decide +kernel
theorem dX11_bears_67 : decode cX11_bears 67 = .ok (.iload_n 1, 1) := by decide +kernel
theorem dX11_bears_68 : decode cX11_bears 68 = .ok (.imul, 1) := by decide +kernel
theorem dX11_bears_69 : decode cX11_bears 69 = .ok (.iconst 2, 1) := by decide +kernel
theorem dX11_bears_70 : decode cX11_bears 70 = .ok (.iadd, 1) := by decide +kernel
theorem dX11_bears_71 : decode cX11_bears 71 = .ok (.iload 4, 2) := by decide +kernel
theorem dX11_bears_73 : decode cX11_bears 73 = .ok (.iconst 1, 1) := by decide +kernel
theorem dX11_bears_74 : decode cX11_bears 74 = .ok (.iadd, 1) := by decide +kernel
theorem dX11_bears_75 : decode cX11_bears 75 = .ok (.iastore, 1) := by decide +kernel
theorem dX11_bears_76 : decode cX11_bears 76 = .ok (.iconst 0, 1) := by decide +kernel
theorem dX11_bears_77 : decode cX11_bears 77 = .ok (.istore 6, 2) := by decide +kernel
theorem dX11_bears_79 : decode cX11_bears 79 = .ok (.iload 6, 2) := by decide +kernel
theorem dX11_bears_81 : decode cX11_bears 81 = .ok (.iload_n 2, 1) := by decide +kernel
theorem dX11_bears_82 : decode cX11_bears 82 = .ok (.if_icmp .ge 13, 3) := by decide +kernel
theorem dX11_bears_85 : decode cX11_bears 85 = .ok (.aload_n 0, 1) := by decide +kernel
theorem dX11_bears_86 : decode cX11_bears 86 = .ok (.invokevirtual 234, 3) := by decide +kernel
theorem dX11_bears_89 : decode cX11_bears 89 = .ok (.iinc 6 1, 3) := by decide +kernel
theorem dX11_bears_92 : decode cX11_bears 92 = .ok (.goto (-13), 3) := by decide +kernel
theorem dX11_bears_95 : decode cX11_bears 95 = .ok (.aload_n 0, 1) := by decide +kernel
theorem dX11_bears_96 : decode cX11_bears 96 = .ok (.getfield 37, 3) := by decide +kernel
theorem dX11_bears_99 : decode cX11_bears 99 = .ok (.bipush 7, 2) := by decide +kernel
theorem dX11_bears_101 : decode cX11_bears 101 = .ok (.iload_n 1, 1) := by decide +kernel
theorem dX11_bears_102 : decode cX11_bears 102 = .ok (.iadd, 1) := by decide +kernel
theorem dX11_bears_103 : decode cX11_bears 103 = .ok (.iaload, 1) := by decide +kernel
theorem dX11_bears_104 : decode cX11_bears 104 = .ok (.aload_n 0, 1) := by decide +kernel
theorem dX11_bears_105 : decode cX11_bears 105 = .ok (.getfield 40, 3) := by decide +kernel
theorem dX11_bears_108 : decode cX11_bears 108 = .ok (.bipush 7, 2) := by decide +kernel
theorem dX11_bears_110 : decode cX11_bears 110 = .ok (.iload_n 1, 1) := by decide +kernel
theorem dX11_bears_111 : decode cX11_bears 111 = .ok (.iadd, 1) := by decide +kernel
theorem dX11_bears_112 : decode cX11_bears 112 = .ok (.iaload, 1) := by decide +kernel
theorem dX11_bears_113 : decode cX11_bears 113 = .ok (.isub, 1) := by decide +kernel
theorem dX11_bears_114 : decode cX11_bears 114 = .ok (.aload_n 0, 1) := by decide +kernel
theorem dX11_bears_115 : decode cX11_bears 115 = .ok (.getfield 37, 3) := by decide +kernel
theorem dX11_bears_118 : decode cX11_bears 118 = .ok (.bipush 7, 2) := by decide +kernel
theorem dX11_bears_120 : decode cX11_bears 120 = .ok (.iaload, 1) := by decide +kernel
theorem dX11_bears_121 : decode cX11_bears 121 = .ok (.aload_n 0, 1) := by decide +kernel
theorem dX11_bears_122 : decode cX11_bears 122 = .ok (.getfield 40, 3) := by decide +kernel
theorem dX11_bears_125 : decode cX11_bears 125 = .ok (.bipush 7, 2) := by decide +kernel
theorem dX11_bears_127 : decode cX11_bears 127 = .ok (.iaload, 1) := by decide +kernel
theorem dX11_bears_128 : decode cX11_bears 128 = .ok (.isub, 1) := by decide +kernel
theorem dX11_bears_129 : decode cX11_bears 129 = .ok (.if_icmp .lt 7, 3) := by decide +kernel
theorem dX11_bears_132 : decode cX11_bears 132 = .ok (.iconst 1, 1) := by decide +kernel
theorem dX11_bears_133 : decode cX11_bears 133 = .ok (.goto 4, 3) := by decide +kernel
theorem dX11_bears_136 : decode cX11_bears 136 = .ok (.iconst 0, 1) := by decide +kernel
theorem dX11_bears_137 : decode cX11_bears 137 = .ok (.istore 5, 2) := by decide +kernel
theorem dX11_bears_139 : decode cX11_bears 139 = .ok (.iload 4, 2) := by decide +kernel
theorem dX11_bears_141 : decode cX11_bears 141 = .ok (.iload 5, 2) := by decide +kernel
theorem dX11_bears_143 : decode cX11_bears 143 = .ok (.ifCond .eq 7, 3) := by decide +kernel
theorem dX11_bears_146 : decode cX11_bears 146 = .ok (.iconst 1, 1) := by decide +kernel
theorem dX11_bears_147 : decode cX11_bears 147 = .ok (.goto 4, 3) := by decide +kernel
theorem dX11_bears_150 : decode cX11_bears 150 = .ok (.iconst 0, 1) := by decide +kernel
theorem dX11_bears_151 : decode cX11_bears 151 = .ok (.iadd, 1) := by decide +kernel
theorem dX11_bears_152 : decode cX11_bears 152 = .ok (.istore 4, 2) := by decide +kernel
theorem dX11_bears_154 : decode cX11_bears 154 = .ok (.aload_n 0, 1) := by decide +kernel
theorem dX11_bears_155 : decode cX11_bears 155 = .ok (.invokevirtual 266, 3) := by decide +kernel
theorem dX11_bears_158 : decode cX11_bears 158 = .ok (.goto (-109), 3) := by decide +kernel
theorem dX11_bears_161 : decode cX11_bears 161 = .ok (.aload_n 0, 1) := by decide +kernel
theorem dX11_bears_162 : decode cX11_bears 162 = .ok (.getfield 22, 3) := by decide +kernel
theorem dX11_bears_165 : decode cX11_bears 165 = .ok (.bipush 6, 2) := by decide +kernel
theorem dX11_bears_167 : decode cX11_bears 167 = .ok (.iload_n 1, 1) := by decide +kernel
theorem dX11_bears_168 : decode cX11_bears 168 = .ok (.imul, 1) := by decide +kernel
theorem dX11_bears_169 : decode cX11_bears 169 = .ok (.iconst 2, 1) := by decide +kernel
theorem dX11_bears_170 : decode cX11_bears 170 = .ok (.iadd, 1) := by decide +kernel
theorem dX11_bears_171 : decode cX11_bears 171 = .ok (.iload_n 3, 1) := by decide +kernel
theorem dX11_bears_172 : decode cX11_bears 172 = .ok (.iastore, 1) := by decide +kernel
theorem dX11_bears_173 : decode cX11_bears 173 = .ok (.iload 4, 2) := by decide +kernel
theorem dX11_bears_175 : decode cX11_bears 175 = .ok (.ireturn, 1) := by decide +kernel
set_option maxRecDepth 20000 in
theorem ggX11_prints_X11_keep : GoodIn wsX11_prints wsX11_keep := goodIn_r _ [12, 13, 7, 63, 64, 65, 66, 67, 68, 69, 70, 71, 72, 73, 74, 75, 76, 77, 78, 79, 80, 81, 82, 83, 84, 85, 86, 87, 88, 89, 90, 91, 92, 93, 94, 95, 96, 97] (by decide +kernel) (by decide +kernel)
set_option maxRecDepth 20000 in
theorem gX11_prints_X11_keep : GoodIn wsX11_prints (wsV RX11 260 RX11 yX11_keep wsX11_keep) := goodIn_app (goodIn_of _ (by decide +kernel)) ggX11_prints_X11_keep
set_option maxRecDepth 20000 in
theorem ggX11_prints_X11_year : GoodIn wsX11_prints wsX11_year := goodIn_r _ [17, 18, 19, 20, 21, 22, 7, 23, 24, 25, 26, 11, 27, 28, 29, 30, 31, 32, 33, 34, 35, 36, 37, 38, 39, 40, 41, 42, 43, 44, 5, 45, 46, 47, 48, 49, 50, 51, 52, 53, 54, 55, 56, 57, 58, 63, 64, 65, 66, 67, 68, 69, 70, 71, 72, 73, 74, 75, 76, 77, 78, 79, 80, 81, 82, 83, 84, 85, 86, 87, 88, 89, 90, 91, 92, 93, 94, 95, 96, 97] (by decide +kernel) (by decide +kernel)
set_option maxRecDepth 20000 in
theorem gX11_prints_X11_year : GoodIn wsX11_prints (wsV RX11 234 RX11 yX11_year wsX11_year) := goodIn_app (goodIn_of _ (by decide +kernel)) ggX11_prints_X11_year
set_option maxRecDepth 20000 in
theorem ggX11_prints_X11_comeBack : GoodIn wsX11_prints wsX11_comeBack := goodIn_r _ [62, 7, 13, 63, 64, 65, 66, 67, 68, 69, 70, 71, 72, 73, 74, 75, 76, 77, 78, 79, 80, 81, 82, 83, 84, 85, 86, 87, 88, 89, 90, 91, 92, 93, 94, 95, 96, 97] (by decide +kernel) (by decide +kernel)
set_option maxRecDepth 20000 in
theorem gX11_prints_X11_comeBack : GoodIn wsX11_prints (wsV RX11 266 RX11 yX11_comeBack wsX11_comeBack) := goodIn_app (goodIn_of _ (by decide +kernel)) ggX11_prints_X11_comeBack
theorem dX11_prints_0 : decode cX11_prints 0 = .ok (.aload_n 0, 1) := by decide +kernel
theorem dX11_prints_1 : decode cX11_prints 1 = .ok (.iconst 0, 1) := by decide +kernel
theorem dX11_prints_2 : decode cX11_prints 2 = .ok (.putfield 58, 3) := by decide +kernel
theorem dX11_prints_5 : decode cX11_prints 5 = .ok (.iload_n 1, 1) := by decide +kernel
theorem dX11_prints_6 : decode cX11_prints 6 = .ok (.iconst (-1), 1) := by decide +kernel
theorem dX11_prints_7 : decode cX11_prints 7 = .ok (.if_icmp .ge 6, 3) := by decide +kernel
theorem dX11_prints_10 : decode cX11_prints 10 = .ok (.ldc 78, 2) := by decide +kernel
theorem dX11_prints_12 : decode cX11_prints 12 = .ok (.ireturn, 1) := by decide +kernel
theorem dX11_prints_13 : decode cX11_prints 13 = .ok (.aload_n 0, 1) := by decide +kernel
theorem dX11_prints_14 : decode cX11_prints 14 = .ok (.getfield 176, 3) := by decide +kernel
theorem dX11_prints_17 : decode cX11_prints 17 = .ok (.ifCond .ne 6, 3) := by decide +kernel
theorem dX11_prints_20 : decode cX11_prints 20 = .ok (.ldc 231, 2) := by decide +kernel
theorem dX11_prints_22 : decode cX11_prints 22 = .ok (.ireturn, 1) := by decide +kernel
theorem dX11_prints_23 : decode cX11_prints 23 = .ok (.aload_n 0, 1) := by decide +kernel
theorem dX11_prints_24 : decode cX11_prints 24 = .ok (.getfield 185, 3) := by decide +kernel
theorem dX11_prints_27 : decode cX11_prints 27 = .ok (.istore_n 2, 1) := by decide +kernel
theorem dX11_prints_28 : decode cX11_prints 28 = .ok (.iconst 0, 1) := by decide +kernel
theorem dX11_prints_29 : decode cX11_prints 29 = .ok (.istore_n 3, 1) := by decide +kernel
theorem dX11_prints_30 : decode cX11_prints 30 = .ok (.ldc 94, 2) := by decide +kernel
theorem dX11_prints_32 : decode cX11_prints 32 = .ok (.istore 4, 2) := by decide +kernel
theorem dX11_prints_34 : decode cX11_prints 34 = .ok (.aload_n 0, 1) := by decide +kernel
theorem dX11_prints_35 : decode cX11_prints 35 = .ok (.invokevirtual 260, 3) := by decide +kernel
theorem dX11_prints_38 : decode cX11_prints 38 = .ok (.iconst 0, 1) := by decide +kernel
theorem dX11_prints_39 : decode cX11_prints 39 = .ok (.istore 5, 2) := by decide +kernel
theorem dX11_prints_41 : decode cX11_prints 41 = .ok (.iload 5, 2) := by decide +kernel
theorem dX11_prints_43 : decode cX11_prints 43 = .ok (.bipush 100, 2) := by decide +kernel
theorem dX11_prints_45 : decode cX11_prints 45 = .ok (.if_icmp .ge 51, 3) := by decide +kernel
theorem dX11_prints_48 : decode cX11_prints 48 = .ok (.aload_n 0, 1) := by decide +kernel
theorem dX11_prints_49 : decode cX11_prints 49 = .ok (.iload 5, 2) := by decide +kernel
theorem dX11_prints_51 : decode cX11_prints 51 = .ok (.putfield 185, 3) := by decide +kernel
theorem dX11_prints_54 : decode cX11_prints 54 = .ok (.aload_n 0, 1) := by decide +kernel
theorem dX11_prints_55 : decode cX11_prints 55 = .ok (.invokevirtual 234, 3) := by decide +kernel
theorem dX11_prints_58 : decode cX11_prints 58 = .ok (.aload_n 0, 1) := by decide +kernel
theorem dX11_prints_59 : decode cX11_prints 59 = .ok (.getfield 37, 3) := by decide +kernel
theorem dX11_prints_62 : decode cX11_prints 62 = .ok (.iconst 0, 1) := by decide +kernel
theorem dX11_prints_63 : decode cX11_prints 63 = .ok (.iaload, 1) := by decide +kernel
theorem dX11_prints_64 : decode cX11_prints 64 = .ok (.iload 5, 2) := by decide +kernel
theorem dX11_prints_66 : decode cX11_prints 66 = .ok (.if_icmp .ne 20, 3) := by decide +kernel
theorem dX11_prints_69 : decode cX11_prints 69 = .ok (.iload_n 3, 1) := by decide +kernel
theorem dX11_prints_70 : decode cX11_prints 70 = .ok (.iload_n 1, 1) := by decide +kernel
theorem dX11_prints_71 : decode cX11_prints 71 = .ok (.if_icmp .ne 8, 3) := by decide +kernel
theorem dX11_prints_74 : decode cX11_prints 74 = .ok (.iload 5, 2) := by decide +kernel
theorem dX11_prints_76 : decode cX11_prints 76 = .ok (.goto 5, 3) := by decide +kernel
theorem dX11_prints_79 : decode cX11_prints 79 = .ok (.iload 4, 2) := by decide +kernel
theorem dX11_prints_81 : decode cX11_prints 81 = .ok (.istore 4, 2) := by decide +kernel
theorem dX11_prints_83 : decode cX11_prints 83 = .ok (.iinc 3 1, 3) := by decide +kernel
theorem dX11_prints_86 : decode cX11_prints 86 = .ok (.aload_n 0, 1) := by decide +kernel
theorem dX11_prints_87 : decode cX11_prints 87 = .ok (.invokevirtual 266, 3) := by decide +kernel
theorem dX11_prints_90 : decode cX11_prints 90 = .ok (.iinc 5 1, 3) := by decide +kernel
theorem dX11_prints_93 : decode cX11_prints 93 = .ok (.goto (-52), 3) := by decide +kernel
theorem dX11_prints_96 : decode cX11_prints 96 = .ok (.aload_n 0, 1) := by decide +kernel
theorem dX11_prints_97 : decode cX11_prints 97 = .ok (.iload_n 2, 1) := by decide +kernel
theorem dX11_prints_98 : decode cX11_prints 98 = .ok (.putfield 185, 3) := by decide +kernel
theorem dX11_prints_101 : decode cX11_prints 101 = .ok (.iload_n 1, 1) := by decide +kernel
theorem dX11_prints_102 : decode cX11_prints 102 = .ok (.iconst (-1), 1) := by decide +kernel
theorem dX11_prints_103 : decode cX11_prints 103 = .ok (.if_icmp .ne 7, 3) := by decide +kernel
theorem dX11_prints_106 : decode cX11_prints 106 = .ok (.iload_n 3, 1) := by decide +kernel
theorem dX11_prints_107 : decode cX11_prints 107 = .ok (.goto 5, 3) := by decide +kernel
theorem dX11_prints_110 : decode cX11_prints 110 = .ok (.iload 4, 2) := by decide +kernel
theorem dX11_prints_112 : decode cX11_prints 112 = .ok (.ireturn, 1) := by decide +kernel
set_option maxRecDepth 20000 in
theorem ggX11_calm_X11_in : GoodIn wsX11_calm wsX11_in := goodIn_r _ [15] (by decide +kernel) (by decide +kernel)
set_option maxRecDepth 20000 in
theorem gX11_calm_X11_in : GoodIn wsX11_calm (va_wsS RX11 68 yX11_in wsX11_in) := goodIn_app (goodIn_of _ (by decide +kernel)) ggX11_calm_X11_in
set_option maxRecDepth 20000 in
theorem ggX11_calm_X11_keep : GoodIn wsX11_calm wsX11_keep := goodIn_r _ [19, 20, 11, 68, 69, 70, 71, 72, 73, 74, 75, 76, 77, 78, 79, 80, 81, 82, 83, 84, 85, 86, 87, 88, 89, 90, 91, 92, 93, 94, 95, 96, 97, 98, 99, 100, 101, 102] (by decide +kernel) (by decide +kernel)
set_option maxRecDepth 20000 in
theorem gX11_calm_X11_keep : GoodIn wsX11_calm (wsV RX11 260 RX11 yX11_keep wsX11_keep) := goodIn_app (goodIn_of _ (by decide +kernel)) ggX11_calm_X11_keep
set_option maxRecDepth 20000 in
theorem ggX11_calm_X11_year : GoodIn wsX11_calm wsX11_year := goodIn_r _ [24, 25, 26, 9, 7, 8, 11, 27, 28, 29, 30, 14, 31, 32, 33, 34, 35, 36, 37, 38, 39, 40, 41, 42, 43, 44, 45, 46, 47, 48, 49, 50, 51, 52, 53, 54, 55, 56, 57, 58, 59, 60, 61, 62, 63, 68, 69, 70, 71, 72, 73, 74, 75, 76, 77, 78, 79, 80, 81, 82, 83, 84, 85, 86, 87, 88, 89, 90, 91, 92, 93, 94, 95, 96, 97, 98, 99, 100, 101, 102] (by decide +kernel) (by decide +kernel)
set_option maxRecDepth 20000 in
theorem gX11_calm_X11_year : GoodIn wsX11_calm (wsV RX11 234 RX11 yX11_year wsX11_year) := goodIn_app (goodIn_of _ (by decide +kernel)) ggX11_calm_X11_year
set_option maxRecDepth 20000 in
theorem ggX11_calm_X11_comeBack : GoodIn wsX11_calm wsX11_comeBack := goodIn_r _ [67, 11, 20, 68, 69, 70, 71, 72, 73, 74, 75, 76, 77, 78, 79, 80, 81, 82, 83, 84, 85, 86, 87, 88, 89, 90, 91, 92, 93, 94, 95, 96, 97, 98, 99, 100, 101, 102] (by decide +kernel) (by decide +kernel)
set_option maxRecDepth 20000 in
theorem gX11_calm_X11_comeBack : GoodIn wsX11_calm (wsV RX11 266 RX11 yX11_comeBack wsX11_comeBack) := goodIn_app (goodIn_of _ (by decide +kernel)) ggX11_calm_X11_comeBack
theorem dX11_calm_0 : decode cX11_calm 0 = .ok (.aload_n 0, 1) := by decide +kernel
theorem dX11_calm_1 : decode cX11_calm 1 = .ok (.iconst 0, 1) := by decide +kernel
theorem dX11_calm_2 : decode cX11_calm 2 = .ok (.putfield 58, 3) := by decide +kernel
theorem dX11_calm_5 : decode cX11_calm 5 = .ok (.iload_n 1, 1) := by decide +kernel
theorem dX11_calm_6 : decode cX11_calm 6 = .ok (.i2l, 1) := by decide +kernel
theorem dX11_calm_7 : decode cX11_calm 7 = .ok (.lconst 1, 1) := by decide +kernel
theorem dX11_calm_8 : decode cX11_calm 8 = .ok (.ldc2_w 247, 3) := by decide +kernel
theorem dX11_calm_11 : decode cX11_calm 11 = .ok (.invokestatic 68, 3) := by decide +kernel
theorem dX11_calm_14 : decode cX11_calm 14 = .ok (.ifCond .eq 15, 3) := by decide +kernel
theorem dX11_calm_17 : decode cX11_calm 17 = .ok (.iload_n 2, 1) := by decide +kernel
theorem dX11_calm_18 : decode cX11_calm 18 = .ok (.i2l, 1) := by decide +kernel
theorem dX11_calm_19 : decode cX11_calm 19 = .ok (.lconst 0, 1) := by decide +kernel
theorem dX11_calm_20 : decode cX11_calm 20 = .ok (.ldc2_w 229, 3) := by decide +kernel
theorem dX11_calm_23 : decode cX11_calm 23 = .ok (.invokestatic 68, 3) := by decide +kernel
theorem dX11_calm_26 : decode cX11_calm 26 = .ok (.ifCond .ne 6, 3) := by decide +kernel
theorem dX11_calm_29 : decode cX11_calm 29 = .ok (.ldc 78, 2) := by decide +kernel
theorem dX11_calm_31 : decode cX11_calm 31 = .ok (.ireturn, 1) := by decide +kernel
theorem dX11_calm_32 : decode cX11_calm 32 = .ok (.aload_n 0, 1) := by decide +kernel
theorem dX11_calm_33 : decode cX11_calm 33 = .ok (.getfield 176, 3) := by decide +kernel
theorem dX11_calm_36 : decode cX11_calm 36 = .ok (.ifCond .ne 6, 3) := by decide +kernel
theorem dX11_calm_39 : decode cX11_calm 39 = .ok (.ldc 231, 2) := by decide +kernel
theorem dX11_calm_41 : decode cX11_calm 41 = .ok (.ireturn, 1) := by decide +kernel
theorem dX11_calm_42 : decode cX11_calm 42 = .ok (.aload_n 0, 1) := by decide +kernel
theorem dX11_calm_43 : decode cX11_calm 43 = .ok (.getfield 188, 3) := by decide +kernel
theorem dX11_calm_46 : decode cX11_calm 46 = .ok (.istore_n 3, 1) := by decide +kernel
theorem dX11_calm_47 : decode cX11_calm 47 = .ok (.aload_n 0, 1) := by decide +kernel
theorem dX11_calm_48 : decode cX11_calm 48 = .ok (.getfield 191, 3) := by decide +kernel
theorem dX11_calm_51 : decode cX11_calm 51 = .ok (.istore 4, 2) := by decide +kernel
theorem dX11_calm_53 : decode cX11_calm 53 = .ok (.aload_n 0, 1) := by decide +kernel
theorem dX11_calm_54 : decode cX11_calm 54 = .ok (.getfield 194, 3) := by decide +kernel
theorem dX11_calm_57 : decode cX11_calm 57 = .ok (.istore 5, 2) := by decide +kernel
theorem dX11_calm_59 : decode cX11_calm 59 = .ok (.ldc 94, 2) := by decide +kernel
theorem dX11_calm_61 : decode cX11_calm 61 = .ok (.istore 6, 2) := by decide +kernel
theorem dX11_calm_63 : decode cX11_calm 63 = .ok (.iconst 0, 1) := by decide +kernel
theorem dX11_calm_64 : decode cX11_calm 64 = .ok (.istore 7, 2) := by decide +kernel
theorem dX11_calm_66 : decode cX11_calm 66 = .ok (.aload_n 0, 1) := by decide +kernel
theorem dX11_calm_67 : decode cX11_calm 67 = .ok (.invokevirtual 260, 3) := by decide +kernel
theorem dX11_calm_70 : decode cX11_calm 70 = .ok (.aload_n 0, 1) := by decide +kernel
theorem dX11_calm_71 : decode cX11_calm 71 = .ok (.bipush 10, 2) := by decide +kernel
theorem dX11_calm_73 : decode cX11_calm 73 = .ok (.putfield 194, 3) := by decide +kernel
theorem dX11_calm_76 : decode cX11_calm 76 = .ok (.aload_n 0, 1) := by decide +kernel
theorem dX11_calm_77 : decode cX11_calm 77 = .ok (.getfield 194, 3) := by decide +kernel
theorem dX11_calm_80 : decode cX11_calm 80 = .ok (.bipush 31, 2) := by decide +kernel
theorem dX11_calm_82 : decode cX11_calm 82 = .ok (.if_icmp .ge 223, 3) := by decide +kernel
theorem dX11_calm_85 : decode cX11_calm 85 = .ok (.aload_n 0, 1) := by decide +kernel
theorem dX11_calm_86 : decode cX11_calm 86 = .ok (.iconst 5, 1) := by decide +kernel
theorem dX11_calm_87 : decode cX11_calm 87 = .ok (.putfield 191, 3) := by decide +kernel
theorem dX11_calm_90 : decode cX11_calm 90 = .ok (.aload_n 0, 1) := by decide +kernel
theorem dX11_calm_91 : decode cX11_calm 91 = .ok (.getfield 191, 3) := by decide +kernel
theorem dX11_calm_94 : decode cX11_calm 94 = .ok (.bipush 51, 2) := by decide +kernel
theorem dX11_calm_96 : decode cX11_calm 96 = .ok (.if_icmp .ge 195, 3) := by decide +kernel
theorem dX11_calm_99 : decode cX11_calm 99 = .ok (.aload_n 0, 1) := by decide +kernel
theorem dX11_calm_100 : decode cX11_calm 100 = .ok (.iconst 0, 1) := by decide +kernel
theorem dX11_calm_101 : decode cX11_calm 101 = .ok (.putfield 188, 3) := by decide +kernel
theorem dX11_calm_104 : decode cX11_calm 104 = .ok (.aload_n 0, 1) := by decide +kernel
theorem dX11_calm_105 : decode cX11_calm 105 = .ok (.getfield 188, 3) := by decide +kernel
theorem dX11_calm_108 : decode cX11_calm 108 = .ok (.aload_n 0, 1) := by decide +kernel
theorem dX11_calm_109 : decode cX11_calm 109 = .ok (.getfield 191, 3) := by decide +kernel
theorem dX11_calm_112 : decode cX11_calm 112 = .ok (.if_icmp .ge 166, 3) := by decide +kernel
theorem dX11_calm_115 : decode cX11_calm 115 = .ok (.aload_n 0, 1) := by decide +kernel
theorem dX11_calm_116 : decode cX11_calm 116 = .ok (.getfield 37, 3) := by decide +kernel
theorem dX11_calm_119 : decode cX11_calm 119 = .ok (.iconst 4, 1) := by decide +kernel
theorem dX11_calm_120 : decode cX11_calm 120 = .ok (.iconst 0, 1) := by decide +kernel
theorem dX11_calm_121 : decode cX11_calm 121 = .ok (.iastore, 1) := by decide +kernel
theorem dX11_calm_122 : decode cX11_calm 122 = .ok (.aload_n 0, 1) := by decide +kernel
theorem dX11_calm_123 : decode cX11_calm 123 = .ok (.getfield 37, 3) := by decide +kernel
theorem dX11_calm_126 : decode cX11_calm 126 = .ok (.iconst 5, 1) := by decide +kernel
theorem dX11_calm_127 : decode cX11_calm 127 = .ok (.iconst 0, 1) := by decide +kernel
theorem dX11_calm_128 : decode cX11_calm 128 = .ok (.iastore, 1) := by decide +kernel
theorem dX11_calm_129 : decode cX11_calm 129 = .ok (.iconst 0, 1) := by decide +kernel
theorem dX11_calm_130 : decode cX11_calm 130 = .ok (.istore 8, 2) := by decide +kernel
theorem dX11_calm_132 : decode cX11_calm 132 = .ok (.bipush 100, 2) := by decide +kernel
theorem dX11_calm_134 : decode cX11_calm 134 = .ok (.istore 9, 2) := by decide +kernel
theorem dX11_calm_136 : decode cX11_calm 136 = .ok (.iconst 0, 1) := by decide +kernel
theorem dX11_calm_137 : decode cX11_calm 137 = .ok (.istore 10, 2) := by decide +kernel
theorem dX11_calm_139 : decode cX11_calm 139 = .ok (.iload 10, 2) := by decide +kernel
theorem dX11_calm_141 : decode cX11_calm 141 = .ok (.iload_n 1, 1) := by decide +kernel
theorem dX11_calm_142 : decode cX11_calm 142 = .ok (.if_icmp .ge 61, 3) := by decide +kernel
theorem dX11_calm_145 : decode cX11_calm 145 = .ok (.aload_n 0, 1) := by decide +kernel
theorem dX11_calm_146 : decode cX11_calm 146 = .ok (.invokevirtual 234, 3) := by decide +kernel
theorem dX11_calm_149 : decode cX11_calm 149 = .ok (.aload_n 0, 1) := by decide +kernel
theorem dX11_calm_150 : decode cX11_calm 150 = .ok (.getfield 37, 3) := by decide +kernel
theorem dX11_calm_153 : decode cX11_calm 153 = .ok (.iconst 0, 1) := by decide +kernel
