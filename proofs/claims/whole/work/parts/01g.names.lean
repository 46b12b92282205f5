theorem dX11_copy_2 : decode cX11_copy 2 = .ok (.putfield 58, 3) := by decide +kernel
theorem dX11_copy_5 : decode cX11_copy 5 = .ok (.iload_n 1, 1) := by decide +kernel
theorem dX11_copy_6 : decode cX11_copy 6 = .ok (.invokestatic 72, 3) := by decide +kernel
theorem dX11_copy_9 : decode cX11_copy 9 = .ok (.ifCond .eq 10, 3) := by decide +kernel
theorem dX11_copy_12 : decode cX11_copy 12 = .ok (.iload_n 3, 1) := by decide +kernel
theorem dX11_copy_13 : decode cX11_copy 13 = .ok (.invokestatic 72, 3) := by decide +kernel
theorem dX11_copy_16 : decode cX11_copy 16 = .ok (.ifCond .ne 6, 3) := by decide +kernel
theorem dX11_copy_19 : decode cX11_copy 19 = .ok (.ldc 78, 2) := by decide +kernel
theorem dX11_copy_21 : decode cX11_copy 21 = .ok (.ireturn, 1) := by decide +kernel
theorem dX11_copy_22 : decode cX11_copy 22 = .ok (.aload_n 0, 1) := by decide +kernel
theorem dX11_copy_23 : decode cX11_copy 23 = .ok (.iconst 0, 1) := by decide +kernel
theorem dX11_copy_24 : decode cX11_copy 24 = .ok (.putfield 62, 3) := by decide +kernel
theorem dX11_copy_27 : decode cX11_copy 27 = .ok (.aload_n 0, 1) := by decide +kernel
theorem dX11_copy_28 : decode cX11_copy 28 = .ok (.getfield 7, 3) := by decide +kernel
theorem dX11_copy_31 : decode cX11_copy 31 = .ok (.iload_n 1, 1) := by decide +kernel
theorem dX11_copy_32 : decode cX11_copy 32 = .ok (.iaload, 1) := by decide +kernel
theorem dX11_copy_33 : decode cX11_copy 33 = .ok (.ifCond .lt 12, 3) := by decide +kernel
theorem dX11_copy_36 : decode cX11_copy 36 = .ok (.aload_n 0, 1) := by decide +kernel
theorem dX11_copy_37 : decode cX11_copy 37 = .ok (.getfield 7, 3) := by decide +kernel
theorem dX11_copy_40 : decode cX11_copy 40 = .ok (.iload_n 3, 1) := by decide +kernel
theorem dX11_copy_41 : decode cX11_copy 41 = .ok (.iaload, 1) := by decide +kernel
theorem dX11_copy_42 : decode cX11_copy 42 = .ok (.ifCond .ge 9, 3) := by decide +kernel
theorem dX11_copy_45 : decode cX11_copy 45 = .ok (.aload_n 0, 1) := by decide +kernel
theorem dX11_copy_46 : decode cX11_copy 46 = .ok (.iconst 1, 1) := by decide +kernel
theorem dX11_copy_47 : decode cX11_copy 47 = .ok (.invokevirtual 79, 3) := by decide +kernel
theorem dX11_copy_50 : decode cX11_copy 50 = .ok (.ireturn, 1) := by decide +kernel
theorem dX11_copy_51 : decode cX11_copy 51 = .ok (.aload_n 0, 1) := by decide +kernel
theorem dX11_copy_52 : decode cX11_copy 52 = .ok (.getfield 7, 3) := by decide +kernel
theorem dX11_copy_55 : decode cX11_copy 55 = .ok (.iload_n 1, 1) := by decide +kernel
theorem dX11_copy_56 : decode cX11_copy 56 = .ok (.iaload, 1) := by decide +kernel
theorem dX11_copy_57 : decode cX11_copy 57 = .ok (.aload_n 0, 1) := by decide +kernel
theorem dX11_copy_58 : decode cX11_copy 58 = .ok (.getfield 7, 3) := by decide +kernel
theorem dX11_copy_61 : decode cX11_copy 61 = .ok (.iload_n 3, 1) := by decide +kernel
theorem dX11_copy_62 : decode cX11_copy 62 = .ok (.iaload, 1) := by decide +kernel
theorem dX11_copy_63 : decode cX11_copy 63 = .ok (.if_icmp .eq 9, 3) := by decide +kernel
theorem dX11_copy_66 : decode cX11_copy 66 = .ok (.aload_n 0, 1) := by decide +kernel
theorem dX11_copy_67 : decode cX11_copy 67 = .ok (.iconst 5, 1) := by decide +kernel
theorem dX11_copy_68 : decode cX11_copy 68 = .ok (.invokevirtual 79, 3) := by decide +kernel
theorem dX11_copy_71 : decode cX11_copy 71 = .ok (.ireturn, 1) := by decide +kernel
theorem dX11_copy_72 : decode cX11_copy 72 = .ok (.iload_n 2, 1) := by decide +kernel
theorem dX11_copy_73 : decode cX11_copy 73 = .ok (.ifCond .lt 48, 3) := by decide +kernel
theorem dX11_copy_76 : decode cX11_copy 76 = .ok (.iload 4, 2) := by decide +kernel
theorem dX11_copy_78 : decode cX11_copy 78 = .ok (.ifCond .lt 43, 3) := by decide +kernel
theorem dX11_copy_81 : decode cX11_copy 81 = .ok (.iload 5, 2) := by decide +kernel
theorem dX11_copy_83 : decode cX11_copy 83 = .ok (.ifCond .lt 38, 3) := by decide +kernel
theorem dX11_copy_86 : decode cX11_copy 86 = .ok (.iload_n 2, 1) := by decide +kernel
theorem dX11_copy_87 : decode cX11_copy 87 = .ok (.i2l, 1) := by decide +kernel
theorem dX11_copy_88 : decode cX11_copy 88 = .ok (.iload 5, 2) := by decide +kernel
theorem dX11_copy_90 : decode cX11_copy 90 = .ok (.i2l, 1) := by decide +kernel
theorem dX11_copy_91 : decode cX11_copy 91 = .ok (.ladd, 1) := by decide +kernel
theorem dX11_copy_92 : decode cX11_copy 92 = .ok (.aload_n 0, 1) := by decide +kernel
theorem dX11_copy_93 : decode cX11_copy 93 = .ok (.getfield 13, 3) := by decide +kernel
theorem dX11_copy_96 : decode cX11_copy 96 = .ok (.iload_n 1, 1) := by decide +kernel
theorem dX11_copy_97 : decode cX11_copy 97 = .ok (.iaload, 1) := by decide +kernel
theorem dX11_copy_98 : decode cX11_copy 98 = .ok (.i2l, 1) := by decide +kernel
theorem dX11_copy_99 : decode cX11_copy 99 = .ok (.lcmp, 1) := by decide +kernel
theorem dX11_copy_100 : decode cX11_copy 100 = .ok (.ifCond .gt 21, 3) := by decide +kernel
theorem dX11_copy_103 : decode cX11_copy 103 = .ok (.iload 4, 2) := by decide +kernel
theorem dX11_copy_105 : decode cX11_copy 105 = .ok (.i2l, 1) := by decide +kernel
theorem dX11_copy_106 : decode cX11_copy 106 = .ok (.iload 5, 2) := by decide +kernel
theorem dX11_copy_108 : decode cX11_copy 108 = .ok (.i2l, 1) := by decide +kernel
theorem dX11_copy_109 : decode cX11_copy 109 = .ok (.ladd, 1) := by decide +kernel
theorem dX11_copy_110 : decode cX11_copy 110 = .ok (.aload_n 0, 1) := by decide +kernel
theorem dX11_copy_111 : decode cX11_copy 111 = .ok (.getfield 13, 3) := by decide +kernel
theorem dX11_copy_114 : decode cX11_copy 114 = .ok (.iload_n 3, 1) := by decide +kernel
theorem dX11_copy_115 : decode cX11_copy 115 = .ok (.iaload, 1) := by decide +kernel
theorem dX11_copy_116 : decode cX11_copy 116 = .ok (.i2l, 1) := by decide +kernel
theorem dX11_copy_117 : decode cX11_copy 117 = .ok (.lcmp, 1) := by decide +kernel
theorem dX11_copy_118 : decode cX11_copy 118 = .ok (.ifCond .le 9, 3) := by decide +kernel
theorem dX11_copy_121 : decode cX11_copy 121 = .ok (.aload_n 0, 1) := by decide +kernel
theorem dX11_copy_122 : decode cX11_copy 122 = .ok (.iconst 2, 1) := by decide +kernel
theorem dX11_copy_123 : decode cX11_copy 123 = .ok (.invokevirtual 79, 3) := by decide +kernel
theorem dX11_copy_126 : decode cX11_copy 126 = .ok (.ireturn, 1) := by decide +kernel
theorem dX11_copy_127 : decode cX11_copy 127 = .ok (.iload_n 2, 1) := by decide +kernel
theorem dX11_copy_128 : decode cX11_copy 128 = .ok (.iload 4, 2) := by decide +kernel
theorem dX11_copy_130 : decode cX11_copy 130 = .ok (.if_icmp .lt 7, 3) := by decide +kernel
theorem dX11_copy_133 : decode cX11_copy 133 = .ok (.iconst 1, 1) := by decide +kernel
theorem dX11_copy_134 : decode cX11_copy 134 = .ok (.goto 4, 3) := by decide +kernel
theorem dX11_copy_137 : decode cX11_copy 137 = .ok (.iconst 0, 1) := by decide +kernel
theorem dX11_copy_138 : decode cX11_copy 138 = .ok (.istore 6, 2) := by decide +kernel
theorem dX11_copy_140 : decode cX11_copy 140 = .ok (.iconst 0, 1) := by decide +kernel
theorem dX11_copy_141 : decode cX11_copy 141 = .ok (.istore 7, 2) := by decide +kernel
theorem dX11_copy_143 : decode cX11_copy 143 = .ok (.iload 7, 2) := by decide +kernel
theorem dX11_copy_145 : decode cX11_copy 145 = .ok (.iload 5, 2) := by decide +kernel
theorem dX11_copy_147 : decode cX11_copy 147 = .ok (.if_icmp .ge 57, 3) := by decide +kernel
theorem dX11_copy_150 : decode cX11_copy 150 = .ok (.iload 6, 2) := by decide +kernel
theorem dX11_copy_152 : decode cX11_copy 152 = .ok (.ifCond .eq 8, 3) := by decide +kernel
theorem dX11_copy_155 : decode cX11_copy 155 = .ok (.iload 7, 2) := by decide +kernel
theorem dX11_copy_157 : decode cX11_copy 157 = .ok (.goto 10, 3) := by decide +kernel
theorem dX11_copy_160 : decode cX11_copy 160 = .ok (.iload 5, 2) := by decide +kernel
theorem dX11_copy_162 : decode cX11_copy 162 = .ok (.iconst 1, 1) := by decide +kernel
theorem dX11_copy_163 : decode cX11_copy 163 = .ok (.isub, 1) := by decide +kernel
theorem dX11_copy_164 : decode cX11_copy 164 = .ok (.iload 7, 2) := by decide +kernel
theorem dX11_copy_166 : decode cX11_copy 166 = .ok (.isub, 1) := by decide +kernel
theorem dX11_copy_167 : decode cX11_copy 167 = .ok (.istore 8, 2) := by decide +kernel
theorem dX11_copy_169 : decode cX11_copy 169 = .ok (.aload_n 0, 1) := by decide +kernel
theorem dX11_copy_170 : decode cX11_copy 170 = .ok (.getfield 16, 3) := by decide +kernel
theorem dX11_copy_173 : decode cX11_copy 173 = .ok (.bipush 60, 2) := by decide +kernel
theorem dX11_copy_175 : decode cX11_copy 175 = .ok (.iload_n 3, 1) := by decide +kernel
theorem dX11_copy_176 : decode cX11_copy 176 = .ok (.imul, 1) := by decide +kernel
theorem dX11_copy_177 : decode cX11_copy 177 = .ok (.iload 4, 2) := by decide +kernel
theorem dX11_copy_179 : decode cX11_copy 179 = .ok (.iadd, 1) := by decide +kernel
theorem dX11_copy_180 : decode cX11_copy 180 = .ok (.iload 8, 2) := by decide +kernel
theorem dX11_copy_182 : decode cX11_copy 182 = .ok (.iadd, 1) := by decide +kernel
theorem dX11_copy_183 : decode cX11_copy 183 = .ok (.aload_n 0, 1) := by decide +kernel
theorem dX11_copy_184 : decode cX11_copy 184 = .ok (.getfield 16, 3) := by decide +kernel
theorem dX11_copy_187 : decode cX11_copy 187 = .ok (.bipush 60, 2) := by decide +kernel
theorem dX11_copy_189 : decode cX11_copy 189 = .ok (.iload_n 1, 1) := by decide +kernel
theorem dX11_copy_190 : decode cX11_copy 190 = .ok (.imul, 1) := by decide +kernel
theorem dX11_copy_191 : decode cX11_copy 191 = .ok (.iload_n 2, 1) := by decide +kernel
theorem dX11_copy_192 : decode cX11_copy 192 = .ok (.iadd, 1) := by decide +kernel
theorem dX11_copy_193 : decode cX11_copy 193 = .ok (.iload 8, 2) := by decide +kernel
theorem dX11_copy_195 : decode cX11_copy 195 = .ok (.iadd, 1) := by decide +kernel
theorem dX11_copy_196 : decode cX11_copy 196 = .ok (.iaload, 1) := by decide +kernel
theorem dX11_copy_197 : decode cX11_copy 197 = .ok (.iastore, 1) := by decide +kernel
theorem dX11_copy_198 : decode cX11_copy 198 = .ok (.iinc 7 1, 3) := by decide +kernel
theorem dX11_copy_201 : decode cX11_copy 201 = .ok (.goto (-58), 3) := by decide +kernel
theorem dX11_copy_204 : decode cX11_copy 204 = .ok (.iload 5, 2) := by decide +kernel
theorem dX11_copy_206 : decode cX11_copy 206 = .ok (.ireturn, 1) := by decide +kernel
set_option maxRecDepth 20000 in
theorem ggX11_drop_X11_isSheet : GoodIn wsX11_drop wsX11_isSheet := goodIn_r _ [9, 10, 11, 12, 8, 13] (by decide +kernel) (by decide +kernel)
set_option maxRecDepth 20000 in
theorem gX11_drop_X11_isSheet : GoodIn wsX11_drop (va_wsS RX11 72 yX11_isSheet wsX11_isSheet) := goodIn_app (goodIn_of _ (by decide +kernel)) ggX11_drop_X11_isSheet
set_option maxRecDepth 20000 in
theorem ggX11_drop_X11_finding : GoodIn wsX11_drop wsX11_finding := goodIn_r _ [17, 3, 18, 19, 20, 21, 22, 23, 24, 25, 26, 27, 28, 29, 30, 31, 32, 33, 34, 35, 36, 37, 38, 39, 40, 41, 42, 43, 44, 45, 46, 47, 48, 49, 50, 51, 52, 53] (by decide +kernel) (by decide +kernel)
set_option maxRecDepth 20000 in
theorem gX11_drop_X11_finding : GoodIn wsX11_drop (wsV RX11 79 RX11 yX11_finding wsX11_finding) := goodIn_app (goodIn_of _ (by decide +kernel)) ggX11_drop_X11_finding
theorem dX11_drop_0 : decode cX11_drop 0 = .ok (.aload_n 0, 1) := by decide +kernel
theorem dX11_drop_1 : decode cX11_drop 1 = .ok (.iconst 0, 1) := by decide +kernel
theorem dX11_drop_2 : decode cX11_drop 2 = .ok (.putfield 58, 3) := by decide +kernel
theorem dX11_drop_5 : decode cX11_drop 5 = .ok (.iload_n 1, 1) := by decide +kernel
theorem dX11_drop_6 : decode cX11_drop 6 = .ok (.invokestatic 72, 3) := by decide +kernel
theorem dX11_drop_9 : decode cX11_drop 9 = .ok (.ifCond .ne 6, 3) := by decide +kernel
theorem dX11_drop_12 : decode cX11_drop 12 = .ok (.ldc 78, 2) := by decide +kernel
theorem dX11_drop_14 : decode cX11_drop 14 = .ok (.ireturn, 1) := by decide +kernel
theorem dX11_drop_15 : decode cX11_drop 15 = .ok (.aload_n 0, 1) := by decide +kernel
theorem dX11_drop_16 : decode cX11_drop 16 = .ok (.iconst 0, 1) := by decide +kernel
theorem dX11_drop_17 : decode cX11_drop 17 = .ok (.putfield 62, 3) := by decide +kernel
theorem dX11_drop_20 : decode cX11_drop 20 = .ok (.aload_n 0, 1) := by decide +kernel
theorem dX11_drop_21 : decode cX11_drop 21 = .ok (.getfield 7, 3) := by decide +kernel
theorem dX11_drop_24 : decode cX11_drop 24 = .ok (.iload_n 1, 1) := by decide +kernel
theorem dX11_drop_25 : decode cX11_drop 25 = .ok (.iaload, 1) := by decide +kernel
theorem dX11_drop_26 : decode cX11_drop 26 = .ok (.ifCond .ge 9, 3) := by decide +kernel
theorem dX11_drop_29 : decode cX11_drop 29 = .ok (.aload_n 0, 1) := by decide +kernel
theorem dX11_drop_30 : decode cX11_drop 30 = .ok (.iconst 1, 1) := by decide +kernel
theorem dX11_drop_31 : decode cX11_drop 31 = .ok (.invokevirtual 79, 3) := by decide +kernel
theorem dX11_drop_34 : decode cX11_drop 34 = .ok (.ireturn, 1) := by decide +kernel
theorem dX11_drop_35 : decode cX11_drop 35 = .ok (.aload_n 0, 1) := by decide +kernel
theorem dX11_drop_36 : decode cX11_drop 36 = .ok (.getfield 7, 3) := by decide +kernel
theorem dX11_drop_39 : decode cX11_drop 39 = .ok (.iload_n 1, 1) := by decide +kernel
theorem dX11_drop_40 : decode cX11_drop 40 = .ok (.iconst (-1), 1) := by decide +kernel
theorem dX11_drop_41 : decode cX11_drop 41 = .ok (.iastore, 1) := by decide +kernel
theorem dX11_drop_42 : decode cX11_drop 42 = .ok (.aload_n 0, 1) := by decide +kernel
theorem dX11_drop_43 : decode cX11_drop 43 = .ok (.getfield 13, 3) := by decide +kernel
theorem dX11_drop_46 : decode cX11_drop 46 = .ok (.iload_n 1, 1) := by decide +kernel
theorem dX11_drop_47 : decode cX11_drop 47 = .ok (.iaload, 1) := by decide +kernel
theorem dX11_drop_48 : decode cX11_drop 48 = .ok (.ireturn, 1) := by decide +kernel
theorem dX11_told_0 : decode cX11_told 0 = .ok (.aload_n 0, 1) := by decide +kernel
theorem dX11_told_1 : decode cX11_told 1 = .ok (.getfield 22, 3) := by decide +kernel
theorem dX11_told_4 : decode cX11_told 4 = .ok (.bipush 6, 2) := by decide +kernel
theorem dX11_told_6 : decode cX11_told 6 = .ok (.iload_n 1, 1) := by decide +kernel
theorem dX11_told_7 : decode cX11_told 7 = .ok (.imul, 1) := by decide +kernel
theorem dX11_told_8 : decode cX11_told 8 = .ok (.iload_n 2, 1) := by decide +kernel
theorem dX11_told_9 : decode cX11_told 9 = .ok (.iadd, 1) := by decide +kernel
theorem dX11_told_10 : decode cX11_told 10 = .ok (.iaload, 1) := by decide +kernel
theorem dX11_told_11 : decode cX11_told 11 = .ok (.ireturn, 1) := by decide +kernel
set_option maxRecDepth 20000 in
theorem ggX11_feed_X11_in : GoodIn wsX11_feed wsX11_in := goodIn_r _ [11] (by decide +kernel) (by decide +kernel)
set_option maxRecDepth 20000 in
theorem gX11_feed_X11_in : GoodIn wsX11_feed (va_wsS RX11 68 yX11_in wsX11_in) := goodIn_app (goodIn_of _ (by decide +kernel)) ggX11_feed_X11_in
theorem dX11_feed_0 : decode cX11_feed 0 = .ok (.aload_n 0, 1) := by decide +kernel
theorem dX11_feed_1 : decode cX11_feed 1 = .ok (.iconst 0, 1) := by decide +kernel
theorem dX11_feed_2 : decode cX11_feed 2 = .ok (.putfield 58, 3) := by decide +kernel
theorem dX11_feed_5 : decode cX11_feed 5 = .ok (.iload_n 3, 1) := by decide +kernel
theorem dX11_feed_6 : decode cX11_feed 6 = .ok (.i2l, 1) := by decide +kernel
theorem dX11_feed_7 : decode cX11_feed 7 = .ok (.lconst 1, 1) := by decide +kernel
theorem dX11_feed_8 : decode cX11_feed 8 = .ok (.ldc2_w 83, 3) := by decide +kernel
theorem dX11_feed_11 : decode cX11_feed 11 = .ok (.invokestatic 68, 3) := by decide +kernel
theorem dX11_feed_14 : decode cX11_feed 14 = .ok (.ifCond .ne 6, 3) := by decide +kernel
theorem dX11_feed_17 : decode cX11_feed 17 = .ok (.ldc 78, 2) := by decide +kernel
theorem dX11_feed_19 : decode cX11_feed 19 = .ok (.ireturn, 1) := by decide +kernel
theorem dX11_feed_20 : decode cX11_feed 20 = .ok (.aload_n 0, 1) := by decide +kernel
theorem dX11_feed_21 : decode cX11_feed 21 = .ok (.getfield 85, 3) := by decide +kernel
theorem dX11_feed_24 : decode cX11_feed 24 = .ok (.iload_n 3, 1) := by decide +kernel
theorem dX11_feed_25 : decode cX11_feed 25 = .ok (.iadd, 1) := by decide +kernel
theorem dX11_feed_26 : decode cX11_feed 26 = .ok (.sipush 400, 3) := by decide +kernel
theorem dX11_feed_29 : decode cX11_feed 29 = .ok (.if_icmp .le 6, 3) := by decide +kernel
theorem dX11_feed_32 : decode cX11_feed 32 = .ok (.ldc 88, 2) := by decide +kernel
theorem dX11_feed_34 : decode cX11_feed 34 = .ok (.ireturn, 1) := by decide +kernel
theorem dX11_feed_35 : decode cX11_feed 35 = .ok (.iload_n 3, 1) := by decide +kernel
theorem dX11_feed_36 : decode cX11_feed 36 = .ok (.iconst 1, 1) := by decide +kernel
theorem dX11_feed_37 : decode cX11_feed 37 = .ok (.isub, 1) := by decide +kernel
theorem dX11_feed_38 : decode cX11_feed 38 = .ok (.istore 4, 2) := by decide +kernel
theorem dX11_feed_40 : decode cX11_feed 40 = .ok (.iload 4, 2) := by decide +kernel
theorem dX11_feed_42 : decode cX11_feed 42 = .ok (.ifCond .lt 40, 3) := by decide +kernel
theorem dX11_feed_45 : decode cX11_feed 45 = .ok (.aload_n 0, 1) := by decide +kernel
theorem dX11_feed_46 : decode cX11_feed 46 = .ok (.getfield 43, 3) := by decide +kernel
theorem dX11_feed_49 : decode cX11_feed 49 = .ok (.aload_n 0, 1) := by decide +kernel
theorem dX11_feed_50 : decode cX11_feed 50 = .ok (.getfield 85, 3) := by decide +kernel
theorem dX11_feed_53 : decode cX11_feed 53 = .ok (.lload_n 1, 1) := by decide +kernel
theorem dX11_feed_54 : decode cX11_feed 54 = .ok (.bipush 8, 2) := by decide +kernel
theorem dX11_feed_56 : decode cX11_feed 56 = .ok (.iload 4, 2) := by decide +kernel
theorem dX11_feed_58 : decode cX11_feed 58 = .ok (.imul, 1) := by decide +kernel
theorem dX11_feed_59 : decode cX11_feed 59 = .ok (.lshr, 1) := by decide +kernel
theorem dX11_feed_60 : decode cX11_feed 60 = .ok (.ldc2_w 89, 3) := by decide +kernel
theorem dX11_feed_63 : decode cX11_feed 63 = .ok (.land, 1) := by decide +kernel
theorem dX11_feed_64 : decode cX11_feed 64 = .ok (.l2i, 1) := by decide +kernel
theorem dX11_feed_65 : decode cX11_feed 65 = .ok (.iastore, 1) := by decide +kernel
theorem dX11_feed_66 : decode cX11_feed 66 = .ok (.aload_n 0, 1) := by decide +kernel
theorem dX11_feed_67 : decode cX11_feed 67 = .ok (.dup, 1) := by decide +kernel
theorem dX11_feed_68 : decode cX11_feed 68 = .ok (.getfield 85, 3) := by decide +kernel
theorem dX11_feed_71 : decode cX11_feed 71 = .ok (.iconst 1, 1) := by decide +kernel
theorem dX11_feed_72 : decode cX11_feed 72 = .ok (.iadd, 1) := by decide +kernel
theorem dX11_feed_73 : decode cX11_feed 73 = .ok (.putfield 85, 3) := by decide +kernel
theorem dX11_feed_76 : decode cX11_feed 76 = .ok (.iinc 4 (-1), 3) := by decide +kernel
theorem dX11_feed_79 : decode cX11_feed 79 = .ok (.goto (-39), 3) := by decide +kernel
theorem dX11_feed_82 : decode cX11_feed 82 = .ok (.aload_n 0, 1) := by decide +kernel
theorem dX11_feed_83 : decode cX11_feed 83 = .ok (.getfield 85, 3) := by decide +kernel
theorem dX11_feed_86 : decode cX11_feed 86 = .ok (.ireturn, 1) := by decide +kernel
theorem dX11_byteAt_0 : decode cX11_byteAt 0 = .ok (.iload_n 1, 1) := by decide +kernel
theorem dX11_byteAt_1 : decode cX11_byteAt 1 = .ok (.aload_n 0, 1) := by decide +kernel
theorem dX11_byteAt_2 : decode cX11_byteAt 2 = .ok (.getfield 91, 3) := by decide +kernel
theorem dX11_byteAt_5 : decode cX11_byteAt 5 = .ok (.if_icmp .ge 12, 3) := by decide +kernel
theorem dX11_byteAt_8 : decode cX11_byteAt 8 = .ok (.aload_n 0, 1) := by decide +kernel
theorem dX11_byteAt_9 : decode cX11_byteAt 9 = .ok (.getfield 43, 3) := by decide +kernel
theorem dX11_byteAt_12 : decode cX11_byteAt 12 = .ok (.iload_n 1, 1) := by decide +kernel
theorem dX11_byteAt_13 : decode cX11_byteAt 13 = .ok (.iaload, 1) := by decide +kernel
theorem dX11_byteAt_14 : decode cX11_byteAt 14 = .ok (.goto 5, 3) := by decide +kernel
theorem dX11_byteAt_17 : decode cX11_byteAt 17 = .ok (.ldc 94, 2) := by decide +kernel
theorem dX11_byteAt_19 : decode cX11_byteAt 19 = .ok (.ireturn, 1) := by decide +kernel
theorem dX11_isLetter_0 : decode cX11_isLetter 0 = .ok (.iload_n 0, 1) := by decide +kernel
theorem dX11_isLetter_1 : decode cX11_isLetter 1 = .ok (.bipush 97, 2) := by decide +kernel
theorem dX11_isLetter_3 : decode cX11_isLetter 3 = .ok (.if_icmp .lt 13, 3) := by decide +kernel
theorem dX11_isLetter_6 : decode cX11_isLetter 6 = .ok (.iload_n 0, 1) := by decide +kernel
theorem dX11_isLetter_7 : decode cX11_isLetter 7 = .ok (.bipush 122, 2) := by decide +kernel
theorem dX11_isLetter_9 : decode cX11_isLetter 9 = .ok (.if_icmp .gt 7, 3) := by decide +kernel
theorem dX11_isLetter_12 : decode cX11_isLetter 12 = .ok (.iconst 1, 1) := by decide +kernel
theorem dX11_isLetter_13 : decode cX11_isLetter 13 = .ok (.goto 4, 3) := by decide +kernel
theorem dX11_isLetter_16 : decode cX11_isLetter 16 = .ok (.iconst 0, 1) := by decide +kernel
theorem dX11_isLetter_17 : decode cX11_isLetter 17 = .ok (.ireturn, 1) := by decide +kernel
theorem dX11_isFigure_0 : decode cX11_isFigure 0 = .ok (.iload_n 0, 1) := by decide +kernel
theorem dX11_isFigure_1 : decode cX11_isFigure 1 = .ok (.bipush 48, 2) := by decide +kernel
theorem dX11_isFigure_3 : decode cX11_isFigure 3 = .ok (.if_icmp .lt 13, 3) := by decide +kernel
theorem dX11_isFigure_6 : decode cX11_isFigure 6 = .ok (.iload_n 0, 1) := by decide +kernel
theorem dX11_isFigure_7 : decode cX11_isFigure 7 = .ok (.bipush 57, 2) := by decide +kernel
theorem dX11_isFigure_9 : decode cX11_isFigure 9 = .ok (.if_icmp .gt 7, 3) := by decide +kernel
theorem dX11_isFigure_12 : decode cX11_isFigure 12 = .ok (.iconst 1, 1) := by decide +kernel
theorem dX11_isFigure_13 : decode cX11_isFigure 13 = .ok (.goto 4, 3) := by decide +kernel
theorem dX11_isFigure_16 : decode cX11_isFigure 16 = .ok (.iconst 0, 1) := by decide +kernel
theorem dX11_isFigure_17 : decode cX11_isFigure 17 = .ok (.ireturn, 1) := by decide +kernel
set_option maxRecDepth 20000 in
theorem ggX11_next_X11_byteAt : GoodIn wsX11_next wsX11_byteAt := goodIn_r _ [10, 11, 12, 3, 19, 20, 21, 22, 23, 24, 25, 26, 27, 28, 29, 30, 31, 32, 33, 34, 35, 36, 37, 38, 39, 40, 41, 42, 43, 44, 45, 46, 47, 48, 49, 50, 51, 52, 53] (by decide +kernel) (by decide +kernel)
set_option maxRecDepth 20000 in
theorem gX11_next_X11_byteAt : GoodIn wsX11_next (wsV RX11 98 RX11 yX11_byteAt wsX11_byteAt) := goodIn_app (goodIn_of _ (by decide +kernel)) ggX11_next_X11_byteAt
set_option maxRecDepth 20000 in
theorem ggX11_next_X11_isLetter : GoodIn wsX11_next wsX11_isLetter := goodIn_r _ [15] (by decide +kernel) (by decide +kernel)
set_option maxRecDepth 20000 in
theorem gX11_next_X11_isLetter : GoodIn wsX11_next (va_wsS RX11 107 yX11_isLetter wsX11_isLetter) := goodIn_app (goodIn_of _ (by decide +kernel)) ggX11_next_X11_isLetter
set_option maxRecDepth 20000 in
theorem ggX11_next_X11_isFigure : GoodIn wsX11_next wsX11_isFigure := goodIn_r _ [18] (by decide +kernel) (by decide +kernel)
set_option maxRecDepth 20000 in
theorem gX11_next_X11_isFigure : GoodIn wsX11_next (va_wsS RX11 110 yX11_isFigure wsX11_isFigure) := goodIn_app (goodIn_of _ (by decide +kernel)) ggX11_next_X11_isFigure
theorem dX11_next_0 : decode cX11_next 0 = .ok (.aload_n 0, 1) := by decide +kernel
theorem dX11_next_1 : decode cX11_next 1 = .ok (.aload_n 0, 1) := by decide +kernel
theorem dX11_next_2 : decode cX11_next 2 = .ok (.getfield 95, 3) := by decide +kernel
theorem dX11_next_5 : decode cX11_next 5 = .ok (.invokevirtual 98, 3) := by decide +kernel
theorem dX11_next_8 : decode cX11_next 8 = .ok (.bipush 32, 2) := by decide +kernel
theorem dX11_next_10 : decode cX11_next 10 = .ok (.if_icmp .eq 16, 3) := by decide +kernel
theorem dX11_next_13 : decode cX11_next 13 = .ok (.aload_n 0, 1) := by decide +kernel
theorem dX11_next_14 : decode cX11_next 14 = .ok (.aload_n 0, 1) := by decide +kernel
theorem dX11_next_15 : decode cX11_next 15 = .ok (.getfield 95, 3) := by decide +kernel
theorem dX11_next_18 : decode cX11_next 18 = .ok (.invokevirtual 98, 3) := by decide +kernel
theorem dX11_next_21 : decode cX11_next 21 = .ok (.bipush 10, 2) := by decide +kernel
theorem dX11_next_23 : decode cX11_next 23 = .ok (.if_icmp .ne 16, 3) := by decide +kernel
theorem dX11_next_26 : decode cX11_next 26 = .ok (.aload_n 0, 1) := by decide +kernel
theorem dX11_next_27 : decode cX11_next 27 = .ok (.dup, 1) := by decide +kernel
theorem dX11_next_28 : decode cX11_next 28 = .ok (.getfield 95, 3) := by decide +kernel
theorem dX11_next_31 : decode cX11_next 31 = .ok (.iconst 1, 1) := by decide +kernel
theorem dX11_next_32 : decode cX11_next 32 = .ok (.iadd, 1) := by decide +kernel
theorem dX11_next_33 : decode cX11_next 33 = .ok (.putfield 95, 3) := by decide +kernel
theorem dX11_next_36 : decode cX11_next 36 = .ok (.goto (-36), 3) := by decide +kernel
theorem dX11_next_39 : decode cX11_next 39 = .ok (.aload_n 0, 1) := by decide +kernel
theorem dX11_next_40 : decode cX11_next 40 = .ok (.aload_n 0, 1) := by decide +kernel
theorem dX11_next_41 : decode cX11_next 41 = .ok (.getfield 95, 3) := by decide +kernel
theorem dX11_next_44 : decode cX11_next 44 = .ok (.putfield 101, 3) := by decide +kernel
theorem dX11_next_47 : decode cX11_next 47 = .ok (.aload_n 0, 1) := by decide +kernel
theorem dX11_next_48 : decode cX11_next 48 = .ok (.aload_n 0, 1) := by decide +kernel
theorem dX11_next_49 : decode cX11_next 49 = .ok (.getfield 95, 3) := by decide +kernel
theorem dX11_next_52 : decode cX11_next 52 = .ok (.invokevirtual 98, 3) := by decide +kernel
theorem dX11_next_55 : decode cX11_next 55 = .ok (.istore_n 1, 1) := by decide +kernel
theorem dX11_next_56 : decode cX11_next 56 = .ok (.iload_n 1, 1) := by decide +kernel
theorem dX11_next_57 : decode cX11_next 57 = .ok (.ldc 94, 2) := by decide +kernel
theorem dX11_next_59 : decode cX11_next 59 = .ok (.if_icmp .ne 11, 3) := by decide +kernel
theorem dX11_next_62 : decode cX11_next 62 = .ok (.aload_n 0, 1) := by decide +kernel
theorem dX11_next_63 : decode cX11_next 63 = .ok (.iconst 1, 1) := by decide +kernel
theorem dX11_next_64 : decode cX11_next 64 = .ok (.putfield 104, 3) := by decide +kernel
theorem dX11_next_67 : decode cX11_next 67 = .ok (.goto 129, 3) := by decide +kernel
theorem dX11_next_70 : decode cX11_next 70 = .ok (.iload_n 1, 1) := by decide +kernel
theorem dX11_next_71 : decode cX11_next 71 = .ok (.invokestatic 107, 3) := by decide +kernel
theorem dX11_next_74 : decode cX11_next 74 = .ok (.ifCond .eq 38, 3) := by decide +kernel
theorem dX11_next_77 : decode cX11_next 77 = .ok (.aload_n 0, 1) := by decide +kernel
theorem dX11_next_78 : decode cX11_next 78 = .ok (.aload_n 0, 1) := by decide +kernel
theorem dX11_next_79 : decode cX11_next 79 = .ok (.getfield 95, 3) := by decide +kernel
theorem dX11_next_82 : decode cX11_next 82 = .ok (.invokevirtual 98, 3) := by decide +kernel
theorem dX11_next_85 : decode cX11_next 85 = .ok (.invokestatic 107, 3) := by decide +kernel
theorem dX11_next_88 : decode cX11_next 88 = .ok (.ifCond .eq 16, 3) := by decide +kernel
theorem dX11_next_91 : decode cX11_next 91 = .ok (.aload_n 0, 1) := by decide +kernel
theorem dX11_next_92 : decode cX11_next 92 = .ok (.dup, 1) := by decide +kernel
theorem dX11_next_93 : decode cX11_next 93 = .ok (.getfield 95, 3) := by decide +kernel
theorem dX11_next_96 : decode cX11_next 96 = .ok (.iconst 1, 1) := by decide +kernel
theorem dX11_next_97 : decode cX11_next 97 = .ok (.iadd, 1) := by decide +kernel
theorem dX11_next_98 : decode cX11_next 98 = .ok (.putfield 95, 3) := by decide +kernel
theorem dX11_next_101 : decode cX11_next 101 = .ok (.goto (-24), 3) := by decide +kernel
theorem dX11_next_104 : decode cX11_next 104 = .ok (.aload_n 0, 1) := by decide +kernel
theorem dX11_next_105 : decode cX11_next 105 = .ok (.iconst 2, 1) := by decide +kernel
theorem dX11_next_106 : decode cX11_next 106 = .ok (.putfield 104, 3) := by decide +kernel
theorem dX11_next_109 : decode cX11_next 109 = .ok (.goto 87, 3) := by decide +kernel
theorem dX11_next_112 : decode cX11_next 112 = .ok (.iload_n 1, 1) := by decide +kernel
theorem dX11_next_113 : decode cX11_next 113 = .ok (.invokestatic 110, 3) := by decide +kernel
theorem dX11_next_116 : decode cX11_next 116 = .ok (.ifCond .eq 55, 3) := by decide +kernel
theorem dX11_next_119 : decode cX11_next 119 = .ok (.aload_n 0, 1) := by decide +kernel
theorem dX11_next_120 : decode cX11_next 120 = .ok (.aload_n 0, 1) := by decide +kernel
theorem dX11_next_121 : decode cX11_next 121 = .ok (.getfield 95, 3) := by decide +kernel
theorem dX11_next_124 : decode cX11_next 124 = .ok (.invokevirtual 98, 3) := by decide +kernel
theorem dX11_next_127 : decode cX11_next 127 = .ok (.invokestatic 110, 3) := by decide +kernel
theorem dX11_next_130 : decode cX11_next 130 = .ok (.ifCond .eq 16, 3) := by decide +kernel
theorem dX11_next_133 : decode cX11_next 133 = .ok (.aload_n 0, 1) := by decide +kernel
theorem dX11_next_134 : decode cX11_next 134 = .ok (.dup, 1) := by decide +kernel
theorem dX11_next_135 : decode cX11_next 135 = .ok (.getfield 95, 3) := by decide +kernel
theorem dX11_next_138 : decode cX11_next 138 = .ok (.iconst 1, 1) := by decide +kernel
theorem dX11_next_139 : decode cX11_next 139 = .ok (.iadd, 1) := by decide +kernel
theorem dX11_next_140 : decode cX11_next 140 = .ok (.putfield 95, 3) := by decide +kernel
theorem dX11_next_143 : decode cX11_next 143 = .ok (.goto (-24), 3) := by decide +kernel
theorem dX11_next_146 : decode cX11_next 146 = .ok (.aload_n 0, 1) := by decide +kernel
theorem dX11_next_147 : decode cX11_next 147 = .ok (.aload_n 0, 1) := by decide +kernel
theorem dX11_next_148 : decode cX11_next 148 = .ok (.getfield 95, 3) := by decide +kernel
theorem dX11_next_151 : decode cX11_next 151 = .ok (.aload_n 0, 1) := by decide +kernel
theorem dX11_next_152 : decode cX11_next 152 = .ok (.getfield 101, 3) := by decide +kernel
theorem dX11_next_155 : decode cX11_next 155 = .ok (.isub, 1) := by decide +kernel
theorem dX11_next_156 : decode cX11_next 156 = .ok (.iconst 3, 1) := by decide +kernel
theorem dX11_next_157 : decode cX11_next 157 = .ok (.if_icmp .le 7, 3) := by decide +kernel
theorem dX11_next_160 : decode cX11_next 160 = .ok (.iconst 0, 1) := by decide +kernel
theorem dX11_next_161 : decode cX11_next 161 = .ok (.goto 4, 3) := by decide +kernel
theorem dX11_next_164 : decode cX11_next 164 = .ok (.iconst 3, 1) := by decide +kernel
theorem dX11_next_165 : decode cX11_next 165 = .ok (.putfield 104, 3) := by decide +kernel
theorem dX11_next_168 : decode cX11_next 168 = .ok (.goto 28, 3) := by decide +kernel
theorem dX11_next_171 : decode cX11_next 171 = .ok (.aload_n 0, 1) := by decide +kernel
theorem dX11_next_172 : decode cX11_next 172 = .ok (.dup, 1) := by decide +kernel
theorem dX11_next_173 : decode cX11_next 173 = .ok (.getfield 95, 3) := by decide +kernel
theorem dX11_next_176 : decode cX11_next 176 = .ok (.iconst 1, 1) := by decide +kernel
theorem dX11_next_177 : decode cX11_next 177 = .ok (.iadd, 1) := by decide +kernel
theorem dX11_next_178 : decode cX11_next 178 = .ok (.putfield 95, 3) := by decide +kernel
theorem dX11_next_181 : decode cX11_next 181 = .ok (.aload_n 0, 1) := by decide +kernel
theorem dX11_next_182 : decode cX11_next 182 = .ok (.iload_n 1, 1) := by decide +kernel
theorem dX11_next_183 : decode cX11_next 183 = .ok (.bipush 59, 2) := by decide +kernel
theorem dX11_next_185 : decode cX11_next 185 = .ok (.if_icmp .ne 7, 3) := by decide +kernel
theorem dX11_next_188 : decode cX11_next 188 = .ok (.iconst 4, 1) := by decide +kernel
theorem dX11_next_189 : decode cX11_next 189 = .ok (.goto 4, 3) := by decide +kernel
theorem dX11_next_192 : decode cX11_next 192 = .ok (.iconst 0, 1) := by decide +kernel
theorem dX11_next_193 : decode cX11_next 193 = .ok (.putfield 104, 3) := by decide +kernel
theorem dX11_next_196 : decode cX11_next 196 = .ok (.aload_n 0, 1) := by decide +kernel
theorem dX11_next_197 : decode cX11_next 197 = .ok (.aload_n 0, 1) := by decide +kernel
theorem dX11_next_198 : decode cX11_next 198 = .ok (.getfield 95, 3) := by decide +kernel
theorem dX11_next_201 : decode cX11_next 201 = .ok (.putfield 113, 3) := by decide +kernel
theorem dX11_next_204 : decode cX11_next 204 = .ok (.return_, 1) := by decide +kernel
theorem dX11_bad_0 : decode cX11_bad 0 = .ok (.aload_n 0, 1) := by decide +kernel
theorem dX11_bad_1 : decode cX11_bad 1 = .ok (.getfield 116, 3) := by decide +kernel
theorem dX11_bad_4 : decode cX11_bad 4 = .ok (.ifCond .ne 16, 3) := by decide +kernel
theorem dX11_bad_7 : decode cX11_bad 7 = .ok (.aload_n 0, 1) := by decide +kernel
theorem dX11_bad_8 : decode cX11_bad 8 = .ok (.iload_n 1, 1) := by decide +kernel
theorem dX11_bad_9 : decode cX11_bad 9 = .ok (.putfield 116, 3) := by decide +kernel
theorem dX11_bad_12 : decode cX11_bad 12 = .ok (.aload_n 0, 1) := by decide +kernel
theorem dX11_bad_13 : decode cX11_bad 13 = .ok (.aload_n 0, 1) := by decide +kernel
theorem dX11_bad_14 : decode cX11_bad 14 = .ok (.getfield 101, 3) := by decide +kernel
theorem dX11_bad_17 : decode cX11_bad 17 = .ok (.putfield 119, 3) := by decide +kernel
theorem dX11_bad_20 : decode cX11_bad 20 = .ok (.return_, 1) := by decide +kernel
set_option maxRecDepth 20000 in
theorem ggX11_must_X11_bad : GoodIn wsX11_must wsX11_bad := goodIn_r _ [6, 1, 7, 8, 29, 30, 31, 32, 33, 34, 35, 36, 37, 38, 39, 40, 41, 42, 43, 44, 45, 46, 47, 48, 49, 50, 51, 52, 53, 54, 55, 56, 57, 58, 59, 60, 61, 62, 63] (by decide +kernel) (by decide +kernel)
set_option maxRecDepth 20000 in
theorem gX11_must_X11_bad : GoodIn wsX11_must (wsV RX11 122 RX11 yX11_bad wsX11_bad) := goodIn_app (goodIn_of _ (by decide +kernel)) ggX11_must_X11_bad
set_option maxRecDepth 20000 in
theorem ggX11_must_X11_next : GoodIn wsX11_must wsX11_next := goodIn_r _ [12, 13, 7, 14, 15, 16, 17, 18, 19, 5, 20, 21, 22, 23, 24, 25, 26, 27, 28, 29, 30, 31, 32, 33, 34, 35, 36, 37, 38, 39, 40, 41, 42, 43, 44, 45, 46, 47, 48, 49, 50, 51, 52, 53, 54, 55, 56, 57, 58, 59, 60, 61, 62, 63] (by decide +kernel) (by decide +kernel)
set_option maxRecDepth 20000 in
theorem gX11_must_X11_next : GoodIn wsX11_must (wsV RX11 126 RX11 yX11_next wsX11_next) := goodIn_app (goodIn_of _ (by decide +kernel)) ggX11_must_X11_next
theorem dX11_must_0 : decode cX11_must 0 = .ok (.iload_n 1, 1) := by decide +kernel
theorem dX11_must_1 : decode cX11_must 1 = .ok (.ifCond .ne 8, 3) := by decide +kernel
theorem dX11_must_4 : decode cX11_must 4 = .ok (.aload_n 0, 1) := by decide +kernel
theorem dX11_must_5 : decode cX11_must 5 = .ok (.iconst 1, 1) := by decide +kernel
theorem dX11_must_6 : decode cX11_must 6 = .ok (.invokevirtual 122, 3) := by decide +kernel
theorem dX11_must_9 : decode cX11_must 9 = .ok (.aload_n 0, 1) := by decide +kernel
theorem dX11_must_10 : decode cX11_must 10 = .ok (.getfield 116, 3) := by decide +kernel
theorem dX11_must_13 : decode cX11_must 13 = .ok (.ifCond .ne 7, 3) := by decide +kernel
theorem dX11_must_16 : decode cX11_must 16 = .ok (.aload_n 0, 1) := by decide +kernel
theorem dX11_must_17 : decode cX11_must 17 = .ok (.invokevirtual 126, 3) := by decide +kernel
theorem dX11_must_20 : decode cX11_must 20 = .ok (.return_, 1) := by decide +kernel
theorem dX11_word_0 : decode cX11_word 0 = .ok (.lconst 0, 1) := by decide +kernel
theorem dX11_word_1 : decode cX11_word 1 = .ok (.lstore_n 1, 1) := by decide +kernel
theorem dX11_word_2 : decode cX11_word 2 = .ok (.aload_n 0, 1) := by decide +kernel
theorem dX11_word_3 : decode cX11_word 3 = .ok (.getfield 101, 3) := by decide +kernel
theorem dX11_word_6 : decode cX11_word 6 = .ok (.istore_n 3, 1) := by decide +kernel
theorem dX11_word_7 : decode cX11_word 7 = .ok (.iload_n 3, 1) := by decide +kernel
theorem dX11_word_8 : decode cX11_word 8 = .ok (.aload_n 0, 1) := by decide +kernel
theorem dX11_word_9 : decode cX11_word 9 = .ok (.getfield 113, 3) := by decide +kernel
theorem dX11_word_12 : decode cX11_word 12 = .ok (.if_icmp .ge 44, 3) := by decide +kernel
theorem dX11_word_15 : decode cX11_word 15 = .ok (.aload_n 0, 1) := by decide +kernel
theorem dX11_word_16 : decode cX11_word 16 = .ok (.getfield 104, 3) := by decide +kernel
theorem dX11_word_19 : decode cX11_word 19 = .ok (.iconst 2, 1) := by decide +kernel
theorem dX11_word_20 : decode cX11_word 20 = .ok (.if_icmp .ne 36, 3) := by decide +kernel
theorem dX11_word_23 : decode cX11_word 23 = .ok (.aload_n 0, 1) := by decide +kernel
theorem dX11_word_24 : decode cX11_word 24 = .ok (.getfield 113, 3) := by decide +kernel
theorem dX11_word_27 : decode cX11_word 27 = .ok (.aload_n 0, 1) := by decide +kernel
theorem dX11_word_28 : decode cX11_word 28 = .ok (.getfield 101, 3) := by decide +kernel
theorem dX11_word_31 : decode cX11_word 31 = .ok (.isub, 1) := by decide +kernel
theorem dX11_word_32 : decode cX11_word 32 = .ok (.bipush 9, 2) := by decide +kernel
theorem dX11_word_34 : decode cX11_word 34 = .ok (.if_icmp .ge 22, 3) := by decide +kernel
theorem dX11_word_37 : decode cX11_word 37 = .ok (.lload_n 1, 1) := by decide +kernel
theorem dX11_word_38 : decode cX11_word 38 = .ok (.bipush 8, 2) := by decide +kernel
theorem dX11_word_40 : decode cX11_word 40 = .ok (.lshl, 1) := by decide +kernel
theorem dX11_word_41 : decode cX11_word 41 = .ok (.aload_n 0, 1) := by decide +kernel
theorem dX11_word_42 : decode cX11_word 42 = .ok (.getfield 43, 3) := by decide +kernel
theorem dX11_word_45 : decode cX11_word 45 = .ok (.iload_n 3, 1) := by decide +kernel
theorem dX11_word_46 : decode cX11_word 46 = .ok (.iaload, 1) := by decide +kernel
theorem dX11_word_47 : decode cX11_word 47 = .ok (.i2l, 1) := by decide +kernel
theorem dX11_word_48 : decode cX11_word 48 = .ok (.lor, 1) := by decide +kernel
theorem dX11_word_49 : decode cX11_word 49 = .ok (.lstore_n 1, 1) := by decide +kernel
theorem dX11_word_50 : decode cX11_word 50 = .ok (.iinc 3 1, 3) := by decide +kernel
theorem dX11_word_53 : decode cX11_word 53 = .ok (.goto (-46), 3) := by decide +kernel
theorem dX11_word_56 : decode cX11_word 56 = .ok (.aload_n 0, 1) := by decide +kernel
theorem dX11_word_57 : decode cX11_word 57 = .ok (.getfield 116, 3) := by decide +kernel
theorem dX11_word_60 : decode cX11_word 60 = .ok (.ifCond .ne 7, 3) := by decide +kernel
theorem dX11_word_63 : decode cX11_word 63 = .ok (.lload_n 1, 1) := by decide +kernel
theorem dX11_word_64 : decode cX11_word 64 = .ok (.goto 4, 3) := by decide +kernel
theorem dX11_word_67 : decode cX11_word 67 = .ok (.lconst 0, 1) := by decide +kernel
theorem dX11_word_68 : decode cX11_word 68 = .ok (.lreturn, 1) := by decide +kernel
set_option maxRecDepth 20000 in
theorem ggX11_numberIn_X11_in : GoodIn wsX11_numberIn wsX11_in := goodIn_r _ [9] (by decide +kernel) (by decide +kernel)
set_option maxRecDepth 20000 in
theorem gX11_numberIn_X11_in : GoodIn wsX11_numberIn (va_wsS RX11 68 yX11_in wsX11_in) := goodIn_app (goodIn_of _ (by decide +kernel)) ggX11_numberIn_X11_in
set_option maxRecDepth 20000 in
theorem ggX11_numberIn_X11_bad : GoodIn wsX11_numberIn wsX11_bad := goodIn_r _ [13, 1, 2, 14, 36, 37, 38, 39, 40, 41, 42, 43, 44, 45, 46, 47, 48, 49, 50, 51, 52, 53, 54, 55, 56, 57, 58, 59, 60, 61, 62, 63, 64, 65, 66, 67, 68, 69, 70] (by decide +kernel) (by decide +kernel)
set_option maxRecDepth 20000 in
theorem gX11_numberIn_X11_bad : GoodIn wsX11_numberIn (wsV RX11 122 RX11 yX11_bad wsX11_bad) := goodIn_app (goodIn_of _ (by decide +kernel)) ggX11_numberIn_X11_bad
set_option maxRecDepth 20000 in
theorem ggX11_numberIn_X11_must : GoodIn wsX11_numberIn wsX11_must := goodIn_r _ [18, 1, 10, 11, 12, 8, 13, 2, 14, 19, 20, 21, 22, 23, 24, 4, 3, 25, 26, 27, 28, 29, 5, 30, 31, 32, 33, 34, 35, 36, 37, 38, 39, 40, 41, 42, 43, 44, 45, 46, 47, 48, 49, 50, 51, 52, 53, 54, 55, 56, 57, 58, 59, 60, 61, 62, 63, 64, 65, 66, 67, 68, 69, 70] (by decide +kernel) (by decide +kernel)
set_option maxRecDepth 20000 in
theorem gX11_numberIn_X11_must : GoodIn wsX11_numberIn (wsV RX11 129 RX11 yX11_must wsX11_must) := goodIn_app (goodIn_of _ (by decide +kernel)) ggX11_numberIn_X11_must
theorem dX11_numberIn_0 : decode cX11_numberIn 0 = .ok (.aload_n 0, 1) := by decide +kernel
theorem dX11_numberIn_1 : decode cX11_numberIn 1 = .ok (.getfield 116, 3) := by decide +kernel
theorem dX11_numberIn_4 : decode cX11_numberIn 4 = .ok (.ifCond .le 5, 3) := by decide +kernel
theorem dX11_numberIn_7 : decode cX11_numberIn 7 = .ok (.iconst 0, 1) := by decide +kernel
theorem dX11_numberIn_8 : decode cX11_numberIn 8 = .ok (.ireturn, 1) := by decide +kernel
theorem dX11_numberIn_9 : decode cX11_numberIn 9 = .ok (.iconst 0, 1) := by decide +kernel
theorem dX11_numberIn_10 : decode cX11_numberIn 10 = .ok (.istore_n 3, 1) := by decide +kernel
theorem dX11_numberIn_11 : decode cX11_numberIn 11 = .ok (.aload_n 0, 1) := by decide +kernel
theorem dX11_numberIn_12 : decode cX11_numberIn 12 = .ok (.getfield 101, 3) := by decide +kernel
theorem dX11_numberIn_15 : decode cX11_numberIn 15 = .ok (.istore 4, 2) := by decide +kernel
theorem dX11_numberIn_17 : decode cX11_numberIn 17 = .ok (.iload 4, 2) := by decide +kernel
theorem dX11_numberIn_19 : decode cX11_numberIn 19 = .ok (.aload_n 0, 1) := by decide +kernel
theorem dX11_numberIn_20 : decode cX11_numberIn 20 = .ok (.getfield 113, 3) := by decide +kernel
theorem dX11_numberIn_23 : decode cX11_numberIn 23 = .ok (.if_icmp .ge 33, 3) := by decide +kernel
theorem dX11_numberIn_26 : decode cX11_numberIn 26 = .ok (.aload_n 0, 1) := by decide +kernel
theorem dX11_numberIn_27 : decode cX11_numberIn 27 = .ok (.getfield 104, 3) := by decide +kernel
theorem dX11_numberIn_30 : decode cX11_numberIn 30 = .ok (.iconst 3, 1) := by decide +kernel
theorem dX11_numberIn_31 : decode cX11_numberIn 31 = .ok (.if_icmp .ne 25, 3) := by decide +kernel
theorem dX11_numberIn_34 : decode cX11_numberIn 34 = .ok (.bipush 10, 2) := by decide +kernel
theorem dX11_numberIn_36 : decode cX11_numberIn 36 = .ok (.iload_n 3, 1) := by decide +kernel
theorem dX11_numberIn_37 : decode cX11_numberIn 37 = .ok (.imul, 1) := by decide +kernel
theorem dX11_numberIn_38 : decode cX11_numberIn 38 = .ok (.aload_n 0, 1) := by decide +kernel
theorem dX11_numberIn_39 : decode cX11_numberIn 39 = .ok (.getfield 43, 3) := by decide +kernel
theorem dX11_numberIn_42 : decode cX11_numberIn 42 = .ok (.iload 4, 2) := by decide +kernel
theorem dX11_numberIn_44 : decode cX11_numberIn 44 = .ok (.iaload, 1) := by decide +kernel
theorem dX11_numberIn_45 : decode cX11_numberIn 45 = .ok (.iadd, 1) := by decide +kernel
theorem dX11_numberIn_46 : decode cX11_numberIn 46 = .ok (.bipush 48, 2) := by decide +kernel
theorem dX11_numberIn_48 : decode cX11_numberIn 48 = .ok (.isub, 1) := by decide +kernel
theorem dX11_numberIn_49 : decode cX11_numberIn 49 = .ok (.istore_n 3, 1) := by decide +kernel
theorem dX11_numberIn_50 : decode cX11_numberIn 50 = .ok (.iinc 4 1, 3) := by decide +kernel
theorem dX11_numberIn_53 : decode cX11_numberIn 53 = .ok (.goto (-36), 3) := by decide +kernel
theorem dX11_numberIn_56 : decode cX11_numberIn 56 = .ok (.aload_n 0, 1) := by decide +kernel
theorem dX11_numberIn_57 : decode cX11_numberIn 57 = .ok (.getfield 104, 3) := by decide +kernel
theorem dX11_numberIn_60 : decode cX11_numberIn 60 = .ok (.iconst 3, 1) := by decide +kernel
theorem dX11_numberIn_61 : decode cX11_numberIn 61 = .ok (.if_icmp .ne 20, 3) := by decide +kernel
theorem dX11_numberIn_64 : decode cX11_numberIn 64 = .ok (.iload_n 3, 1) := by decide +kernel
theorem dX11_numberIn_65 : decode cX11_numberIn 65 = .ok (.i2l, 1) := by decide +kernel
theorem dX11_numberIn_66 : decode cX11_numberIn 66 = .ok (.iload_n 1, 1) := by decide +kernel
theorem dX11_numberIn_67 : decode cX11_numberIn 67 = .ok (.i2l, 1) := by decide +kernel
theorem dX11_numberIn_68 : decode cX11_numberIn 68 = .ok (.iload_n 2, 1) := by decide +kernel
theorem dX11_numberIn_69 : decode cX11_numberIn 69 = .ok (.i2l, 1) := by decide +kernel
theorem dX11_numberIn_70 : decode cX11_numberIn 70 = .ok (.invokestatic 68, 3) := by decide +kernel
theorem dX11_numberIn_73 : decode cX11_numberIn 73 = .ok (.ifCond .ne 8, 3) := by decide +kernel
theorem dX11_numberIn_76 : decode cX11_numberIn 76 = .ok (.aload_n 0, 1) := by decide +kernel
theorem dX11_numberIn_77 : decode cX11_numberIn 77 = .ok (.iconst 2, 1) := by decide +kernel
theorem dX11_numberIn_78 : decode cX11_numberIn 78 = .ok (.invokevirtual 122, 3) := by decide +kernel
theorem dX11_numberIn_81 : decode cX11_numberIn 81 = .ok (.aload_n 0, 1) := by decide +kernel
theorem dX11_numberIn_82 : decode cX11_numberIn 82 = .ok (.aload_n 0, 1) := by decide +kernel
theorem dX11_numberIn_83 : decode cX11_numberIn 83 = .ok (.getfield 104, 3) := by decide +kernel
theorem dX11_numberIn_86 : decode cX11_numberIn 86 = .ok (.iconst 3, 1) := by decide +kernel
theorem dX11_numberIn_87 : decode cX11_numberIn 87 = .ok (.if_icmp .ne 7, 3) := by decide +kernel
theorem dX11_numberIn_90 : decode cX11_numberIn 90 = .ok (.iconst 1, 1) := by decide +kernel
theorem dX11_numberIn_91 : decode cX11_numberIn 91 = .ok (.goto 4, 3) := by decide +kernel
theorem dX11_numberIn_94 : decode cX11_numberIn 94 = .ok (.iconst 0, 1) := by decide +kernel
theorem dX11_numberIn_95 : decode cX11_numberIn 95 = .ok (.invokevirtual 129, 3) := by decide +kernel
theorem dX11_numberIn_98 : decode cX11_numberIn 98 = .ok (.iload_n 3, 1) := by decide +kernel
theorem dX11_numberIn_99 : decode cX11_numberIn 99 = .ok (.ireturn, 1) := by decide +kernel
set_option maxRecDepth 20000 in
theorem ggX11_wayOfWord_X11_word : GoodIn wsX11_wayOfWord wsX11_word := goodIn_r _ [12, 13, 14, 15, 16, 17, 18, 19, 20, 21, 22, 23, 24, 25, 26, 27, 28, 29, 30, 31, 32, 33, 34, 35, 36, 37, 38, 39, 40, 41, 42, 43, 44, 45, 46, 47, 48, 49, 50, 51, 52] (by decide +kernel) (by decide +kernel)
set_option maxRecDepth 20000 in
theorem gX11_wayOfWord_X11_word : GoodIn wsX11_wayOfWord (wsV RX11 133 RX11 yX11_word wsX11_word) := goodIn_app (goodIn_of _ (by decide +kernel)) ggX11_wayOfWord_X11_word
theorem dX11_wayOfWord_0 : decode cX11_wayOfWord 0 = .ok (.aload_n 0, 1) := by decide +kernel
theorem dX11_wayOfWord_1 : decode cX11_wayOfWord 1 = .ok (.invokevirtual 133, 3) := by decide +kernel
theorem dX11_wayOfWord_4 : decode cX11_wayOfWord 4 = .ok (.lstore_n 1, 1) := by decide +kernel
theorem dX11_wayOfWord_5 : decode cX11_wayOfWord 5 = .ok (.lload_n 1, 1) := by decide +kernel
theorem dX11_wayOfWord_6 : decode cX11_wayOfWord 6 = .ok (.ldc2_w 137, 3) := by decide +kernel
theorem dX11_wayOfWord_9 : decode cX11_wayOfWord 9 = .ok (.lcmp, 1) := by decide +kernel
theorem dX11_wayOfWord_10 : decode cX11_wayOfWord 10 = .ok (.ifCond .ne 7, 3) := by decide +kernel
theorem dX11_wayOfWord_13 : decode cX11_wayOfWord 13 = .ok (.iconst 1, 1) := by decide +kernel
theorem dX11_wayOfWord_14 : decode cX11_wayOfWord 14 = .ok (.goto 66, 3) := by decide +kernel
theorem dX11_wayOfWord_17 : decode cX11_wayOfWord 17 = .ok (.lload_n 1, 1) := by decide +kernel
theorem dX11_wayOfWord_18 : decode cX11_wayOfWord 18 = .ok (.ldc2_w 139, 3) := by decide +kernel
theorem dX11_wayOfWord_21 : decode cX11_wayOfWord 21 = .ok (.lcmp, 1) := by decide +kernel
theorem dX11_wayOfWord_22 : decode cX11_wayOfWord 22 = .ok (.ifCond .ne 7, 3) := by decide +kernel
theorem dX11_wayOfWord_25 : decode cX11_wayOfWord 25 = .ok (.iconst 2, 1) := by decide +kernel
theorem dX11_wayOfWord_26 : decode cX11_wayOfWord 26 = .ok (.goto 54, 3) := by decide +kernel
theorem dX11_wayOfWord_29 : decode cX11_wayOfWord 29 = .ok (.lload_n 1, 1) := by decide +kernel
theorem dX11_wayOfWord_30 : decode cX11_wayOfWord 30 = .ok (.ldc2_w 141, 3) := by decide +kernel
theorem dX11_wayOfWord_33 : decode cX11_wayOfWord 33 = .ok (.lcmp, 1) := by decide +kernel
theorem dX11_wayOfWord_34 : decode cX11_wayOfWord 34 = .ok (.ifCond .ne 7, 3) := by decide +kernel
theorem dX11_wayOfWord_37 : decode cX11_wayOfWord 37 = .ok (.iconst 3, 1) := by decide +kernel
theorem dX11_wayOfWord_38 : decode cX11_wayOfWord 38 = .ok (.goto 42, 3) := by decide +kernel
theorem dX11_wayOfWord_41 : decode cX11_wayOfWord 41 = .ok (.lload_n 1, 1) := by decide +kernel
theorem dX11_wayOfWord_42 : decode cX11_wayOfWord 42 = .ok (.ldc2_w 143, 3) := by decide +kernel
theorem dX11_wayOfWord_45 : decode cX11_wayOfWord 45 = .ok (.lcmp, 1) := by decide +kernel
theorem dX11_wayOfWord_46 : decode cX11_wayOfWord 46 = .ok (.ifCond .ne 7, 3) := by decide +kernel
theorem dX11_wayOfWord_49 : decode cX11_wayOfWord 49 = .ok (.iconst 4, 1) := by decide +kernel
theorem dX11_wayOfWord_50 : decode cX11_wayOfWord 50 = .ok (.goto 30, 3) := by decide +kernel
theorem dX11_wayOfWord_53 : decode cX11_wayOfWord 53 = .ok (.lload_n 1, 1) := by decide +kernel
theorem dX11_wayOfWord_54 : decode cX11_wayOfWord 54 = .ok (.ldc2_w 145, 3) := by decide +kernel
theorem dX11_wayOfWord_57 : decode cX11_wayOfWord 57 = .ok (.lcmp, 1) := by decide +kernel
theorem dX11_wayOfWord_58 : decode cX11_wayOfWord 58 = .ok (.ifCond .ne 7, 3) := by decide +kernel
theorem dX11_wayOfWord_61 : decode cX11_wayOfWord 61 = .ok (.iconst 5, 1) := by decide +kernel
theorem dX11_wayOfWord_62 : decode cX11_wayOfWord 62 = .ok (.goto 18, 3) := by decide +kernel
theorem dX11_wayOfWord_65 : decode cX11_wayOfWord 65 = .ok (.lload_n 1, 1) := by decide +kernel
theorem dX11_wayOfWord_66 : decode cX11_wayOfWord 66 = .ok (.ldc2_w 147, 3) := by decide +kernel
theorem dX11_wayOfWord_69 : decode cX11_wayOfWord 69 = .ok (.lcmp, 1) := by decide +kernel
theorem dX11_wayOfWord_70 : decode cX11_wayOfWord 70 = .ok (.ifCond .ne 8, 3) := by decide +kernel
theorem dX11_wayOfWord_73 : decode cX11_wayOfWord 73 = .ok (.bipush 6, 2) := by decide +kernel
theorem dX11_wayOfWord_75 : decode cX11_wayOfWord 75 = .ok (.goto 5, 3) := by decide +kernel
theorem dX11_wayOfWord_78 : decode cX11_wayOfWord 78 = .ok (.ldc 94, 2) := by decide +kernel
theorem dX11_wayOfWord_80 : decode cX11_wayOfWord 80 = .ok (.ireturn, 1) := by decide +kernel
set_option maxRecDepth 20000 in
theorem ggX11_mustEnd_X11_must : GoodIn wsX11_mustEnd wsX11_must := goodIn_r _ [7, 1, 8, 9, 10, 6, 11, 12, 13, 14, 15, 16, 17, 18, 19, 2, 20, 21, 22, 23, 24, 25, 26, 27, 28, 29, 30, 31, 32, 33, 34, 35, 36, 37, 38, 39, 40, 41, 42, 43, 44, 45, 46, 47, 48, 49, 50, 51, 52, 53, 54, 55, 56, 57, 58, 59, 60, 61, 62, 63, 64, 65, 66, 67] (by decide +kernel) (by decide +kernel)
set_option maxRecDepth 20000 in
theorem gX11_mustEnd_X11_must : GoodIn wsX11_mustEnd (wsV RX11 129 RX11 yX11_must wsX11_must) := goodIn_app (goodIn_of _ (by decide +kernel)) ggX11_mustEnd_X11_must
theorem dX11_mustEnd_0 : decode cX11_mustEnd 0 = .ok (.aload_n 0, 1) := by decide +kernel
theorem dX11_mustEnd_1 : decode cX11_mustEnd 1 = .ok (.getfield 116, 3) := by decide +kernel
theorem dX11_mustEnd_4 : decode cX11_mustEnd 4 = .ok (.ifCond .ne 20, 3) := by decide +kernel
theorem dX11_mustEnd_7 : decode cX11_mustEnd 7 = .ok (.aload_n 0, 1) := by decide +kernel
theorem dX11_mustEnd_8 : decode cX11_mustEnd 8 = .ok (.aload_n 0, 1) := by decide +kernel
theorem dX11_mustEnd_9 : decode cX11_mustEnd 9 = .ok (.getfield 104, 3) := by decide +kernel
theorem dX11_mustEnd_12 : decode cX11_mustEnd 12 = .ok (.iconst 4, 1) := by decide +kernel
theorem dX11_mustEnd_13 : decode cX11_mustEnd 13 = .ok (.if_icmp .ne 7, 3) := by decide +kernel
theorem dX11_mustEnd_16 : decode cX11_mustEnd 16 = .ok (.iconst 1, 1) := by decide +kernel
theorem dX11_mustEnd_17 : decode cX11_mustEnd 17 = .ok (.goto 4, 3) := by decide +kernel
theorem dX11_mustEnd_20 : decode cX11_mustEnd 20 = .ok (.iconst 0, 1) := by decide +kernel
theorem dX11_mustEnd_21 : decode cX11_mustEnd 21 = .ok (.invokevirtual 129, 3) := by decide +kernel
theorem dX11_mustEnd_24 : decode cX11_mustEnd 24 = .ok (.return_, 1) := by decide +kernel
set_option maxRecDepth 20000 in
theorem ggX11_readKind_X11_word : GoodIn wsX11_readKind wsX11_word := goodIn_r _ [11, 12, 13, 14, 15, 3, 62, 63, 64, 65, 66, 67, 68, 69, 70, 71, 72, 73, 74, 75, 76, 77, 78, 79, 80, 81, 82, 83, 84, 85, 86, 87, 88, 89, 90, 91, 92, 93, 94, 95, 96] (by decide +kernel) (by decide +kernel)
set_option maxRecDepth 20000 in
theorem gX11_readKind_X11_word : GoodIn wsX11_readKind (wsV RX11 133 RX11 yX11_word wsX11_word) := goodIn_app (goodIn_of _ (by decide +kernel)) ggX11_readKind_X11_word
set_option maxRecDepth 20000 in
theorem ggX11_readKind_X11_bad : GoodIn wsX11_readKind wsX11_bad := goodIn_r _ [19, 3, 12, 20, 62, 63, 64, 65, 66, 67, 68, 69, 70, 71, 72, 73, 74, 75, 76, 77, 78, 79, 80, 81, 82, 83, 84, 85, 86, 87, 88, 89, 90, 91, 92, 93, 94, 95, 96] (by decide +kernel) (by decide +kernel)
set_option maxRecDepth 20000 in
theorem gX11_readKind_X11_bad : GoodIn wsX11_readKind (wsV RX11 122 RX11 yX11_bad wsX11_bad) := goodIn_app (goodIn_of _ (by decide +kernel)) ggX11_readKind_X11_bad
set_option maxRecDepth 20000 in
theorem ggX11_readKind_X11_must : GoodIn wsX11_readKind wsX11_must := goodIn_r _ [24, 3, 16, 17, 18, 10, 19, 12, 20, 25, 26, 27, 28, 29, 4, 14, 13, 30, 31, 32, 33, 34, 15, 35, 36, 37, 38, 39, 40, 62, 63, 64, 65, 66, 67, 68, 69, 70, 71, 72, 73, 74, 75, 76, 77, 78, 79, 80, 81, 82, 83, 84, 85, 86, 87, 88, 89, 90, 91, 92, 93, 94, 95, 96] (by decide +kernel) (by decide +kernel)
set_option maxRecDepth 20000 in
theorem gX11_readKind_X11_must : GoodIn wsX11_readKind (wsV RX11 129 RX11 yX11_must wsX11_must) := goodIn_app (goodIn_of _ (by decide +kernel)) ggX11_readKind_X11_must
set_option maxRecDepth 20000 in
theorem ggX11_readKind_X11_wayOfWord : GoodIn wsX11_readKind wsX11_wayOfWord := goodIn_r _ [44, 45, 46, 47, 48, 49, 50, 4, 7, 8, 9, 10, 11, 12, 13, 14, 15, 3, 62, 63, 64, 65, 66, 67, 68, 69, 70, 71, 72, 73, 74, 75, 76, 77, 78, 79, 80, 81, 82, 83, 84, 85, 86, 87, 88, 89, 90, 91, 92, 93, 94, 95, 96] (by decide +kernel) (by decide +kernel)
set_option maxRecDepth 20000 in
theorem gX11_readKind_X11_wayOfWord : GoodIn wsX11_readKind (wsV RX11 154 RX11 yX11_wayOfWord wsX11_wayOfWord) := goodIn_app (goodIn_of _ (by decide +kernel)) ggX11_readKind_X11_wayOfWord
set_option maxRecDepth 20000 in
theorem ggX11_readKind_X11_numberIn : GoodIn wsX11_readKind wsX11_numberIn := goodIn_r _ [54, 3, 12, 13, 14, 15, 55, 56, 10, 57, 16, 17, 18, 19, 20, 21, 22, 23, 24, 25, 26, 27, 28, 29, 4, 30, 31, 32, 33, 34, 35, 36, 37, 38, 39, 40, 62, 63, 64, 65, 66, 67, 68, 69, 70, 71, 72, 73, 74, 75, 76, 77, 78, 79, 80, 81, 82, 83, 84, 85, 86, 87, 88, 89, 90, 91, 92, 93, 94, 95, 96] (by decide +kernel) (by decide +kernel)
set_option maxRecDepth 20000 in
theorem gX11_readKind_X11_numberIn : GoodIn wsX11_readKind (wsV RX11 158 RX11 yX11_numberIn wsX11_numberIn) := goodIn_app (goodIn_of _ (by decide +kernel)) ggX11_readKind_X11_numberIn
set_option maxRecDepth 20000 in
theorem ggX11_readKind_X11_mustEnd : GoodIn wsX11_readKind wsX11_mustEnd := goodIn_r _ [61, 3, 14, 21, 22, 23, 10, 24, 16, 17, 18, 19, 12, 20, 25, 26, 27, 28, 29, 4, 13, 30, 31, 32, 33, 34, 15, 35, 36, 37, 38, 39, 40, 62, 63, 64, 65, 66, 67, 68, 69, 70, 71, 72, 73, 74, 75, 76, 77, 78, 79, 80, 81, 82, 83, 84, 85, 86, 87, 88, 89, 90, 91, 92, 93, 94, 95, 96] (by decide +kernel) (by decide +kernel)
set_option maxRecDepth 20000 in
theorem gX11_readKind_X11_mustEnd : GoodIn wsX11_readKind (wsV RX11 162 RX11 yX11_mustEnd wsX11_mustEnd) := goodIn_app (goodIn_of _ (by decide +kernel)) ggX11_readKind_X11_mustEnd
theorem dX11_readKind_0 : decode cX11_readKind 0 = .ok (.aload_n 0, 1) := by decide +kernel
theorem dX11_readKind_1 : decode cX11_readKind 1 = .ok (.invokevirtual 133, 3) := by decide +kernel
theorem dX11_readKind_4 : decode cX11_readKind 4 = .ok (.ldc2_w 149, 3) := by decide +kernel
theorem dX11_readKind_7 : decode cX11_readKind 7 = .ok (.lcmp, 1) := by decide +kernel
theorem dX11_readKind_8 : decode cX11_readKind 8 = .ok (.ifCond .ne 16, 3) := by decide +kernel
theorem dX11_readKind_11 : decode cX11_readKind 11 = .ok (.aload_n 0, 1) := by decide +kernel
theorem dX11_readKind_12 : decode cX11_readKind 12 = .ok (.getfield 151, 3) := by decide +kernel
theorem dX11_readKind_15 : decode cX11_readKind 15 = .ok (.iconst 5, 1) := by decide +kernel
theorem dX11_readKind_16 : decode cX11_readKind 16 = .ok (.if_icmp .ne 8, 3) := by decide +kernel
theorem dX11_readKind_19 : decode cX11_readKind 19 = .ok (.aload_n 0, 1) := by decide +kernel
theorem dX11_readKind_20 : decode cX11_readKind 20 = .ok (.iconst 3, 1) := by decide +kernel
theorem dX11_readKind_21 : decode cX11_readKind 21 = .ok (.invokevirtual 122, 3) := by decide +kernel
theorem dX11_readKind_24 : decode cX11_readKind 24 = .ok (.aload_n 0, 1) := by decide +kernel
theorem dX11_readKind_25 : decode cX11_readKind 25 = .ok (.aload_n 0, 1) := by decide +kernel
theorem dX11_readKind_26 : decode cX11_readKind 26 = .ok (.invokevirtual 133, 3) := by decide +kernel
theorem dX11_readKind_29 : decode cX11_readKind 29 = .ok (.ldc2_w 149, 3) := by decide +kernel
theorem dX11_readKind_32 : decode cX11_readKind 32 = .ok (.lcmp, 1) := by decide +kernel
theorem dX11_readKind_33 : decode cX11_readKind 33 = .ok (.ifCond .ne 7, 3) := by decide +kernel
theorem dX11_readKind_36 : decode cX11_readKind 36 = .ok (.iconst 1, 1) := by decide +kernel
theorem dX11_readKind_37 : decode cX11_readKind 37 = .ok (.goto 4, 3) := by decide +kernel
theorem dX11_readKind_40 : decode cX11_readKind 40 = .ok (.iconst 0, 1) := by decide +kernel
theorem dX11_readKind_41 : decode cX11_readKind 41 = .ok (.invokevirtual 129, 3) := by decide +kernel
theorem dX11_readKind_44 : decode cX11_readKind 44 = .ok (.aload_n 0, 1) := by decide +kernel
theorem dX11_readKind_45 : decode cX11_readKind 45 = .ok (.invokevirtual 154, 3) := by decide +kernel
theorem dX11_readKind_48 : decode cX11_readKind 48 = .ok (.istore_n 1, 1) := by decide +kernel
theorem dX11_readKind_49 : decode cX11_readKind 49 = .ok (.aload_n 0, 1) := by decide +kernel
theorem dX11_readKind_50 : decode cX11_readKind 50 = .ok (.getfield 116, 3) := by decide +kernel
theorem dX11_readKind_53 : decode cX11_readKind 53 = .ok (.ifCond .ne 18, 3) := by decide +kernel
theorem dX11_readKind_56 : decode cX11_readKind 56 = .ok (.aload_n 0, 1) := by decide +kernel
theorem dX11_readKind_57 : decode cX11_readKind 57 = .ok (.iload_n 1, 1) := by decide +kernel
theorem dX11_readKind_58 : decode cX11_readKind 58 = .ok (.ldc 94, 2) := by decide +kernel
theorem dX11_readKind_60 : decode cX11_readKind 60 = .ok (.if_icmp .eq 7, 3) := by decide +kernel
theorem dX11_readKind_63 : decode cX11_readKind 63 = .ok (.iconst 1, 1) := by decide +kernel
theorem dX11_readKind_64 : decode cX11_readKind 64 = .ok (.goto 4, 3) := by decide +kernel
theorem dX11_readKind_67 : decode cX11_readKind 67 = .ok (.iconst 0, 1) := by decide +kernel
theorem dX11_readKind_68 : decode cX11_readKind 68 = .ok (.invokevirtual 129, 3) := by decide +kernel
theorem dX11_readKind_71 : decode cX11_readKind 71 = .ok (.iload_n 1, 1) := by decide +kernel
theorem dX11_readKind_72 : decode cX11_readKind 72 = .ok (.iconst 2, 1) := by decide +kernel
theorem dX11_readKind_73 : decode cX11_readKind 73 = .ok (.if_icmp .ne 12, 3) := by decide +kernel
theorem dX11_readKind_76 : decode cX11_readKind 76 = .ok (.aload_n 0, 1) := by decide +kernel
theorem dX11_readKind_77 : decode cX11_readKind 77 = .ok (.iconst 1, 1) := by decide +kernel
theorem dX11_readKind_78 : decode cX11_readKind 78 = .ok (.iconst 3, 1) := by decide +kernel
theorem dX11_readKind_79 : decode cX11_readKind 79 = .ok (.invokevirtual 158, 3) := by decide +kernel
theorem dX11_readKind_82 : decode cX11_readKind 82 = .ok (.goto 19, 3) := by decide +kernel
theorem dX11_readKind_85 : decode cX11_readKind 85 = .ok (.iload_n 1, 1) := by decide +kernel
theorem dX11_readKind_86 : decode cX11_readKind 86 = .ok (.iconst 3, 1) := by decide +kernel
theorem dX11_readKind_87 : decode cX11_readKind 87 = .ok (.if_icmp .ne 13, 3) := by decide +kernel
theorem dX11_readKind_90 : decode cX11_readKind 90 = .ok (.aload_n 0, 1) := by decide +kernel
theorem dX11_readKind_91 : decode cX11_readKind 91 = .ok (.iconst 0, 1) := by decide +kernel
theorem dX11_readKind_92 : decode cX11_readKind 92 = .ok (.bipush 9, 2) := by decide +kernel
theorem dX11_readKind_94 : decode cX11_readKind 94 = .ok (.invokevirtual 158, 3) := by decide +kernel
theorem dX11_readKind_97 : decode cX11_readKind 97 = .ok (.goto 4, 3) := by decide +kernel
theorem dX11_readKind_100 : decode cX11_readKind 100 = .ok (.iconst 0, 1) := by decide +kernel
theorem dX11_readKind_101 : decode cX11_readKind 101 = .ok (.istore_n 2, 1) := by decide +kernel
theorem dX11_readKind_102 : decode cX11_readKind 102 = .ok (.aload_n 0, 1) := by decide +kernel
theorem dX11_readKind_103 : decode cX11_readKind 103 = .ok (.iconst 1, 1) := by decide +kernel
theorem dX11_readKind_104 : decode cX11_readKind 104 = .ok (.bipush 40, 2) := by decide +kernel
theorem dX11_readKind_106 : decode cX11_readKind 106 = .ok (.invokevirtual 158, 3) := by decide +kernel
theorem dX11_readKind_109 : decode cX11_readKind 109 = .ok (.istore_n 3, 1) := by decide +kernel
theorem dX11_readKind_110 : decode cX11_readKind 110 = .ok (.aload_n 0, 1) := by decide +kernel
theorem dX11_readKind_111 : decode cX11_readKind 111 = .ok (.iconst 0, 1) := by decide +kernel
theorem dX11_readKind_112 : decode cX11_readKind 112 = .ok (.bipush 9, 2) := by decide +kernel
theorem dX11_readKind_114 : decode cX11_readKind 114 = .ok (.invokevirtual 158, 3) := by decide +kernel
theorem dX11_readKind_117 : decode cX11_readKind 117 = .ok (.istore 4, 2) := by decide +kernel
theorem dX11_readKind_119 : decode cX11_readKind 119 = .ok (.aload_n 0, 1) := by decide +kernel
theorem dX11_readKind_120 : decode cX11_readKind 120 = .ok (.iconst 0, 1) := by decide +kernel
theorem dX11_readKind_121 : decode cX11_readKind 121 = .ok (.bipush 20, 2) := by decide +kernel
theorem dX11_readKind_123 : decode cX11_readKind 123 = .ok (.invokevirtual 158, 3) := by decide +kernel
theorem dX11_readKind_126 : decode cX11_readKind 126 = .ok (.istore 5, 2) := by decide +kernel
theorem dX11_readKind_128 : decode cX11_readKind 128 = .ok (.aload_n 0, 1) := by decide +kernel
theorem dX11_readKind_129 : decode cX11_readKind 129 = .ok (.iconst 0, 1) := by decide +kernel
theorem dX11_readKind_130 : decode cX11_readKind 130 = .ok (.bipush 99, 2) := by decide +kernel
theorem dX11_readKind_132 : decode cX11_readKind 132 = .ok (.invokevirtual 158, 3) := by decide +kernel
theorem dX11_readKind_135 : decode cX11_readKind 135 = .ok (.istore 6, 2) := by decide +kernel
theorem dX11_readKind_137 : decode cX11_readKind 137 = .ok (.aload_n 0, 1) := by decide +kernel
theorem dX11_readKind_138 : decode cX11_readKind 138 = .ok (.iconst 0, 1) := by decide +kernel
theorem dX11_readKind_139 : decode cX11_readKind 139 = .ok (.sipush 999, 3) := by decide +kernel
theorem dX11_readKind_142 : decode cX11_readKind 142 = .ok (.invokevirtual 158, 3) := by decide +kernel
theorem dX11_readKind_145 : decode cX11_readKind 145 = .ok (.istore 7, 2) := by decide +kernel
theorem dX11_readKind_147 : decode cX11_readKind 147 = .ok (.aload_n 0, 1) := by decide +kernel
theorem dX11_readKind_148 : decode cX11_readKind 148 = .ok (.invokevirtual 162, 3) := by decide +kernel
theorem dX11_readKind_151 : decode cX11_readKind 151 = .ok (.aload_n 0, 1) := by decide +kernel
theorem dX11_readKind_152 : decode cX11_readKind 152 = .ok (.getfield 116, 3) := by decide +kernel
theorem dX11_readKind_155 : decode cX11_readKind 155 = .ok (.ifCond .ne 96, 3) := by decide +kernel
theorem dX11_readKind_158 : decode cX11_readKind 158 = .ok (.bipush 6, 2) := by decide +kernel
theorem dX11_readKind_160 : decode cX11_readKind 160 = .ok (.aload_n 0, 1) := by decide +kernel
theorem dX11_readKind_161 : decode cX11_readKind 161 = .ok (.getfield 151, 3) := by decide +kernel
theorem dX11_readKind_164 : decode cX11_readKind 164 = .ok (.imul, 1) := by decide +kernel
theorem dX11_readKind_165 : decode cX11_readKind 165 = .ok (.istore 8, 2) := by decide +kernel
theorem dX11_readKind_167 : decode cX11_readKind 167 = .ok (.aload_n 0, 1) := by decide +kernel
theorem dX11_readKind_168 : decode cX11_readKind 168 = .ok (.getfield 31, 3) := by decide +kernel
theorem dX11_readKind_171 : decode cX11_readKind 171 = .ok (.iload 8, 2) := by decide +kernel
theorem dX11_readKind_173 : decode cX11_readKind 173 = .ok (.iconst 0, 1) := by decide +kernel
theorem dX11_readKind_174 : decode cX11_readKind 174 = .ok (.iadd, 1) := by decide +kernel
theorem dX11_readKind_175 : decode cX11_readKind 175 = .ok (.iload_n 1, 1) := by decide +kernel
theorem dX11_readKind_176 : decode cX11_readKind 176 = .ok (.iastore, 1) := by decide +kernel
theorem dX11_readKind_177 : decode cX11_readKind 177 = .ok (.aload_n 0, 1) := by decide +kernel
theorem dX11_readKind_178 : decode cX11_readKind 178 = .ok (.getfield 31, 3) := by decide +kernel
theorem dX11_readKind_181 : decode cX11_readKind 181 = .ok (.iload 8, 2) := by decide +kernel
theorem dX11_readKind_183 : decode cX11_readKind 183 = .ok (.iconst 1, 1) := by decide +kernel
theorem dX11_readKind_184 : decode cX11_readKind 184 = .ok (.iadd, 1) := by decide +kernel
theorem dX11_readKind_185 : decode cX11_readKind 185 = .ok (.iload_n 2, 1) := by decide +kernel
theorem dX11_readKind_186 : decode cX11_readKind 186 = .ok (.iastore, 1) := by decide +kernel
theorem dX11_readKind_187 : decode cX11_readKind 187 = .ok (.aload_n 0, 1) := by decide +kernel
theorem dX11_readKind_188 : decode cX11_readKind 188 = .ok (.getfield 31, 3) := by decide +kernel
theorem dX11_readKind_191 : decode cX11_readKind 191 = .ok (.iload 8, 2) := by decide +kernel
theorem dX11_readKind_193 : decode cX11_readKind 193 = .ok (.iconst 2, 1) := by decide +kernel
theorem dX11_readKind_194 : decode cX11_readKind 194 = .ok (.iadd, 1) := by decide +kernel
theorem dX11_readKind_195 : decode cX11_readKind 195 = .ok (.iload_n 3, 1) := by decide +kernel
theorem dX11_readKind_196 : decode cX11_readKind 196 = .ok (.iastore, 1) := by decide +kernel
theorem dX11_readKind_197 : decode cX11_readKind 197 = .ok (.aload_n 0, 1) := by decide +kernel
theorem dX11_readKind_198 : decode cX11_readKind 198 = .ok (.getfield 31, 3) := by decide +kernel
theorem dX11_readKind_201 : decode cX11_readKind 201 = .ok (.iload 8, 2) := by decide +kernel
theorem dX11_readKind_203 : decode cX11_readKind 203 = .ok (.iconst 3, 1) := by decide +kernel
theorem dX11_readKind_204 : decode cX11_readKind 204 = .ok (.iadd, 1) := by decide +kernel
theorem dX11_readKind_205 : decode cX11_readKind 205 = .ok (.iload 4, 2) := by decide +kernel
theorem dX11_readKind_207 : decode cX11_readKind 207 = .ok (.iastore, 1) := by decide +kernel
theorem dX11_readKind_208 : decode cX11_readKind 208 = .ok (.aload_n 0, 1) := by decide +kernel
theorem dX11_readKind_209 : decode cX11_readKind 209 = .ok (.getfield 31, 3) := by decide +kernel
theorem dX11_readKind_212 : decode cX11_readKind 212 = .ok (.iload 8, 2) := by decide +kernel
theorem dX11_readKind_214 : decode cX11_readKind 214 = .ok (.iconst 4, 1) := by decide +kernel
theorem dX11_readKind_215 : decode cX11_readKind 215 = .ok (.iadd, 1) := by decide +kernel
theorem dX11_readKind_216 : decode cX11_readKind 216 = .ok (.iload 5, 2) := by decide +kernel
theorem dX11_readKind_218 : decode cX11_readKind 218 = .ok (.iastore, 1) := by decide +kernel
theorem dX11_readKind_219 : decode cX11_readKind 219 = .ok (.aload_n 0, 1) := by decide +kernel
theorem dX11_readKind_220 : decode cX11_readKind 220 = .ok (.getfield 31, 3) := by decide +kernel
theorem dX11_readKind_223 : decode cX11_readKind 223 = .ok (.iload 8, 2) := by decide +kernel
theorem dX11_readKind_225 : decode cX11_readKind 225 = .ok (.iconst 5, 1) := by decide +kernel
theorem dX11_readKind_226 : decode cX11_readKind 226 = .ok (.iadd, 1) := by decide +kernel
theorem dX11_readKind_227 : decode cX11_readKind 227 = .ok (.iload 6, 2) := by decide +kernel
theorem dX11_readKind_229 : decode cX11_readKind 229 = .ok (.iastore, 1) := by decide +kernel
theorem dX11_readKind_230 : decode cX11_readKind 230 = .ok (.aload_n 0, 1) := by decide +kernel
theorem dX11_readKind_231 : decode cX11_readKind 231 = .ok (.getfield 34, 3) := by decide +kernel
theorem dX11_readKind_234 : decode cX11_readKind 234 = .ok (.aload_n 0, 1) := by decide +kernel
theorem dX11_readKind_235 : decode cX11_readKind 235 = .ok (.getfield 151, 3) := by decide +kernel
theorem dX11_readKind_238 : decode cX11_readKind 238 = .ok (.iload 7, 2) := by decide +kernel
theorem dX11_readKind_240 : decode cX11_readKind 240 = .ok (.iastore, 1) := by decide +kernel
theorem dX11_readKind_241 : decode cX11_readKind 241 = .ok (.aload_n 0, 1) := by decide +kernel
theorem dX11_readKind_242 : decode cX11_readKind 242 = .ok (.dup, 1) := by decide +kernel
theorem dX11_readKind_243 : decode cX11_readKind 243 = .ok (.getfield 151, 3) := by decide +kernel
theorem dX11_readKind_246 : decode cX11_readKind 246 = .ok (.iconst 1, 1) := by decide +kernel
theorem dX11_readKind_247 : decode cX11_readKind 247 = .ok (.iadd, 1) := by decide +kernel
theorem dX11_readKind_248 : decode cX11_readKind 248 = .ok (.putfield 151, 3) := by decide +kernel
theorem dX11_readKind_251 : decode cX11_readKind 251 = .ok (.return_, 1) := by decide +kernel
set_option maxRecDepth 20000 in
theorem ggX11_land_X11_next : GoodIn wsX11_land wsX11_next := goodIn_r _ [32, 4, 33, 34, 11, 35, 36, 37, 38, 31, 39, 3, 40, 41, 42, 43, 44, 45, 46, 85, 86, 87, 88, 89, 90, 91, 92, 93, 94, 95, 96, 97, 98, 99, 100, 101, 102, 103, 104, 105, 106, 107, 108, 109, 110, 111, 112, 113, 114, 115, 116, 117, 118, 119] (by decide +kernel) (by decide +kernel)
set_option maxRecDepth 20000 in
theorem gX11_land_X11_next : GoodIn wsX11_land (wsV RX11 126 RX11 yX11_next wsX11_next) := goodIn_app (goodIn_of _ (by decide +kernel)) ggX11_land_X11_next
set_option maxRecDepth 20000 in
theorem ggX11_land_X11_word : GoodIn wsX11_land wsX11_word := goodIn_r _ [50, 33, 35, 11, 40, 5, 85, 86, 87, 88, 89, 90, 91, 92, 93, 94, 95, 96, 97, 98, 99, 100, 101, 102, 103, 104, 105, 106, 107, 108, 109, 110, 111, 112, 113, 114, 115, 116, 117, 118, 119] (by decide +kernel) (by decide +kernel)
set_option maxRecDepth 20000 in
theorem gX11_land_X11_word : GoodIn wsX11_land (wsV RX11 133 RX11 yX11_word wsX11_word) := goodIn_app (goodIn_of _ (by decide +kernel)) ggX11_land_X11_word
set_option maxRecDepth 20000 in
theorem ggX11_land_X11_must : GoodIn wsX11_land wsX11_must := goodIn_r _ [54, 5, 55, 56, 57, 31, 58, 33, 14, 28, 29, 30, 32, 4, 34, 11, 35, 36, 37, 38, 39, 3, 40, 41, 42, 43, 44, 45, 46, 85, 86, 87, 88, 89, 90, 91, 92, 93, 94, 95, 96, 97, 98, 99, 100, 101, 102, 103, 104, 105, 106, 107, 108, 109, 110, 111, 112, 113, 114, 115, 116, 117, 118, 119] (by decide +kernel) (by decide +kernel)
set_option maxRecDepth 20000 in
theorem gX11_land_X11_must : GoodIn wsX11_land (wsV RX11 129 RX11 yX11_must wsX11_must) := goodIn_app (goodIn_of _ (by decide +kernel)) ggX11_land_X11_must
set_option maxRecDepth 20000 in
theorem ggX11_land_X11_numberIn : GoodIn wsX11_land wsX11_numberIn := goodIn_r _ [62, 5, 33, 35, 11, 40, 63, 64, 31, 65, 55, 56, 57, 58, 14, 51, 52, 53, 54, 28, 29, 30, 32, 4, 34, 36, 37, 38, 39, 3, 41, 42, 43, 44, 45, 46, 85, 86, 87, 88, 89, 90, 91, 92, 93, 94, 95, 96, 97, 98, 99, 100, 101, 102, 103, 104, 105, 106, 107, 108, 109, 110, 111, 112, 113, 114, 115, 116, 117, 118, 119] (by decide +kernel) (by decide +kernel)
set_option maxRecDepth 20000 in
theorem gX11_land_X11_numberIn : GoodIn wsX11_land (wsV RX11 158 RX11 yX11_numberIn wsX11_numberIn) := goodIn_app (goodIn_of _ (by decide +kernel)) ggX11_land_X11_numberIn
set_option maxRecDepth 20000 in
theorem ggX11_land_X11_mustEnd : GoodIn wsX11_land wsX11_mustEnd := goodIn_r _ [69, 5, 11, 51, 52, 53, 31, 54, 55, 56, 57, 58, 33, 14, 28, 29, 30, 32, 4, 34, 35, 36, 37, 38, 39, 3, 40, 41, 42, 43, 44, 45, 46, 85, 86, 87, 88, 89, 90, 91, 92, 93, 94, 95, 96, 97, 98, 99, 100, 101, 102, 103, 104, 105, 106, 107, 108, 109, 110, 111, 112, 113, 114, 115, 116, 117, 118, 119] (by decide +kernel) (by decide +kernel)
set_option maxRecDepth 20000 in
theorem gX11_land_X11_mustEnd : GoodIn wsX11_land (wsV RX11 162 RX11 yX11_mustEnd wsX11_mustEnd) := goodIn_app (goodIn_of _ (by decide +kernel)) ggX11_land_X11_mustEnd
set_option maxRecDepth 20000 in
theorem ggX11_land_X11_readKind : GoodIn wsX11_land wsX11_readKind := goodIn_r _ [73, 74, 6, 5, 34, 18, 22, 47, 48, 49, 31, 50, 33, 35, 11, 40, 55, 56, 57, 58, 14, 51, 52, 53, 54, 28, 29, 30, 32, 4, 36, 37, 38, 39, 3, 41, 42, 43, 44, 45, 46, 75, 76, 77, 78, 79, 80, 81, 82, 83, 84, 59, 60, 61, 62, 63, 64, 65, 66, 67, 68, 69, 85, 86, 87, 88, 89, 90, 91, 92, 93, 94, 95, 96, 97, 98, 99, 100, 101, 102, 103, 104, 105, 106, 107, 108, 109, 110, 111, 112, 113, 114, 115, 116, 117, 118, 119] (by decide +kernel) (by decide +kernel)
set_option maxRecDepth 20000 in
theorem gX11_land_X11_readKind : GoodIn wsX11_land (wsV RX11 169 RX11 yX11_readKind wsX11_readKind) := goodIn_app (goodIn_of _ (by decide +kernel)) ggX11_land_X11_readKind
set_option maxRecDepth 20000 in
theorem ggX11_land_X11_in : GoodIn wsX11_land wsX11_in := goodIn_r _ [65] (by decide +kernel) (by decide +kernel)
set_option maxRecDepth 20000 in
theorem gX11_land_X11_in : GoodIn wsX11_land (va_wsS RX11 68 yX11_in wsX11_in) := goodIn_app (goodIn_of _ (by decide +kernel)) ggX11_land_X11_in
theorem dX11_land_0 : decode cX11_land 0 = .ok (.aload_n 0, 1) := by decide +kernel
theorem dX11_land_1 : decode cX11_land 1 = .ok (.iconst 0, 1) := by decide +kernel
theorem dX11_land_2 : decode cX11_land 2 = .ok (.putfield 58, 3) := by decide +kernel
theorem dX11_land_5 : decode cX11_land 5 = .ok (.aload_n 0, 1) := by decide +kernel
theorem dX11_land_6 : decode cX11_land 6 = .ok (.aload_n 0, 1) := by decide +kernel
theorem dX11_land_7 : decode cX11_land 7 = .ok (.getfield 85, 3) := by decide +kernel
theorem dX11_land_10 : decode cX11_land 10 = .ok (.putfield 91, 3) := by decide +kernel
theorem dX11_land_13 : decode cX11_land 13 = .ok (.aload_n 0, 1) := by decide +kernel
theorem dX11_land_14 : decode cX11_land 14 = .ok (.iconst 0, 1) := by decide +kernel
theorem dX11_land_15 : decode cX11_land 15 = .ok (.putfield 85, 3) := by decide +kernel
theorem dX11_land_18 : decode cX11_land 18 = .ok (.aload_n 0, 1) := by decide +kernel
theorem dX11_land_19 : decode cX11_land 19 = .ok (.iconst 0, 1) := by decide +kernel
theorem dX11_land_20 : decode cX11_land 20 = .ok (.putfield 95, 3) := by decide +kernel
theorem dX11_land_23 : decode cX11_land 23 = .ok (.aload_n 0, 1) := by decide +kernel
theorem dX11_land_24 : decode cX11_land 24 = .ok (.iconst 0, 1) := by decide +kernel
theorem dX11_land_25 : decode cX11_land 25 = .ok (.putfield 116, 3) := by decide +kernel
theorem dX11_land_28 : decode cX11_land 28 = .ok (.aload_n 0, 1) := by decide +kernel
theorem dX11_land_29 : decode cX11_land 29 = .ok (.iconst 0, 1) := by decide +kernel
theorem dX11_land_30 : decode cX11_land 30 = .ok (.putfield 151, 3) := by decide +kernel
theorem dX11_land_33 : decode cX11_land 33 = .ok (.aload_n 0, 1) := by decide +kernel
theorem dX11_land_34 : decode cX11_land 34 = .ok (.invokevirtual 126, 3) := by decide +kernel
theorem dX11_land_37 : decode cX11_land 37 = .ok (.aload_n 0, 1) := by decide +kernel
theorem dX11_land_38 : decode cX11_land 38 = .ok (.aload_n 0, 1) := by decide +kernel
theorem dX11_land_39 : decode cX11_land 39 = .ok (.invokevirtual 133, 3) := by decide +kernel
theorem dX11_land_42 : decode cX11_land 42 = .ok (.ldc2_w 165, 3) := by decide +kernel
theorem dX11_land_45 : decode cX11_land 45 = .ok (.lcmp, 1) := by decide +kernel
theorem dX11_land_46 : decode cX11_land 46 = .ok (.ifCond .ne 7, 3) := by decide +kernel
theorem dX11_land_49 : decode cX11_land 49 = .ok (.iconst 1, 1) := by decide +kernel
theorem dX11_land_50 : decode cX11_land 50 = .ok (.goto 4, 3) := by decide +kernel
theorem dX11_land_53 : decode cX11_land 53 = .ok (.iconst 0, 1) := by decide +kernel
theorem dX11_land_54 : decode cX11_land 54 = .ok (.invokevirtual 129, 3) := by decide +kernel
theorem dX11_land_57 : decode cX11_land 57 = .ok (.aload_n 0, 1) := by decide +kernel
theorem dX11_land_58 : decode cX11_land 58 = .ok (.getfield 25, 3) := by decide +kernel
theorem dX11_land_61 : decode cX11_land 61 = .ok (.iconst 0, 1) := by decide +kernel
theorem dX11_land_62 : decode cX11_land 62 = .ok (.aload_n 0, 1) := by decide +kernel
theorem dX11_land_63 : decode cX11_land 63 = .ok (.iconst 1, 1) := by decide +kernel
theorem dX11_land_64 : decode cX11_land 64 = .ok (.bipush 99, 2) := by decide +kernel
theorem dX11_land_66 : decode cX11_land 66 = .ok (.invokevirtual 158, 3) := by decide +kernel
theorem dX11_land_69 : decode cX11_land 69 = .ok (.iastore, 1) := by decide +kernel
theorem dX11_land_70 : decode cX11_land 70 = .ok (.aload_n 0, 1) := by decide +kernel
theorem dX11_land_71 : decode cX11_land 71 = .ok (.getfield 25, 3) := by decide +kernel
theorem dX11_land_74 : decode cX11_land 74 = .ok (.iconst 1, 1) := by decide +kernel
theorem dX11_land_75 : decode cX11_land 75 = .ok (.aload_n 0, 1) := by decide +kernel
theorem dX11_land_76 : decode cX11_land 76 = .ok (.iconst 1, 1) := by decide +kernel
theorem dX11_land_77 : decode cX11_land 77 = .ok (.bipush 20, 2) := by decide +kernel
theorem dX11_land_79 : decode cX11_land 79 = .ok (.invokevirtual 158, 3) := by decide +kernel
theorem dX11_land_82 : decode cX11_land 82 = .ok (.iastore, 1) := by decide +kernel
theorem dX11_land_83 : decode cX11_land 83 = .ok (.aload_n 0, 1) := by decide +kernel
theorem dX11_land_84 : decode cX11_land 84 = .ok (.getfield 25, 3) := by decide +kernel
theorem dX11_land_87 : decode cX11_land 87 = .ok (.iconst 2, 1) := by decide +kernel
theorem dX11_land_88 : decode cX11_land 88 = .ok (.aload_n 0, 1) := by decide +kernel
