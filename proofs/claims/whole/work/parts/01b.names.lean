theorem dX0_init_0 : decode cX0_init 0 = .ok (.aload_n 0, 1) := by decide +kernel
theorem dX0_init_1 : decode cX0_init 1 = .ok (.invokespecial 3, 3) := by decide +kernel
theorem dX0_init_4 : decode cX0_init 4 = .ok (.aload_n 0, 1) := by decide +kernel
theorem dX0_init_5 : decode cX0_init 5 = .ok (.bipush 16, 2) := by decide +kernel
theorem dX0_init_7 : decode cX0_init 7 = .ok (.newarray .int, 2) := by decide +kernel
theorem dX0_init_9 : decode cX0_init 9 = .ok (.putfield 11, 3) := by decide +kernel
theorem dX0_init_12 : decode cX0_init 12 = .ok (.aload_n 0, 1) := by decide +kernel
theorem dX0_init_13 : decode cX0_init 13 = .ok (.iconst 0, 1) := by decide +kernel
theorem dX0_init_14 : decode cX0_init 14 = .ok (.putfield 15, 3) := by decide +kernel
theorem dX0_init_17 : decode cX0_init 17 = .ok (.aload_n 0, 1) := by decide +kernel
theorem dX0_init_18 : decode cX0_init 18 = .ok (.iconst 0, 1) := by decide +kernel
theorem dX0_init_19 : decode cX0_init 19 = .ok (.putfield 21, 3) := by decide +kernel
theorem dX0_init_22 : decode cX0_init 22 = .ok (.aload_n 0, 1) := by decide +kernel
theorem dX0_init_23 : decode cX0_init 23 = .ok (.iconst 0, 1) := by decide +kernel
theorem dX0_init_24 : decode cX0_init 24 = .ok (.putfield 24, 3) := by decide +kernel
theorem dX0_init_27 : decode cX0_init 27 = .ok (.aload_n 0, 1) := by decide +kernel
theorem dX0_init_28 : decode cX0_init 28 = .ok (.iconst 0, 1) := by decide +kernel
theorem dX0_init_29 : decode cX0_init 29 = .ok (.putfield 27, 3) := by decide +kernel
theorem dX0_init_32 : decode cX0_init 32 = .ok (.aload_n 0, 1) := by decide +kernel
theorem dX0_init_33 : decode cX0_init 33 = .ok (.iconst 0, 1) := by decide +kernel
theorem dX0_init_34 : decode cX0_init 34 = .ok (.putfield 30, 3) := by decide +kernel
theorem dX0_init_37 : decode cX0_init 37 = .ok (.aload_n 0, 1) := by decide +kernel
theorem dX0_init_38 : decode cX0_init 38 = .ok (.iconst 0, 1) := by decide +kernel
theorem dX0_init_39 : decode cX0_init 39 = .ok (.putfield 33, 3) := by decide +kernel
theorem dX0_init_42 : decode cX0_init 42 = .ok (.return_, 1) := by decide +kernel
set_option maxRecDepth 20000 in
theorem ggX0_answer_X0_answerAnew : GoodIn wsX0_answer wsX0_answerAnew := goodIn_r _ [14, 15, 16, 17, 18, 19, 13, 20, 3, 21, 22, 23, 24, 25, 26, 27, 28, 29, 7, 8, 5, 9, 30, 31, 32, 33, 1, 34, 10, 11, 12, 35, 36, 37, 38, 39, 40, 41] (by decide +kernel) (by decide +kernel)
set_option maxRecDepth 20000 in
theorem gX0_answer_X0_answerAnew : GoodIn wsX0_answer (wsV RX0 41 RX0 yX0_answerAnew wsX0_answerAnew) := goodIn_app (goodIn_of _ (by decide +kernel)) ggX0_answer_X0_answerAnew
theorem dX0_answer_0 : decode cX0_answer 0 = .ok (.aload_n 0, 1) := by decide +kernel
theorem dX0_answer_1 : decode cX0_answer 1 = .ok (.iconst 0, 1) := by decide +kernel
theorem dX0_answer_2 : decode cX0_answer 2 = .ok (.putfield 15, 3) := by decide +kernel
theorem dX0_answer_5 : decode cX0_answer 5 = .ok (.aload_n 0, 1) := by decide +kernel
theorem dX0_answer_6 : decode cX0_answer 6 = .ok (.aload_n 1, 1) := by decide +kernel
theorem dX0_answer_7 : decode cX0_answer 7 = .ok (.getfield 36, 3) := by decide +kernel
theorem dX0_answer_10 : decode cX0_answer 10 = .ok (.putfield 21, 3) := by decide +kernel
theorem dX0_answer_13 : decode cX0_answer 13 = .ok (.aload_n 0, 1) := by decide +kernel
theorem dX0_answer_14 : decode cX0_answer 14 = .ok (.aload_n 1, 1) := by decide +kernel
theorem dX0_answer_15 : decode cX0_answer 15 = .ok (.getfield 39, 3) := by decide +kernel
theorem dX0_answer_18 : decode cX0_answer 18 = .ok (.putfield 24, 3) := by decide +kernel
theorem dX0_answer_21 : decode cX0_answer 21 = .ok (.aload_n 0, 1) := by decide +kernel
theorem dX0_answer_22 : decode cX0_answer 22 = .ok (.aload_n 1, 1) := by decide +kernel
theorem dX0_answer_23 : decode cX0_answer 23 = .ok (.getfield 40, 3) := by decide +kernel
theorem dX0_answer_26 : decode cX0_answer 26 = .ok (.putfield 27, 3) := by decide +kernel
theorem dX0_answer_29 : decode cX0_answer 29 = .ok (.aload_n 0, 1) := by decide +kernel
theorem dX0_answer_30 : decode cX0_answer 30 = .ok (.iload_n 2, 1) := by decide +kernel
theorem dX0_answer_31 : decode cX0_answer 31 = .ok (.putfield 30, 3) := by decide +kernel
theorem dX0_answer_34 : decode cX0_answer 34 = .ok (.aload_n 0, 1) := by decide +kernel
theorem dX0_answer_35 : decode cX0_answer 35 = .ok (.iload_n 3, 1) := by decide +kernel
theorem dX0_answer_36 : decode cX0_answer 36 = .ok (.putfield 33, 3) := by decide +kernel
theorem dX0_answer_39 : decode cX0_answer 39 = .ok (.aload_n 0, 1) := by decide +kernel
theorem dX0_answer_40 : decode cX0_answer 40 = .ok (.iload 4, 2) := by decide +kernel
theorem dX0_answer_42 : decode cX0_answer 42 = .ok (.iconst 0, 1) := by decide +kernel
theorem dX0_answer_43 : decode cX0_answer 43 = .ok (.invokevirtual 41, 3) := by decide +kernel
theorem dX0_answer_46 : decode cX0_answer 46 = .ok (.ireturn, 1) := by decide +kernel
theorem dX0_traceAt_0 : decode cX0_traceAt 0 = .ok (.iload_n 1, 1) := by decide +kernel
theorem dX0_traceAt_1 : decode cX0_traceAt 1 = .ok (.ifCond .lt 29, 3) := by decide +kernel
theorem dX0_traceAt_4 : decode cX0_traceAt 4 = .ok (.iload_n 1, 1) := by decide +kernel
theorem dX0_traceAt_5 : decode cX0_traceAt 5 = .ok (.aload_n 0, 1) := by decide +kernel
theorem dX0_traceAt_6 : decode cX0_traceAt 6 = .ok (.getfield 15, 3) := by decide +kernel
theorem dX0_traceAt_9 : decode cX0_traceAt 9 = .ok (.if_icmp .ge 21, 3) := by decide +kernel
theorem dX0_traceAt_12 : decode cX0_traceAt 12 = .ok (.iload_n 1, 1) := by decide +kernel
theorem dX0_traceAt_13 : decode cX0_traceAt 13 = .ok (.aload_n 0, 1) := by decide +kernel
theorem dX0_traceAt_14 : decode cX0_traceAt 14 = .ok (.getfield 11, 3) := by decide +kernel
theorem dX0_traceAt_17 : decode cX0_traceAt 17 = .ok (.arraylength, 1) := by decide +kernel
theorem dX0_traceAt_18 : decode cX0_traceAt 18 = .ok (.if_icmp .ge 12, 3) := by decide +kernel
theorem dX0_traceAt_21 : decode cX0_traceAt 21 = .ok (.aload_n 0, 1) := by decide +kernel
theorem dX0_traceAt_22 : decode cX0_traceAt 22 = .ok (.getfield 11, 3) := by decide +kernel
theorem dX0_traceAt_25 : decode cX0_traceAt 25 = .ok (.iload_n 1, 1) := by decide +kernel
theorem dX0_traceAt_26 : decode cX0_traceAt 26 = .ok (.iaload, 1) := by decide +kernel
theorem dX0_traceAt_27 : decode cX0_traceAt 27 = .ok (.goto 5, 3) := by decide +kernel
theorem dX0_traceAt_30 : decode cX0_traceAt 30 = .ok (.ldc 45, 2) := by decide +kernel
theorem dX0_traceAt_32 : decode cX0_traceAt 32 = .ok (.ireturn, 1) := by decide +kernel
set_option maxRecDepth 20000 in
theorem ggX0_answerAnew_X0_bodyFor : GoodIn wsX0_answerAnew wsX0_bodyFor := goodIn_r _ [7, 8, 9, 10, 11, 12, 13, 31, 32, 33, 34, 35, 36, 37] (by decide +kernel) (by decide +kernel)
set_option maxRecDepth 20000 in
theorem gX0_answerAnew_X0_bodyFor : GoodIn wsX0_answerAnew (wsV RX0 52 RX0 yX0_bodyFor wsX0_bodyFor) := goodIn_app (goodIn_of _ (by decide +kernel)) ggX0_answerAnew_X0_bodyFor
set_option maxRecDepth 20000 in
theorem ggX0_answerAnew_X0_runBody : GoodIn wsX0_answerAnew wsX0_runBody := goodIn_r _ [17, 18, 19, 20, 21, 22, 23, 24, 6, 25, 26, 27, 14, 15, 16, 28, 29, 30, 0, 1, 2, 3, 4, 5, 7, 8, 9, 10, 11, 12, 13, 31, 32, 33, 34, 35, 36, 37] (by decide +kernel) (by decide +kernel)
set_option maxRecDepth 20000 in
theorem gX0_answerAnew_X0_runBody : GoodIn wsX0_answerAnew (wsV RX0 56 RX0 yX0_runBody wsX0_runBody) := goodIn_app (goodIn_of _ (by decide +kernel)) ggX0_answerAnew_X0_runBody
theorem dX0_answerAnew_0 : decode cX0_answerAnew 0 = .ok (.aload_n 0, 1) := by decide +kernel
theorem dX0_answerAnew_1 : decode cX0_answerAnew 1 = .ok (.aload_n 0, 1) := by decide +kernel
theorem dX0_answerAnew_2 : decode cX0_answerAnew 2 = .ok (.iload_n 1, 1) := by decide +kernel
theorem dX0_answerAnew_3 : decode cX0_answerAnew 3 = .ok (.ifCond .ne 9, 3) := by decide +kernel
theorem dX0_answerAnew_6 : decode cX0_answerAnew 6 = .ok (.getstatic 46, 3) := by decide +kernel
theorem dX0_answerAnew_9 : decode cX0_answerAnew 9 = .ok (.goto 6, 3) := by decide +kernel
theorem dX0_answerAnew_12 : decode cX0_answerAnew 12 = .ok (.getstatic 49, 3) := by decide +kernel
theorem dX0_answerAnew_15 : decode cX0_answerAnew 15 = .ok (.invokevirtual 52, 3) := by decide +kernel
theorem dX0_answerAnew_18 : decode cX0_answerAnew 18 = .ok (.iload_n 2, 1) := by decide +kernel
theorem dX0_answerAnew_19 : decode cX0_answerAnew 19 = .ok (.iconst 1, 1) := by decide +kernel
theorem dX0_answerAnew_20 : decode cX0_answerAnew 20 = .ok (.iadd, 1) := by decide +kernel
theorem dX0_answerAnew_21 : decode cX0_answerAnew 21 = .ok (.invokevirtual 56, 3) := by decide +kernel
theorem dX0_answerAnew_24 : decode cX0_answerAnew 24 = .ok (.ireturn, 1) := by decide +kernel
set_option maxRecDepth 20000 in
theorem ggX0_bodyFor_X9_alsoOf : GoodIn wsX0_bodyFor wsX9_alsoOf := goodIn_r _ [5, 6] (by decide +kernel) (by decide +kernel)
set_option maxRecDepth 20000 in
theorem gX0_bodyFor_X9_alsoOf : GoodIn wsX0_bodyFor (va_wsS RX0 59 yX9_alsoOf wsX9_alsoOf) := goodIn_app (goodIn_of _ (by decide +kernel)) ggX0_bodyFor_X9_alsoOf
theorem dX0_bodyFor_0 : decode cX0_bodyFor 0 = .ok (.aload_n 0, 1) := by decide +kernel
theorem dX0_bodyFor_1 : decode cX0_bodyFor 1 = .ok (.getfield 21, 3) := by decide +kernel
theorem dX0_bodyFor_4 : decode cX0_bodyFor 4 = .ok (.istore_n 2, 1) := by decide +kernel
theorem dX0_bodyFor_5 : decode cX0_bodyFor 5 = .ok (.iconst 0, 1) := by decide +kernel
theorem dX0_bodyFor_6 : decode cX0_bodyFor 6 = .ok (.istore_n 3, 1) := by decide +kernel
theorem dX0_bodyFor_7 : decode cX0_bodyFor 7 = .ok (.iload_n 3, 1) := by decide +kernel
theorem dX0_bodyFor_8 : decode cX0_bodyFor 8 = .ok (.aload_n 1, 1) := by decide +kernel
theorem dX0_bodyFor_9 : decode cX0_bodyFor 9 = .ok (.arraylength, 1) := by decide +kernel
theorem dX0_bodyFor_10 : decode cX0_bodyFor 10 = .ok (.if_icmp .ge 34, 3) := by decide +kernel
theorem dX0_bodyFor_13 : decode cX0_bodyFor 13 = .ok (.iload_n 2, 1) := by decide +kernel
theorem dX0_bodyFor_14 : decode cX0_bodyFor 14 = .ok (.ifCond .lt 30, 3) := by decide +kernel
theorem dX0_bodyFor_17 : decode cX0_bodyFor 17 = .ok (.iload_n 2, 1) := by decide +kernel
theorem dX0_bodyFor_18 : decode cX0_bodyFor 18 = .ok (.aload_n 1, 1) := by decide +kernel
theorem dX0_bodyFor_19 : decode cX0_bodyFor 19 = .ok (.arraylength, 1) := by decide +kernel
theorem dX0_bodyFor_20 : decode cX0_bodyFor 20 = .ok (.if_icmp .ge 24, 3) := by decide +kernel
theorem dX0_bodyFor_23 : decode cX0_bodyFor 23 = .ok (.aload_n 1, 1) := by decide +kernel
theorem dX0_bodyFor_24 : decode cX0_bodyFor 24 = .ok (.iload_n 2, 1) := by decide +kernel
theorem dX0_bodyFor_25 : decode cX0_bodyFor 25 = .ok (.iaload, 1) := by decide +kernel
theorem dX0_bodyFor_26 : decode cX0_bodyFor 26 = .ok (.ifCond .eq 7, 3) := by decide +kernel
theorem dX0_bodyFor_29 : decode cX0_bodyFor 29 = .ok (.aload_n 1, 1) := by decide +kernel
theorem dX0_bodyFor_30 : decode cX0_bodyFor 30 = .ok (.iload_n 2, 1) := by decide +kernel
theorem dX0_bodyFor_31 : decode cX0_bodyFor 31 = .ok (.iaload, 1) := by decide +kernel
theorem dX0_bodyFor_32 : decode cX0_bodyFor 32 = .ok (.ireturn, 1) := by decide +kernel
theorem dX0_bodyFor_33 : decode cX0_bodyFor 33 = .ok (.iload_n 2, 1) := by decide +kernel
theorem dX0_bodyFor_34 : decode cX0_bodyFor 34 = .ok (.invokestatic 59, 3) := by decide +kernel
theorem dX0_bodyFor_37 : decode cX0_bodyFor 37 = .ok (.istore_n 2, 1) := by decide +kernel
theorem dX0_bodyFor_38 : decode cX0_bodyFor 38 = .ok (.iinc 3 1, 3) := by decide +kernel
theorem dX0_bodyFor_41 : decode cX0_bodyFor 41 = .ok (.goto (-34), 3) := by decide +kernel
theorem dX0_bodyFor_44 : decode cX0_bodyFor 44 = .ok (.iconst 0, 1) := by decide +kernel
theorem dX0_bodyFor_45 : decode cX0_bodyFor 45 = .ok (.ireturn, 1) := by decide +kernel
set_option maxRecDepth 20000 in
theorem ggX0_runBody_X0_leaveInTrace : GoodIn wsX0_runBody wsX0_leaveInTrace := goodIn_r _ [9, 10, 11, 31, 32, 33, 34, 35, 36, 37] (by decide +kernel) (by decide +kernel)
set_option maxRecDepth 20000 in
theorem gX0_runBody_X0_leaveInTrace : GoodIn wsX0_runBody (wsV RX0 63 RX0 yX0_leaveInTrace wsX0_leaveInTrace) := goodIn_app (goodIn_of _ (by decide +kernel)) ggX0_runBody_X0_leaveInTrace
set_option maxRecDepth 20000 in
theorem ggX0_runBody_X0_runBody : GoodIn wsX0_runBody wsX0_runBody := goodIn_r _ [0, 1, 2, 3, 4, 5, 6, 7, 8, 9, 10, 11, 12, 13, 14, 15, 16, 17, 18, 19, 20, 21, 22, 23, 24, 25, 26, 27, 28, 29, 30, 31, 32, 33, 34, 35, 36, 37] (by decide +kernel) (by decide +kernel)
set_option maxRecDepth 20000 in
theorem gX0_runBody_X0_runBody : GoodIn wsX0_runBody (wsV RX0 56 RX0 yX0_runBody wsX0_runBody) := goodIn_app (goodIn_of _ (by decide +kernel)) ggX0_runBody_X0_runBody
set_option maxRecDepth 20000 in
theorem ggX0_runBody_X0_answerAnew : GoodIn wsX0_runBody wsX0_answerAnew := goodIn_r _ [18, 19, 20, 21, 22, 23, 8, 24, 25, 26, 27, 28, 29, 30, 12, 13, 14, 0, 1, 2, 3, 4, 5, 6, 7, 9, 10, 11, 15, 16, 17, 31, 32, 33, 34, 35, 36, 37] (by decide +kernel) (by decide +kernel)
set_option maxRecDepth 20000 in
theorem gX0_runBody_X0_answerAnew : GoodIn wsX0_runBody (wsV RX0 41 RX0 yX0_answerAnew wsX0_answerAnew) := goodIn_app (goodIn_of _ (by decide +kernel)) ggX0_runBody_X0_answerAnew
theorem dX0_runBody_0 : decode cX0_runBody 0 = .ok (.iload_n 2, 1) := by decide +kernel
theorem dX0_runBody_1 : decode cX0_runBody 1 = .ok (.bipush 20, 2) := by decide +kernel
theorem dX0_runBody_3 : decode cX0_runBody 3 = .ok (.if_icmp .le 5, 3) := by decide +kernel
theorem dX0_runBody_6 : decode cX0_runBody 6 = .ok (.iconst 0, 1) := by decide +kernel
theorem dX0_runBody_7 : decode cX0_runBody 7 = .ok (.ireturn, 1) := by decide +kernel
theorem dX0_runBody_8 : decode cX0_runBody 8 = .ok (.aload_n 0, 1) := by decide +kernel
theorem dX0_runBody_9 : decode cX0_runBody 9 = .ok (.iload_n 1, 1) := by decide +kernel
theorem dX0_runBody_10 : decode cX0_runBody 10 = .ok (.invokevirtual 63, 3) := by decide +kernel
theorem dX0_runBody_13 : decode cX0_runBody 13 = .ok (.iload_n 1, 1) := by decide +kernel
theorem dX0_runBody_14 : decode cX0_runBody 14 = .ok (.tableswitch 186 10 23 #[70, 75, 94, 106, 117, 186, 186, 186, 186, 186, 129, 134, 152, 167], 70) := by decide +kernel
theorem dX0_runBody_84 : decode cX0_runBody 84 = .ok (.aload_n 0, 1) := by decide +kernel
theorem dX0_runBody_85 : decode cX0_runBody 85 = .ok (.getfield 27, 3) := by decide +kernel
theorem dX0_runBody_88 : decode cX0_runBody 88 = .ok (.ireturn, 1) := by decide +kernel
theorem dX0_runBody_89 : decode cX0_runBody 89 = .ok (.aload_n 0, 1) := by decide +kernel
theorem dX0_runBody_90 : decode cX0_runBody 90 = .ok (.bipush 10, 2) := by decide +kernel
theorem dX0_runBody_92 : decode cX0_runBody 92 = .ok (.iload_n 2, 1) := by decide +kernel
theorem dX0_runBody_93 : decode cX0_runBody 93 = .ok (.iconst 1, 1) := by decide +kernel
theorem dX0_runBody_94 : decode cX0_runBody 94 = .ok (.iadd, 1) := by decide +kernel
theorem dX0_runBody_95 : decode cX0_runBody 95 = .ok (.invokevirtual 56, 3) := by decide +kernel
theorem dX0_runBody_98 : decode cX0_runBody 98 = .ok (.aload_n 0, 1) := by decide +kernel
theorem dX0_runBody_99 : decode cX0_runBody 99 = .ok (.iconst 1, 1) := by decide +kernel
theorem dX0_runBody_100 : decode cX0_runBody 100 = .ok (.iload_n 2, 1) := by decide +kernel
theorem dX0_runBody_101 : decode cX0_runBody 101 = .ok (.iconst 1, 1) := by decide +kernel
theorem dX0_runBody_102 : decode cX0_runBody 102 = .ok (.iadd, 1) := by decide +kernel
theorem dX0_runBody_103 : decode cX0_runBody 103 = .ok (.invokevirtual 41, 3) := by decide +kernel
theorem dX0_runBody_106 : decode cX0_runBody 106 = .ok (.iadd, 1) := by decide +kernel
theorem dX0_runBody_107 : decode cX0_runBody 107 = .ok (.ireturn, 1) := by decide +kernel
theorem dX0_runBody_108 : decode cX0_runBody 108 = .ok (.iconst 2, 1) := by decide +kernel
theorem dX0_runBody_109 : decode cX0_runBody 109 = .ok (.aload_n 0, 1) := by decide +kernel
theorem dX0_runBody_110 : decode cX0_runBody 110 = .ok (.bipush 11, 2) := by decide +kernel
theorem dX0_runBody_112 : decode cX0_runBody 112 = .ok (.iload_n 2, 1) := by decide +kernel
theorem dX0_runBody_113 : decode cX0_runBody 113 = .ok (.iconst 1, 1) := by decide +kernel
theorem dX0_runBody_114 : decode cX0_runBody 114 = .ok (.iadd, 1) := by decide +kernel
theorem dX0_runBody_115 : decode cX0_runBody 115 = .ok (.invokevirtual 56, 3) := by decide +kernel
theorem dX0_runBody_118 : decode cX0_runBody 118 = .ok (.imul, 1) := by decide +kernel
theorem dX0_runBody_119 : decode cX0_runBody 119 = .ok (.ireturn, 1) := by decide +kernel
theorem dX0_runBody_120 : decode cX0_runBody 120 = .ok (.aload_n 0, 1) := by decide +kernel
theorem dX0_runBody_121 : decode cX0_runBody 121 = .ok (.bipush 12, 2) := by decide +kernel
theorem dX0_runBody_123 : decode cX0_runBody 123 = .ok (.iload_n 2, 1) := by decide +kernel
theorem dX0_runBody_124 : decode cX0_runBody 124 = .ok (.iconst 1, 1) := by decide +kernel
theorem dX0_runBody_125 : decode cX0_runBody 125 = .ok (.iadd, 1) := by decide +kernel
theorem dX0_runBody_126 : decode cX0_runBody 126 = .ok (.invokevirtual 56, 3) := by decide +kernel
theorem dX0_runBody_129 : decode cX0_runBody 129 = .ok (.ineg, 1) := by decide +kernel
theorem dX0_runBody_130 : decode cX0_runBody 130 = .ok (.ireturn, 1) := by decide +kernel
theorem dX0_runBody_131 : decode cX0_runBody 131 = .ok (.iconst 3, 1) := by decide +kernel
theorem dX0_runBody_132 : decode cX0_runBody 132 = .ok (.aload_n 0, 1) := by decide +kernel
theorem dX0_runBody_133 : decode cX0_runBody 133 = .ok (.bipush 10, 2) := by decide +kernel
theorem dX0_runBody_135 : decode cX0_runBody 135 = .ok (.iload_n 2, 1) := by decide +kernel
theorem dX0_runBody_136 : decode cX0_runBody 136 = .ok (.iconst 1, 1) := by decide +kernel
theorem dX0_runBody_137 : decode cX0_runBody 137 = .ok (.iadd, 1) := by decide +kernel
theorem dX0_runBody_138 : decode cX0_runBody 138 = .ok (.invokevirtual 56, 3) := by decide +kernel
theorem dX0_runBody_141 : decode cX0_runBody 141 = .ok (.imul, 1) := by decide +kernel
theorem dX0_runBody_142 : decode cX0_runBody 142 = .ok (.ireturn, 1) := by decide +kernel
theorem dX0_runBody_143 : decode cX0_runBody 143 = .ok (.aload_n 0, 1) := by decide +kernel
theorem dX0_runBody_144 : decode cX0_runBody 144 = .ok (.getfield 30, 3) := by decide +kernel
theorem dX0_runBody_147 : decode cX0_runBody 147 = .ok (.ireturn, 1) := by decide +kernel
theorem dX0_runBody_148 : decode cX0_runBody 148 = .ok (.aload_n 0, 1) := by decide +kernel
theorem dX0_runBody_149 : decode cX0_runBody 149 = .ok (.bipush 20, 2) := by decide +kernel
theorem dX0_runBody_151 : decode cX0_runBody 151 = .ok (.iload_n 2, 1) := by decide +kernel
theorem dX0_runBody_152 : decode cX0_runBody 152 = .ok (.iconst 1, 1) := by decide +kernel
theorem dX0_runBody_153 : decode cX0_runBody 153 = .ok (.iadd, 1) := by decide +kernel
theorem dX0_runBody_154 : decode cX0_runBody 154 = .ok (.invokevirtual 56, 3) := by decide +kernel
theorem dX0_runBody_157 : decode cX0_runBody 157 = .ok (.bipush 10, 2) := by decide +kernel
theorem dX0_runBody_159 : decode cX0_runBody 159 = .ok (.aload_n 0, 1) := by decide +kernel
theorem dX0_runBody_160 : decode cX0_runBody 160 = .ok (.getfield 24, 3) := by decide +kernel
theorem dX0_runBody_163 : decode cX0_runBody 163 = .ok (.imul, 1) := by decide +kernel
theorem dX0_runBody_164 : decode cX0_runBody 164 = .ok (.iadd, 1) := by decide +kernel
theorem dX0_runBody_165 : decode cX0_runBody 165 = .ok (.ireturn, 1) := by decide +kernel
theorem dX0_runBody_166 : decode cX0_runBody 166 = .ok (.aload_n 0, 1) := by decide +kernel
theorem dX0_runBody_167 : decode cX0_runBody 167 = .ok (.bipush 20, 2) := by decide +kernel
theorem dX0_runBody_169 : decode cX0_runBody 169 = .ok (.iload_n 2, 1) := by decide +kernel
theorem dX0_runBody_170 : decode cX0_runBody 170 = .ok (.iconst 1, 1) := by decide +kernel
theorem dX0_runBody_171 : decode cX0_runBody 171 = .ok (.iadd, 1) := by decide +kernel
theorem dX0_runBody_172 : decode cX0_runBody 172 = .ok (.invokevirtual 56, 3) := by decide +kernel
theorem dX0_runBody_175 : decode cX0_runBody 175 = .ok (.aload_n 0, 1) := by decide +kernel
theorem dX0_runBody_176 : decode cX0_runBody 176 = .ok (.getfield 33, 3) := by decide +kernel
theorem dX0_runBody_179 : decode cX0_runBody 179 = .ok (.iadd, 1) := by decide +kernel
theorem dX0_runBody_180 : decode cX0_runBody 180 = .ok (.ireturn, 1) := by decide +kernel
theorem dX0_runBody_181 : decode cX0_runBody 181 = .ok (.aload_n 0, 1) := by decide +kernel
theorem dX0_runBody_182 : decode cX0_runBody 182 = .ok (.bipush 22, 2) := by decide +kernel
theorem dX0_runBody_184 : decode cX0_runBody 184 = .ok (.iload_n 2, 1) := by decide +kernel
theorem dX0_runBody_185 : decode cX0_runBody 185 = .ok (.iconst 1, 1) := by decide +kernel
theorem dX0_runBody_186 : decode cX0_runBody 186 = .ok (.iadd, 1) := by decide +kernel
theorem dX0_runBody_187 : decode cX0_runBody 187 = .ok (.invokevirtual 56, 3) := by decide +kernel
theorem dX0_runBody_190 : decode cX0_runBody 190 = .ok (.aload_n 0, 1) := by decide +kernel
theorem dX0_runBody_191 : decode cX0_runBody 191 = .ok (.iconst 0, 1) := by decide +kernel
theorem dX0_runBody_192 : decode cX0_runBody 192 = .ok (.iload_n 2, 1) := by decide +kernel
theorem dX0_runBody_193 : decode cX0_runBody 193 = .ok (.iconst 1, 1) := by decide +kernel
theorem dX0_runBody_194 : decode cX0_runBody 194 = .ok (.iadd, 1) := by decide +kernel
theorem dX0_runBody_195 : decode cX0_runBody 195 = .ok (.invokevirtual 41, 3) := by decide +kernel
theorem dX0_runBody_198 : decode cX0_runBody 198 = .ok (.iadd, 1) := by decide +kernel
theorem dX0_runBody_199 : decode cX0_runBody 199 = .ok (.ireturn, 1) := by decide +kernel
theorem dX0_runBody_200 : decode cX0_runBody 200 = .ok (.iconst 0, 1) := by decide +kernel
theorem dX0_runBody_201 : decode cX0_runBody 201 = .ok (.ireturn, 1) := by decide +kernel
theorem dX0_leaveInTrace_0 : decode cX0_leaveInTrace 0 = .ok (.aload_n 0, 1) := by decide +kernel
theorem dX0_leaveInTrace_1 : decode cX0_leaveInTrace 1 = .ok (.getfield 15, 3) := by decide +kernel
theorem dX0_leaveInTrace_4 : decode cX0_leaveInTrace 4 = .ok (.aload_n 0, 1) := by decide +kernel
theorem dX0_leaveInTrace_5 : decode cX0_leaveInTrace 5 = .ok (.getfield 11, 3) := by decide +kernel
theorem dX0_leaveInTrace_8 : decode cX0_leaveInTrace 8 = .ok (.arraylength, 1) := by decide +kernel
theorem dX0_leaveInTrace_9 : decode cX0_leaveInTrace 9 = .ok (.if_icmp .ge 23, 3) := by decide +kernel
theorem dX0_leaveInTrace_12 : decode cX0_leaveInTrace 12 = .ok (.aload_n 0, 1) := by decide +kernel
theorem dX0_leaveInTrace_13 : decode cX0_leaveInTrace 13 = .ok (.getfield 11, 3) := by decide +kernel
theorem dX0_leaveInTrace_16 : decode cX0_leaveInTrace 16 = .ok (.aload_n 0, 1) := by decide +kernel
theorem dX0_leaveInTrace_17 : decode cX0_leaveInTrace 17 = .ok (.getfield 15, 3) := by decide +kernel
theorem dX0_leaveInTrace_20 : decode cX0_leaveInTrace 20 = .ok (.iload_n 1, 1) := by decide +kernel
theorem dX0_leaveInTrace_21 : decode cX0_leaveInTrace 21 = .ok (.iastore, 1) := by decide +kernel
theorem dX0_leaveInTrace_22 : decode cX0_leaveInTrace 22 = .ok (.aload_n 0, 1) := by decide +kernel
theorem dX0_leaveInTrace_23 : decode cX0_leaveInTrace 23 = .ok (.dup, 1) := by decide +kernel
theorem dX0_leaveInTrace_24 : decode cX0_leaveInTrace 24 = .ok (.getfield 15, 3) := by decide +kernel
theorem dX0_leaveInTrace_27 : decode cX0_leaveInTrace 27 = .ok (.iconst 1, 1) := by decide +kernel
theorem dX0_leaveInTrace_28 : decode cX0_leaveInTrace 28 = .ok (.iadd, 1) := by decide +kernel
theorem dX0_leaveInTrace_29 : decode cX0_leaveInTrace 29 = .ok (.putfield 15, 3) := by decide +kernel
theorem dX0_leaveInTrace_32 : decode cX0_leaveInTrace 32 = .ok (.return_, 1) := by decide +kernel
theorem dX1_init_0 : decode cX1_init 0 = .ok (.aload_n 0, 1) := by decide +kernel
theorem dX1_init_1 : decode cX1_init 1 = .ok (.invokespecial 1, 3) := by decide +kernel
theorem dX1_init_4 : decode cX1_init 4 = .ok (.aload_n 0, 1) := by decide +kernel
theorem dX1_init_5 : decode cX1_init 5 = .ok (.iconst 0, 1) := by decide +kernel
theorem dX1_init_6 : decode cX1_init 6 = .ok (.putfield 9, 3) := by decide +kernel
theorem dX1_init_9 : decode cX1_init 9 = .ok (.aload_n 0, 1) := by decide +kernel
theorem dX1_init_10 : decode cX1_init 10 = .ok (.iconst 0, 1) := by decide +kernel
theorem dX1_init_11 : decode cX1_init 11 = .ok (.putfield 15, 3) := by decide +kernel
theorem dX1_init_14 : decode cX1_init 14 = .ok (.aload_n 0, 1) := by decide +kernel
theorem dX1_init_15 : decode cX1_init 15 = .ok (.iconst 0, 1) := by decide +kernel
theorem dX1_init_16 : decode cX1_init 16 = .ok (.putfield 18, 3) := by decide +kernel
theorem dX1_init_19 : decode cX1_init 19 = .ok (.aload_n 0, 1) := by decide +kernel
theorem dX1_init_20 : decode cX1_init 20 = .ok (.iconst 0, 1) := by decide +kernel
theorem dX1_init_21 : decode cX1_init 21 = .ok (.putfield 21, 3) := by decide +kernel
theorem dX1_init_24 : decode cX1_init 24 = .ok (.aload_n 0, 1) := by decide +kernel
theorem dX1_init_25 : decode cX1_init 25 = .ok (.iconst 0, 1) := by decide +kernel
theorem dX1_init_26 : decode cX1_init 26 = .ok (.putfield 24, 3) := by decide +kernel
theorem dX1_init_29 : decode cX1_init 29 = .ok (.aload_n 0, 1) := by decide +kernel
theorem dX1_init_30 : decode cX1_init 30 = .ok (.iconst 0, 1) := by decide +kernel
theorem dX1_init_31 : decode cX1_init 31 = .ok (.putfield 27, 3) := by decide +kernel
theorem dX1_init_34 : decode cX1_init 34 = .ok (.aload_n 0, 1) := by decide +kernel
theorem dX1_init_35 : decode cX1_init 35 = .ok (.iconst 0, 1) := by decide +kernel
theorem dX1_init_36 : decode cX1_init 36 = .ok (.putfield 30, 3) := by decide +kernel
theorem dX1_init_39 : decode cX1_init 39 = .ok (.aload_n 0, 1) := by decide +kernel
theorem dX1_init_40 : decode cX1_init 40 = .ok (.iconst 0, 1) := by decide +kernel
theorem dX1_init_41 : decode cX1_init 41 = .ok (.putfield 33, 3) := by decide +kernel
theorem dX1_init_44 : decode cX1_init 44 = .ok (.aload_n 0, 1) := by decide +kernel
theorem dX1_init_45 : decode cX1_init 45 = .ok (.iconst 0, 1) := by decide +kernel
theorem dX1_init_46 : decode cX1_init 46 = .ok (.putfield 37, 3) := by decide +kernel
theorem dX1_init_49 : decode cX1_init 49 = .ok (.return_, 1) := by decide +kernel
theorem dX1_takeAll_0 : decode cX1_takeAll 0 = .ok (.aload_n 0, 1) := by decide +kernel
theorem dX1_takeAll_1 : decode cX1_takeAll 1 = .ok (.aload_n 1, 1) := by decide +kernel
theorem dX1_takeAll_2 : decode cX1_takeAll 2 = .ok (.getfield 9, 3) := by decide +kernel
theorem dX1_takeAll_5 : decode cX1_takeAll 5 = .ok (.putfield 9, 3) := by decide +kernel
theorem dX1_takeAll_8 : decode cX1_takeAll 8 = .ok (.aload_n 0, 1) := by decide +kernel
theorem dX1_takeAll_9 : decode cX1_takeAll 9 = .ok (.aload_n 1, 1) := by decide +kernel
theorem dX1_takeAll_10 : decode cX1_takeAll 10 = .ok (.getfield 15, 3) := by decide +kernel
theorem dX1_takeAll_13 : decode cX1_takeAll 13 = .ok (.putfield 15, 3) := by decide +kernel
theorem dX1_takeAll_16 : decode cX1_takeAll 16 = .ok (.aload_n 0, 1) := by decide +kernel
theorem dX1_takeAll_17 : decode cX1_takeAll 17 = .ok (.aload_n 1, 1) := by decide +kernel
theorem dX1_takeAll_18 : decode cX1_takeAll 18 = .ok (.getfield 18, 3) := by decide +kernel
theorem dX1_takeAll_21 : decode cX1_takeAll 21 = .ok (.putfield 18, 3) := by decide +kernel
theorem dX1_takeAll_24 : decode cX1_takeAll 24 = .ok (.aload_n 0, 1) := by decide +kernel
theorem dX1_takeAll_25 : decode cX1_takeAll 25 = .ok (.aload_n 1, 1) := by decide +kernel
theorem dX1_takeAll_26 : decode cX1_takeAll 26 = .ok (.getfield 21, 3) := by decide +kernel
theorem dX1_takeAll_29 : decode cX1_takeAll 29 = .ok (.putfield 21, 3) := by decide +kernel
theorem dX1_takeAll_32 : decode cX1_takeAll 32 = .ok (.aload_n 0, 1) := by decide +kernel
theorem dX1_takeAll_33 : decode cX1_takeAll 33 = .ok (.aload_n 1, 1) := by decide +kernel
theorem dX1_takeAll_34 : decode cX1_takeAll 34 = .ok (.getfield 24, 3) := by decide +kernel
theorem dX1_takeAll_37 : decode cX1_takeAll 37 = .ok (.putfield 24, 3) := by decide +kernel
theorem dX1_takeAll_40 : decode cX1_takeAll 40 = .ok (.aload_n 0, 1) := by decide +kernel
theorem dX1_takeAll_41 : decode cX1_takeAll 41 = .ok (.aload_n 1, 1) := by decide +kernel
theorem dX1_takeAll_42 : decode cX1_takeAll 42 = .ok (.getfield 27, 3) := by decide +kernel
theorem dX1_takeAll_45 : decode cX1_takeAll 45 = .ok (.putfield 27, 3) := by decide +kernel
theorem dX1_takeAll_48 : decode cX1_takeAll 48 = .ok (.aload_n 0, 1) := by decide +kernel
theorem dX1_takeAll_49 : decode cX1_takeAll 49 = .ok (.aload_n 1, 1) := by decide +kernel
theorem dX1_takeAll_50 : decode cX1_takeAll 50 = .ok (.getfield 30, 3) := by decide +kernel
theorem dX1_takeAll_53 : decode cX1_takeAll 53 = .ok (.putfield 30, 3) := by decide +kernel
theorem dX1_takeAll_56 : decode cX1_takeAll 56 = .ok (.aload_n 0, 1) := by decide +kernel
theorem dX1_takeAll_57 : decode cX1_takeAll 57 = .ok (.aload_n 1, 1) := by decide +kernel
theorem dX1_takeAll_58 : decode cX1_takeAll 58 = .ok (.getfield 33, 3) := by decide +kernel
theorem dX1_takeAll_61 : decode cX1_takeAll 61 = .ok (.putfield 33, 3) := by decide +kernel
theorem dX1_takeAll_64 : decode cX1_takeAll 64 = .ok (.return_, 1) := by decide +kernel
theorem dX1_pigsBy_0 : decode cX1_pigsBy 0 = .ok (.aload_n 0, 1) := by decide +kernel
theorem dX1_pigsBy_1 : decode cX1_pigsBy 1 = .ok (.getfield 21, 3) := by decide +kernel
theorem dX1_pigsBy_4 : decode cX1_pigsBy 4 = .ok (.aload_n 0, 1) := by decide +kernel
theorem dX1_pigsBy_5 : decode cX1_pigsBy 5 = .ok (.getfield 24, 3) := by decide +kernel
theorem dX1_pigsBy_8 : decode cX1_pigsBy 8 = .ok (.iload_n 1, 1) := by decide +kernel
theorem dX1_pigsBy_9 : decode cX1_pigsBy 9 = .ok (.imul, 1) := by decide +kernel
theorem dX1_pigsBy_10 : decode cX1_pigsBy 10 = .ok (.bipush 10, 2) := by decide +kernel
theorem dX1_pigsBy_12 : decode cX1_pigsBy 12 = .ok (.idiv, 1) := by decide +kernel
theorem dX1_pigsBy_13 : decode cX1_pigsBy 13 = .ok (.iadd, 1) := by decide +kernel
theorem dX1_pigsBy_14 : decode cX1_pigsBy 14 = .ok (.ireturn, 1) := by decide +kernel
theorem dX1_pull_0 : decode cX1_pull 0 = .ok (.aload_n 0, 1) := by decide +kernel
theorem dX1_pull_1 : decode cX1_pull 1 = .ok (.getfield 18, 3) := by decide +kernel
theorem dX1_pull_4 : decode cX1_pull 4 = .ok (.aload_n 0, 1) := by decide +kernel
theorem dX1_pull_5 : decode cX1_pull 5 = .ok (.getfield 24, 3) := by decide +kernel
theorem dX1_pull_8 : decode cX1_pull 8 = .ok (.imul, 1) := by decide +kernel
theorem dX1_pull_9 : decode cX1_pull 9 = .ok (.ireturn, 1) := by decide +kernel
theorem dX1_earn_0 : decode cX1_earn 0 = .ok (.aload_n 0, 1) := by decide +kernel
theorem dX1_earn_1 : decode cX1_earn 1 = .ok (.dup, 1) := by decide +kernel
theorem dX1_earn_2 : decode cX1_earn 2 = .ok (.getfield 30, 3) := by decide +kernel
theorem dX1_earn_5 : decode cX1_earn 5 = .ok (.iload_n 1, 1) := by decide +kernel
theorem dX1_earn_6 : decode cX1_earn 6 = .ok (.aload_n 0, 1) := by decide +kernel
theorem dX1_earn_7 : decode cX1_earn 7 = .ok (.getfield 37, 3) := by decide +kernel
theorem dX1_earn_10 : decode cX1_earn 10 = .ok (.imul, 1) := by decide +kernel
theorem dX1_earn_11 : decode cX1_earn 11 = .ok (.aload_n 0, 1) := by decide +kernel
theorem dX1_earn_12 : decode cX1_earn 12 = .ok (.getfield 27, 3) := by decide +kernel
theorem dX1_earn_15 : decode cX1_earn 15 = .ok (.isub, 1) := by decide +kernel
theorem dX1_earn_16 : decode cX1_earn 16 = .ok (.iadd, 1) := by decide +kernel
theorem dX1_earn_17 : decode cX1_earn 17 = .ok (.putfield 30, 3) := by decide +kernel
theorem dX1_earn_20 : decode cX1_earn 20 = .ok (.aload_n 0, 1) := by decide +kernel
theorem dX1_earn_21 : decode cX1_earn 21 = .ok (.aload_n 0, 1) := by decide +kernel
theorem dX1_earn_22 : decode cX1_earn 22 = .ok (.getfield 30, 3) := by decide +kernel
theorem dX1_earn_25 : decode cX1_earn 25 = .ok (.ifCond .ge 7, 3) := by decide +kernel
theorem dX1_earn_28 : decode cX1_earn 28 = .ok (.iconst 1, 1) := by decide +kernel
theorem dX1_earn_29 : decode cX1_earn 29 = .ok (.goto 4, 3) := by decide +kernel
theorem dX1_earn_32 : decode cX1_earn 32 = .ok (.iconst 0, 1) := by decide +kernel
theorem dX1_earn_33 : decode cX1_earn 33 = .ok (.putfield 33, 3) := by decide +kernel
theorem dX1_earn_36 : decode cX1_earn 36 = .ok (.return_, 1) := by decide +kernel
set_option maxRecDepth 20000 in
theorem ggX2_init_X3_init : GoodIn wsX2_init wsX3_init := goodIn_r _ [23, 24, 2, 3, 25, 26, 27, 28, 29, 54, 55, 56, 57, 58] (by decide +kernel) (by decide +kernel)
set_option maxRecDepth 20000 in
theorem gX2_init_X3_init_n19 : GoodIn wsX2_init (wsX3_init) := ggX2_init_X3_init
set_option maxRecDepth 20000 in
theorem ggX2_init_X1_init : GoodIn wsX2_init wsX1_init := goodIn_r _ [31, 32, 2, 3, 33, 34, 35, 36, 37, 38, 39, 40, 41, 59, 60, 61, 62, 63, 64, 65, 66, 67] (by decide +kernel) (by decide +kernel)
set_option maxRecDepth 20000 in
theorem gX2_init_X1_init_n55 : GoodIn wsX2_init (wsX1_init) := ggX2_init_X1_init
theorem dX2_init_0 : decode cX2_init 0 = .ok (.aload_n 0, 1) := by decide +kernel
theorem dX2_init_1 : decode cX2_init 1 = .ok (.invokespecial 3, 3) := by decide +kernel
theorem dX2_init_4 : decode cX2_init 4 = .ok (.aload_n 0, 1) := by decide +kernel
theorem dX2_init_5 : decode cX2_init 5 = .ok (.iconst 5, 1) := by decide +kernel
theorem dX2_init_6 : decode cX2_init 6 = .ok (.anewarray 9, 3) := by decide +kernel
theorem dX2_init_9 : decode cX2_init 9 = .ok (.putfield 11, 3) := by decide +kernel
theorem dX2_init_12 : decode cX2_init 12 = .ok (.aload_n 0, 1) := by decide +kernel
theorem dX2_init_13 : decode cX2_init 13 = .ok (.new 17, 3) := by decide +kernel
theorem dX2_init_16 : decode cX2_init 16 = .ok (.dup, 1) := by decide +kernel
theorem dX2_init_17 : decode cX2_init 17 = .ok (.invokespecial 19, 3) := by decide +kernel
theorem dX2_init_20 : decode cX2_init 20 = .ok (.putfield 20, 3) := by decide +kernel
theorem dX2_init_23 : decode cX2_init 23 = .ok (.aload_n 0, 1) := by decide +kernel
theorem dX2_init_24 : decode cX2_init 24 = .ok (.iconst 0, 1) := by decide +kernel
theorem dX2_init_25 : decode cX2_init 25 = .ok (.putfield 24, 3) := by decide +kernel
theorem dX2_init_28 : decode cX2_init 28 = .ok (.aload_n 0, 1) := by decide +kernel
theorem dX2_init_29 : decode cX2_init 29 = .ok (.iconst 0, 1) := by decide +kernel
theorem dX2_init_30 : decode cX2_init 30 = .ok (.putfield 28, 3) := by decide +kernel
theorem dX2_init_33 : decode cX2_init 33 = .ok (.aload_n 0, 1) := by decide +kernel
theorem dX2_init_34 : decode cX2_init 34 = .ok (.iconst 1, 1) := by decide +kernel
theorem dX2_init_35 : decode cX2_init 35 = .ok (.putfield 31, 3) := by decide +kernel
theorem dX2_init_38 : decode cX2_init 38 = .ok (.aload_n 0, 1) := by decide +kernel
theorem dX2_init_39 : decode cX2_init 39 = .ok (.iconst 0, 1) := by decide +kernel
theorem dX2_init_40 : decode cX2_init 40 = .ok (.putfield 34, 3) := by decide +kernel
theorem dX2_init_43 : decode cX2_init 43 = .ok (.aload_n 0, 1) := by decide +kernel
theorem dX2_init_44 : decode cX2_init 44 = .ok (.iconst 0, 1) := by decide +kernel
theorem dX2_init_45 : decode cX2_init 45 = .ok (.putfield 37, 3) := by decide +kernel
theorem dX2_init_48 : decode cX2_init 48 = .ok (.aload_n 0, 1) := by decide +kernel
theorem dX2_init_49 : decode cX2_init 49 = .ok (.iconst 0, 1) := by decide +kernel
theorem dX2_init_50 : decode cX2_init 50 = .ok (.putfield 40, 3) := by decide +kernel
theorem dX2_init_53 : decode cX2_init 53 = .ok (.aload_n 0, 1) := by decide +kernel
theorem dX2_init_54 : decode cX2_init 54 = .ok (.iconst 0, 1) := by decide +kernel
theorem dX2_init_55 : decode cX2_init 55 = .ok (.putfield 43, 3) := by decide +kernel
theorem dX2_init_58 : decode cX2_init 58 = .ok (.aload_n 0, 1) := by decide +kernel
theorem dX2_init_59 : decode cX2_init 59 = .ok (.iconst 0, 1) := by decide +kernel
theorem dX2_init_60 : decode cX2_init 60 = .ok (.putfield 46, 3) := by decide +kernel
theorem dX2_init_63 : decode cX2_init 63 = .ok (.aload_n 0, 1) := by decide +kernel
theorem dX2_init_64 : decode cX2_init 64 = .ok (.iconst 0, 1) := by decide +kernel
theorem dX2_init_65 : decode cX2_init 65 = .ok (.putfield 49, 3) := by decide +kernel
theorem dX2_init_68 : decode cX2_init 68 = .ok (.aload_n 0, 1) := by decide +kernel
theorem dX2_init_69 : decode cX2_init 69 = .ok (.iconst 0, 1) := by decide +kernel
theorem dX2_init_70 : decode cX2_init 70 = .ok (.putfield 52, 3) := by decide +kernel
theorem dX2_init_73 : decode cX2_init 73 = .ok (.iconst 0, 1) := by decide +kernel
theorem dX2_init_74 : decode cX2_init 74 = .ok (.istore_n 1, 1) := by decide +kernel
theorem dX2_init_75 : decode cX2_init 75 = .ok (.iload_n 1, 1) := by decide +kernel
theorem dX2_init_76 : decode cX2_init 76 = .ok (.aload_n 0, 1) := by decide +kernel
theorem dX2_init_77 : decode cX2_init 77 = .ok (.getfield 11, 3) := by decide +kernel
theorem dX2_init_80 : decode cX2_init 80 = .ok (.arraylength, 1) := by decide +kernel
theorem dX2_init_81 : decode cX2_init 81 = .ok (.if_icmp .ge 22, 3) := by decide +kernel
theorem dX2_init_84 : decode cX2_init 84 = .ok (.aload_n 0, 1) := by decide +kernel
theorem dX2_init_85 : decode cX2_init 85 = .ok (.getfield 11, 3) := by decide +kernel
theorem dX2_init_88 : decode cX2_init 88 = .ok (.iload_n 1, 1) := by decide +kernel
theorem dX2_init_89 : decode cX2_init 89 = .ok (.new 9, 3) := by decide +kernel
theorem dX2_init_92 : decode cX2_init 92 = .ok (.dup, 1) := by decide +kernel
theorem dX2_init_93 : decode cX2_init 93 = .ok (.invokespecial 55, 3) := by decide +kernel
theorem dX2_init_96 : decode cX2_init 96 = .ok (.aastore, 1) := by decide +kernel
theorem dX2_init_97 : decode cX2_init 97 = .ok (.iinc 1 1, 3) := by decide +kernel
theorem dX2_init_100 : decode cX2_init 100 = .ok (.goto (-25), 3) := by decide +kernel
theorem dX2_init_103 : decode cX2_init 103 = .ok (.return_, 1) := by decide +kernel
set_option maxRecDepth 20000 in
theorem ggX2_clear_X3_order : GoodIn wsX2_clear wsX3_order := goodIn_r _ [9, 10, 11, 12, 31, 32, 33, 34, 35] (by decide +kernel) (by decide +kernel)
set_option maxRecDepth 20000 in
theorem gX2_clear_X3_order : GoodIn wsX2_clear (wsV RX2 56 RX3 yX3_order wsX3_order) := goodIn_app (goodIn_of _ (by decide +kernel)) ggX2_clear_X3_order
set_option maxRecDepth 20000 in
theorem ggX2_clear_X3_forget : GoodIn wsX2_clear wsX3_forget := goodIn_r _ [16, 17, 18, 31, 32, 33, 34, 35] (by decide +kernel) (by decide +kernel)
set_option maxRecDepth 20000 in
theorem gX2_clear_X3_forget : GoodIn wsX2_clear (wsV RX2 60 RX3 yX3_forget wsX3_forget) := goodIn_app (goodIn_of _ (by decide +kernel)) ggX2_clear_X3_forget
theorem dX2_clear_0 : decode cX2_clear 0 = .ok (.aload_n 0, 1) := by decide +kernel
theorem dX2_clear_1 : decode cX2_clear 1 = .ok (.iconst 0, 1) := by decide +kernel
theorem dX2_clear_2 : decode cX2_clear 2 = .ok (.putfield 24, 3) := by decide +kernel
theorem dX2_clear_5 : decode cX2_clear 5 = .ok (.aload_n 0, 1) := by decide +kernel
theorem dX2_clear_6 : decode cX2_clear 6 = .ok (.iconst 0, 1) := by decide +kernel
theorem dX2_clear_7 : decode cX2_clear 7 = .ok (.putfield 49, 3) := by decide +kernel
theorem dX2_clear_10 : decode cX2_clear 10 = .ok (.aload_n 0, 1) := by decide +kernel
theorem dX2_clear_11 : decode cX2_clear 11 = .ok (.iconst 0, 1) := by decide +kernel
theorem dX2_clear_12 : decode cX2_clear 12 = .ok (.putfield 52, 3) := by decide +kernel
theorem dX2_clear_15 : decode cX2_clear 15 = .ok (.aload_n 0, 1) := by decide +kernel
theorem dX2_clear_16 : decode cX2_clear 16 = .ok (.getfield 20, 3) := by decide +kernel
theorem dX2_clear_19 : decode cX2_clear 19 = .ok (.iconst 0, 1) := by decide +kernel
theorem dX2_clear_20 : decode cX2_clear 20 = .ok (.iconst 0, 1) := by decide +kernel
theorem dX2_clear_21 : decode cX2_clear 21 = .ok (.iconst 0, 1) := by decide +kernel
theorem dX2_clear_22 : decode cX2_clear 22 = .ok (.invokevirtual 56, 3) := by decide +kernel
theorem dX2_clear_25 : decode cX2_clear 25 = .ok (.aload_n 0, 1) := by decide +kernel
theorem dX2_clear_26 : decode cX2_clear 26 = .ok (.getfield 20, 3) := by decide +kernel
theorem dX2_clear_29 : decode cX2_clear 29 = .ok (.invokevirtual 60, 3) := by decide +kernel
theorem dX2_clear_32 : decode cX2_clear 32 = .ok (.return_, 1) := by decide +kernel
set_option maxRecDepth 20000 in
theorem ggX2_takeAll_X1_takeAll : GoodIn wsX2_takeAll wsX1_takeAll := goodIn_r _ [17, 18, 19, 20, 21, 22, 23, 24, 25, 52, 53, 54, 55, 56, 57, 58, 59, 60] (by decide +kernel) (by decide +kernel)
set_option maxRecDepth 20000 in
theorem gX2_takeAll_X1_takeAll : GoodIn wsX2_takeAll (wsV RX2 63 RX1 yX1_takeAll wsX1_takeAll) := goodIn_app (goodIn_of _ (by decide +kernel)) ggX2_takeAll_X1_takeAll
set_option maxRecDepth 20000 in
theorem ggX2_takeAll_X3_takeAll : GoodIn wsX2_takeAll wsX3_takeAll := goodIn_r _ [30, 31, 32, 33, 34, 35, 36, 37, 38, 29, 39, 61, 62, 63, 64, 65] (by decide +kernel) (by decide +kernel)
set_option maxRecDepth 20000 in
theorem gX2_takeAll_X3_takeAll : GoodIn wsX2_takeAll (wsV RX2 67 RX3 yX3_takeAll wsX3_takeAll) := goodIn_app (goodIn_of _ (by decide +kernel)) ggX2_takeAll_X3_takeAll
theorem dX2_takeAll_0 : decode cX2_takeAll 0 = .ok (.iconst 0, 1) := by decide +kernel
theorem dX2_takeAll_1 : decode cX2_takeAll 1 = .ok (.istore_n 2, 1) := by decide +kernel
theorem dX2_takeAll_2 : decode cX2_takeAll 2 = .ok (.iload_n 2, 1) := by decide +kernel
theorem dX2_takeAll_3 : decode cX2_takeAll 3 = .ok (.aload_n 0, 1) := by decide +kernel
theorem dX2_takeAll_4 : decode cX2_takeAll 4 = .ok (.getfield 11, 3) := by decide +kernel
theorem dX2_takeAll_7 : decode cX2_takeAll 7 = .ok (.arraylength, 1) := by decide +kernel
theorem dX2_takeAll_8 : decode cX2_takeAll 8 = .ok (.if_icmp .ge 33, 3) := by decide +kernel
theorem dX2_takeAll_11 : decode cX2_takeAll 11 = .ok (.iload_n 2, 1) := by decide +kernel
theorem dX2_takeAll_12 : decode cX2_takeAll 12 = .ok (.aload_n 1, 1) := by decide +kernel
theorem dX2_takeAll_13 : decode cX2_takeAll 13 = .ok (.getfield 11, 3) := by decide +kernel
theorem dX2_takeAll_16 : decode cX2_takeAll 16 = .ok (.arraylength, 1) := by decide +kernel
theorem dX2_takeAll_17 : decode cX2_takeAll 17 = .ok (.if_icmp .ge 24, 3) := by decide +kernel
theorem dX2_takeAll_20 : decode cX2_takeAll 20 = .ok (.aload_n 0, 1) := by decide +kernel
theorem dX2_takeAll_21 : decode cX2_takeAll 21 = .ok (.getfield 11, 3) := by decide +kernel
theorem dX2_takeAll_24 : decode cX2_takeAll 24 = .ok (.iload_n 2, 1) := by decide +kernel
theorem dX2_takeAll_25 : decode cX2_takeAll 25 = .ok (.aaload, 1) := by decide +kernel
theorem dX2_takeAll_26 : decode cX2_takeAll 26 = .ok (.aload_n 1, 1) := by decide +kernel
theorem dX2_takeAll_27 : decode cX2_takeAll 27 = .ok (.getfield 11, 3) := by decide +kernel
theorem dX2_takeAll_30 : decode cX2_takeAll 30 = .ok (.iload_n 2, 1) := by decide +kernel
theorem dX2_takeAll_31 : decode cX2_takeAll 31 = .ok (.aaload, 1) := by decide +kernel
theorem dX2_takeAll_32 : decode cX2_takeAll 32 = .ok (.invokevirtual 63, 3) := by decide +kernel
theorem dX2_takeAll_35 : decode cX2_takeAll 35 = .ok (.iinc 2 1, 3) := by decide +kernel
theorem dX2_takeAll_38 : decode cX2_takeAll 38 = .ok (.goto (-36), 3) := by decide +kernel
theorem dX2_takeAll_41 : decode cX2_takeAll 41 = .ok (.aload_n 0, 1) := by decide +kernel
theorem dX2_takeAll_42 : decode cX2_takeAll 42 = .ok (.getfield 20, 3) := by decide +kernel
theorem dX2_takeAll_45 : decode cX2_takeAll 45 = .ok (.aload_n 1, 1) := by decide +kernel
theorem dX2_takeAll_46 : decode cX2_takeAll 46 = .ok (.getfield 20, 3) := by decide +kernel
theorem dX2_takeAll_49 : decode cX2_takeAll 49 = .ok (.invokevirtual 67, 3) := by decide +kernel
theorem dX2_takeAll_52 : decode cX2_takeAll 52 = .ok (.aload_n 0, 1) := by decide +kernel
theorem dX2_takeAll_53 : decode cX2_takeAll 53 = .ok (.aload_n 1, 1) := by decide +kernel
theorem dX2_takeAll_54 : decode cX2_takeAll 54 = .ok (.getfield 24, 3) := by decide +kernel
theorem dX2_takeAll_57 : decode cX2_takeAll 57 = .ok (.putfield 24, 3) := by decide +kernel
theorem dX2_takeAll_60 : decode cX2_takeAll 60 = .ok (.aload_n 0, 1) := by decide +kernel
theorem dX2_takeAll_61 : decode cX2_takeAll 61 = .ok (.aload_n 1, 1) := by decide +kernel
theorem dX2_takeAll_62 : decode cX2_takeAll 62 = .ok (.getfield 28, 3) := by decide +kernel
theorem dX2_takeAll_65 : decode cX2_takeAll 65 = .ok (.putfield 28, 3) := by decide +kernel
theorem dX2_takeAll_68 : decode cX2_takeAll 68 = .ok (.aload_n 0, 1) := by decide +kernel
theorem dX2_takeAll_69 : decode cX2_takeAll 69 = .ok (.aload_n 1, 1) := by decide +kernel
theorem dX2_takeAll_70 : decode cX2_takeAll 70 = .ok (.getfield 31, 3) := by decide +kernel
theorem dX2_takeAll_73 : decode cX2_takeAll 73 = .ok (.putfield 31, 3) := by decide +kernel
theorem dX2_takeAll_76 : decode cX2_takeAll 76 = .ok (.aload_n 0, 1) := by decide +kernel
theorem dX2_takeAll_77 : decode cX2_takeAll 77 = .ok (.aload_n 1, 1) := by decide +kernel
theorem dX2_takeAll_78 : decode cX2_takeAll 78 = .ok (.getfield 34, 3) := by decide +kernel
theorem dX2_takeAll_81 : decode cX2_takeAll 81 = .ok (.putfield 34, 3) := by decide +kernel
theorem dX2_takeAll_84 : decode cX2_takeAll 84 = .ok (.aload_n 0, 1) := by decide +kernel
theorem dX2_takeAll_85 : decode cX2_takeAll 85 = .ok (.aload_n 1, 1) := by decide +kernel
theorem dX2_takeAll_86 : decode cX2_takeAll 86 = .ok (.getfield 37, 3) := by decide +kernel
theorem dX2_takeAll_89 : decode cX2_takeAll 89 = .ok (.putfield 37, 3) := by decide +kernel
theorem dX2_takeAll_92 : decode cX2_takeAll 92 = .ok (.aload_n 0, 1) := by decide +kernel
theorem dX2_takeAll_93 : decode cX2_takeAll 93 = .ok (.aload_n 1, 1) := by decide +kernel
theorem dX2_takeAll_94 : decode cX2_takeAll 94 = .ok (.getfield 40, 3) := by decide +kernel
theorem dX2_takeAll_97 : decode cX2_takeAll 97 = .ok (.putfield 40, 3) := by decide +kernel
theorem dX2_takeAll_100 : decode cX2_takeAll 100 = .ok (.aload_n 0, 1) := by decide +kernel
theorem dX2_takeAll_101 : decode cX2_takeAll 101 = .ok (.aload_n 1, 1) := by decide +kernel
theorem dX2_takeAll_102 : decode cX2_takeAll 102 = .ok (.getfield 43, 3) := by decide +kernel
theorem dX2_takeAll_105 : decode cX2_takeAll 105 = .ok (.putfield 43, 3) := by decide +kernel
theorem dX2_takeAll_108 : decode cX2_takeAll 108 = .ok (.aload_n 0, 1) := by decide +kernel
theorem dX2_takeAll_109 : decode cX2_takeAll 109 = .ok (.aload_n 1, 1) := by decide +kernel
theorem dX2_takeAll_110 : decode cX2_takeAll 110 = .ok (.getfield 46, 3) := by decide +kernel
theorem dX2_takeAll_113 : decode cX2_takeAll 113 = .ok (.putfield 46, 3) := by decide +kernel
theorem dX2_takeAll_116 : decode cX2_takeAll 116 = .ok (.aload_n 0, 1) := by decide +kernel
theorem dX2_takeAll_117 : decode cX2_takeAll 117 = .ok (.aload_n 1, 1) := by decide +kernel
theorem dX2_takeAll_118 : decode cX2_takeAll 118 = .ok (.getfield 49, 3) := by decide +kernel
theorem dX2_takeAll_121 : decode cX2_takeAll 121 = .ok (.putfield 49, 3) := by decide +kernel
theorem dX2_takeAll_124 : decode cX2_takeAll 124 = .ok (.aload_n 0, 1) := by decide +kernel
theorem dX2_takeAll_125 : decode cX2_takeAll 125 = .ok (.aload_n 1, 1) := by decide +kernel
theorem dX2_takeAll_126 : decode cX2_takeAll 126 = .ok (.getfield 52, 3) := by decide +kernel
theorem dX2_takeAll_129 : decode cX2_takeAll 129 = .ok (.putfield 52, 3) := by decide +kernel
theorem dX2_takeAll_132 : decode cX2_takeAll 132 = .ok (.return_, 1) := by decide +kernel
theorem dX2_kindAt_0 : decode cX2_kindAt 0 = .ok (.iload_n 1, 1) := by decide +kernel
theorem dX2_kindAt_1 : decode cX2_kindAt 1 = .ok (.ifCond .lt 29, 3) := by decide +kernel
theorem dX2_kindAt_4 : decode cX2_kindAt 4 = .ok (.iload_n 1, 1) := by decide +kernel
theorem dX2_kindAt_5 : decode cX2_kindAt 5 = .ok (.aload_n 0, 1) := by decide +kernel
theorem dX2_kindAt_6 : decode cX2_kindAt 6 = .ok (.getfield 24, 3) := by decide +kernel
theorem dX2_kindAt_9 : decode cX2_kindAt 9 = .ok (.if_icmp .ge 21, 3) := by decide +kernel
theorem dX2_kindAt_12 : decode cX2_kindAt 12 = .ok (.iload_n 1, 1) := by decide +kernel
theorem dX2_kindAt_13 : decode cX2_kindAt 13 = .ok (.aload_n 0, 1) := by decide +kernel
theorem dX2_kindAt_14 : decode cX2_kindAt 14 = .ok (.getfield 11, 3) := by decide +kernel
theorem dX2_kindAt_17 : decode cX2_kindAt 17 = .ok (.arraylength, 1) := by decide +kernel
theorem dX2_kindAt_18 : decode cX2_kindAt 18 = .ok (.if_icmp .ge 12, 3) := by decide +kernel
theorem dX2_kindAt_21 : decode cX2_kindAt 21 = .ok (.aload_n 0, 1) := by decide +kernel
theorem dX2_kindAt_22 : decode cX2_kindAt 22 = .ok (.getfield 11, 3) := by decide +kernel
theorem dX2_kindAt_25 : decode cX2_kindAt 25 = .ok (.iload_n 1, 1) := by decide +kernel
theorem dX2_kindAt_26 : decode cX2_kindAt 26 = .ok (.aaload, 1) := by decide +kernel
theorem dX2_kindAt_27 : decode cX2_kindAt 27 = .ok (.goto 4, 3) := by decide +kernel
theorem dX2_kindAt_30 : decode cX2_kindAt 30 = .ok (.aconst_null, 1) := by decide +kernel
theorem dX2_kindAt_31 : decode cX2_kindAt 31 = .ok (.areturn, 1) := by decide +kernel
theorem dX2_nextKind_0 : decode cX2_nextKind 0 = .ok (.aload_n 0, 1) := by decide +kernel
theorem dX2_nextKind_1 : decode cX2_nextKind 1 = .ok (.getfield 24, 3) := by decide +kernel
theorem dX2_nextKind_4 : decode cX2_nextKind 4 = .ok (.aload_n 0, 1) := by decide +kernel
theorem dX2_nextKind_5 : decode cX2_nextKind 5 = .ok (.getfield 11, 3) := by decide +kernel
theorem dX2_nextKind_8 : decode cX2_nextKind 8 = .ok (.arraylength, 1) := by decide +kernel
theorem dX2_nextKind_9 : decode cX2_nextKind 9 = .ok (.if_icmp .lt 5, 3) := by decide +kernel
theorem dX2_nextKind_12 : decode cX2_nextKind 12 = .ok (.aconst_null, 1) := by decide +kernel
theorem dX2_nextKind_13 : decode cX2_nextKind 13 = .ok (.areturn, 1) := by decide +kernel
theorem dX2_nextKind_14 : decode cX2_nextKind 14 = .ok (.aload_n 0, 1) := by decide +kernel
theorem dX2_nextKind_15 : decode cX2_nextKind 15 = .ok (.getfield 11, 3) := by decide +kernel
theorem dX2_nextKind_18 : decode cX2_nextKind 18 = .ok (.aload_n 0, 1) := by decide +kernel
theorem dX2_nextKind_19 : decode cX2_nextKind 19 = .ok (.getfield 24, 3) := by decide +kernel
theorem dX2_nextKind_22 : decode cX2_nextKind 22 = .ok (.aaload, 1) := by decide +kernel
theorem dX2_nextKind_23 : decode cX2_nextKind 23 = .ok (.astore_n 1, 1) := by decide +kernel
theorem dX2_nextKind_24 : decode cX2_nextKind 24 = .ok (.aload_n 1, 1) := by decide +kernel
theorem dX2_nextKind_25 : decode cX2_nextKind 25 = .ok (.iconst 0, 1) := by decide +kernel
theorem dX2_nextKind_26 : decode cX2_nextKind 26 = .ok (.putfield 70, 3) := by decide +kernel
theorem dX2_nextKind_29 : decode cX2_nextKind 29 = .ok (.aload_n 0, 1) := by decide +kernel
theorem dX2_nextKind_30 : decode cX2_nextKind 30 = .ok (.dup, 1) := by decide +kernel
theorem dX2_nextKind_31 : decode cX2_nextKind 31 = .ok (.getfield 24, 3) := by decide +kernel
theorem dX2_nextKind_34 : decode cX2_nextKind 34 = .ok (.iconst 1, 1) := by decide +kernel
theorem dX2_nextKind_35 : decode cX2_nextKind 35 = .ok (.iadd, 1) := by decide +kernel
theorem dX2_nextKind_36 : decode cX2_nextKind 36 = .ok (.putfield 24, 3) := by decide +kernel
theorem dX2_nextKind_39 : decode cX2_nextKind 39 = .ok (.aload_n 1, 1) := by decide +kernel
theorem dX2_nextKind_40 : decode cX2_nextKind 40 = .ok (.areturn, 1) := by decide +kernel
theorem dX2_farmerCount_0 : decode cX2_farmerCount 0 = .ok (.iconst 0, 1) := by decide +kernel
theorem dX2_farmerCount_1 : decode cX2_farmerCount 1 = .ok (.istore_n 1, 1) := by decide +kernel
theorem dX2_farmerCount_2 : decode cX2_farmerCount 2 = .ok (.iconst 0, 1) := by decide +kernel
theorem dX2_farmerCount_3 : decode cX2_farmerCount 3 = .ok (.istore_n 2, 1) := by decide +kernel
theorem dX2_farmerCount_4 : decode cX2_farmerCount 4 = .ok (.iload_n 2, 1) := by decide +kernel
theorem dX2_farmerCount_5 : decode cX2_farmerCount 5 = .ok (.aload_n 0, 1) := by decide +kernel
theorem dX2_farmerCount_6 : decode cX2_farmerCount 6 = .ok (.getfield 24, 3) := by decide +kernel
theorem dX2_farmerCount_9 : decode cX2_farmerCount 9 = .ok (.if_icmp .ge 30, 3) := by decide +kernel
theorem dX2_farmerCount_12 : decode cX2_farmerCount 12 = .ok (.iload_n 2, 1) := by decide +kernel
theorem dX2_farmerCount_13 : decode cX2_farmerCount 13 = .ok (.aload_n 0, 1) := by decide +kernel
theorem dX2_farmerCount_14 : decode cX2_farmerCount 14 = .ok (.getfield 11, 3) := by decide +kernel
theorem dX2_farmerCount_17 : decode cX2_farmerCount 17 = .ok (.arraylength, 1) := by decide +kernel
theorem dX2_farmerCount_18 : decode cX2_farmerCount 18 = .ok (.if_icmp .ge 21, 3) := by decide +kernel
theorem dX2_farmerCount_21 : decode cX2_farmerCount 21 = .ok (.iload_n 1, 1) := by decide +kernel
theorem dX2_farmerCount_22 : decode cX2_farmerCount 22 = .ok (.aload_n 0, 1) := by decide +kernel
theorem dX2_farmerCount_23 : decode cX2_farmerCount 23 = .ok (.getfield 11, 3) := by decide +kernel
theorem dX2_farmerCount_26 : decode cX2_farmerCount 26 = .ok (.iload_n 2, 1) := by decide +kernel
theorem dX2_farmerCount_27 : decode cX2_farmerCount 27 = .ok (.aaload, 1) := by decide +kernel
theorem dX2_farmerCount_28 : decode cX2_farmerCount 28 = .ok (.getfield 74, 3) := by decide +kernel
theorem dX2_farmerCount_31 : decode cX2_farmerCount 31 = .ok (.iadd, 1) := by decide +kernel
theorem dX2_farmerCount_32 : decode cX2_farmerCount 32 = .ok (.istore_n 1, 1) := by decide +kernel
theorem dX2_farmerCount_33 : decode cX2_farmerCount 33 = .ok (.iinc 2 1, 3) := by decide +kernel
theorem dX2_farmerCount_36 : decode cX2_farmerCount 36 = .ok (.goto (-32), 3) := by decide +kernel
theorem dX2_farmerCount_39 : decode cX2_farmerCount 39 = .ok (.iload_n 1, 1) := by decide +kernel
theorem dX2_farmerCount_40 : decode cX2_farmerCount 40 = .ok (.ireturn, 1) := by decide +kernel
set_option maxRecDepth 20000 in
theorem ggX2_outCount_X2_outBits : GoodIn wsX2_outCount wsX2_outBits := goodIn_r _ [5, 6, 7, 8, 16, 17, 18, 19, 20, 21, 22, 23, 24, 25, 26, 27, 28, 29, 30, 31, 32, 33, 34, 35, 36] (by decide +kernel) (by decide +kernel)
set_option maxRecDepth 20000 in
theorem gX2_outCount_X2_outBits : GoodIn wsX2_outCount (wsV RX2 77 RX2 yX2_outBits wsX2_outBits) := goodIn_app (goodIn_of _ (by decide +kernel)) ggX2_outCount_X2_outBits
set_option maxRecDepth 20000 in
theorem ggX2_outCount_J6_bitCount_0f7a4 : GoodIn wsX2_outCount wsJ6_bitCount_0f7a4 := goodIn_r _ [12, 13, 14, 15] (by decide +kernel) (by decide +kernel)
set_option maxRecDepth 20000 in
theorem gX2_outCount_J6_bitCount_0f7a4 : GoodIn wsX2_outCount (va_wsS RX2 81 yJ6_bitCount_0f7a4 wsJ6_bitCount_0f7a4) := goodIn_app (goodIn_of _ (by decide +kernel)) ggX2_outCount_J6_bitCount_0f7a4
theorem dX2_outCount_0 : decode cX2_outCount 0 = .ok (.aload_n 0, 1) := by decide +kernel
theorem dX2_outCount_1 : decode cX2_outCount 1 = .ok (.invokevirtual 77, 3) := by decide +kernel
theorem dX2_outCount_4 : decode cX2_outCount 4 = .ok (.invokestatic 81, 3) := by decide +kernel
theorem dX2_outCount_7 : decode cX2_outCount 7 = .ok (.ireturn, 1) := by decide +kernel
theorem dX2_outBits_0 : decode cX2_outBits 0 = .ok (.iconst 0, 1) := by decide +kernel
theorem dX2_outBits_1 : decode cX2_outBits 1 = .ok (.istore_n 1, 1) := by decide +kernel
theorem dX2_outBits_2 : decode cX2_outBits 2 = .ok (.iconst 0, 1) := by decide +kernel
theorem dX2_outBits_3 : decode cX2_outBits 3 = .ok (.istore_n 2, 1) := by decide +kernel
theorem dX2_outBits_4 : decode cX2_outBits 4 = .ok (.iload_n 2, 1) := by decide +kernel
theorem dX2_outBits_5 : decode cX2_outBits 5 = .ok (.aload_n 0, 1) := by decide +kernel
theorem dX2_outBits_6 : decode cX2_outBits 6 = .ok (.getfield 24, 3) := by decide +kernel
theorem dX2_outBits_9 : decode cX2_outBits 9 = .ok (.if_icmp .ge 40, 3) := by decide +kernel
theorem dX2_outBits_12 : decode cX2_outBits 12 = .ok (.iload_n 2, 1) := by decide +kernel
theorem dX2_outBits_13 : decode cX2_outBits 13 = .ok (.aload_n 0, 1) := by decide +kernel
theorem dX2_outBits_14 : decode cX2_outBits 14 = .ok (.getfield 11, 3) := by decide +kernel
theorem dX2_outBits_17 : decode cX2_outBits 17 = .ok (.arraylength, 1) := by decide +kernel
theorem dX2_outBits_18 : decode cX2_outBits 18 = .ok (.if_icmp .ge 31, 3) := by decide +kernel
theorem dX2_outBits_21 : decode cX2_outBits 21 = .ok (.iload_n 1, 1) := by decide +kernel
theorem dX2_outBits_22 : decode cX2_outBits 22 = .ok (.aload_n 0, 1) := by decide +kernel
theorem dX2_outBits_23 : decode cX2_outBits 23 = .ok (.getfield 11, 3) := by decide +kernel
theorem dX2_outBits_26 : decode cX2_outBits 26 = .ok (.iload_n 2, 1) := by decide +kernel
theorem dX2_outBits_27 : decode cX2_outBits 27 = .ok (.aaload, 1) := by decide +kernel
theorem dX2_outBits_28 : decode cX2_outBits 28 = .ok (.getfield 70, 3) := by decide +kernel
theorem dX2_outBits_31 : decode cX2_outBits 31 = .ok (.ifCond .eq 9, 3) := by decide +kernel
theorem dX2_outBits_34 : decode cX2_outBits 34 = .ok (.iconst 1, 1) := by decide +kernel
theorem dX2_outBits_35 : decode cX2_outBits 35 = .ok (.iload_n 2, 1) := by decide +kernel
theorem dX2_outBits_36 : decode cX2_outBits 36 = .ok (.ishl, 1) := by decide +kernel
theorem dX2_outBits_37 : decode cX2_outBits 37 = .ok (.goto 4, 3) := by decide +kernel
theorem dX2_outBits_40 : decode cX2_outBits 40 = .ok (.iconst 0, 1) := by decide +kernel
theorem dX2_outBits_41 : decode cX2_outBits 41 = .ok (.ior, 1) := by decide +kernel
theorem dX2_outBits_42 : decode cX2_outBits 42 = .ok (.istore_n 1, 1) := by decide +kernel
theorem dX2_outBits_43 : decode cX2_outBits 43 = .ok (.iinc 2 1, 3) := by decide +kernel
theorem dX2_outBits_46 : decode cX2_outBits 46 = .ok (.goto (-42), 3) := by decide +kernel
theorem dX2_outBits_49 : decode cX2_outBits 49 = .ok (.iload_n 1, 1) := by decide +kernel
theorem dX2_outBits_50 : decode cX2_outBits 50 = .ok (.ireturn, 1) := by decide +kernel
set_option maxRecDepth 20000 in
theorem ggX2_likeness_X2_outBits : GoodIn wsX2_likeness wsX2_outBits := goodIn_r _ [8, 9, 10, 11, 12, 13, 14, 15, 16, 17, 18, 19, 20, 21, 22, 23, 24, 25, 26, 27, 28, 29, 30, 31, 32] (by decide +kernel) (by decide +kernel)
set_option maxRecDepth 20000 in
theorem gX2_likeness_X2_outBits : GoodIn wsX2_likeness (wsV RX2 77 RX2 yX2_outBits wsX2_outBits) := goodIn_app (goodIn_of _ (by decide +kernel)) ggX2_likeness_X2_outBits
theorem dX2_likeness_0 : decode cX2_likeness 0 = .ok (.aload_n 0, 1) := by decide +kernel
theorem dX2_likeness_1 : decode cX2_likeness 1 = .ok (.getfield 37, 3) := by decide +kernel
theorem dX2_likeness_4 : decode cX2_likeness 4 = .ok (.bipush 100, 2) := by decide +kernel
theorem dX2_likeness_6 : decode cX2_likeness 6 = .ok (.imul, 1) := by decide +kernel
theorem dX2_likeness_7 : decode cX2_likeness 7 = .ok (.aload_n 0, 1) := by decide +kernel
theorem dX2_likeness_8 : decode cX2_likeness 8 = .ok (.getfield 40, 3) := by decide +kernel
theorem dX2_likeness_11 : decode cX2_likeness 11 = .ok (.iadd, 1) := by decide +kernel
theorem dX2_likeness_12 : decode cX2_likeness 12 = .ok (.bipush 100, 2) := by decide +kernel
theorem dX2_likeness_14 : decode cX2_likeness 14 = .ok (.imul, 1) := by decide +kernel
theorem dX2_likeness_15 : decode cX2_likeness 15 = .ok (.aload_n 0, 1) := by decide +kernel
theorem dX2_likeness_16 : decode cX2_likeness 16 = .ok (.getfield 43, 3) := by decide +kernel
theorem dX2_likeness_19 : decode cX2_likeness 19 = .ok (.iadd, 1) := by decide +kernel
theorem dX2_likeness_20 : decode cX2_likeness 20 = .ok (.iconst 5, 1) := by decide +kernel
theorem dX2_likeness_21 : decode cX2_likeness 21 = .ok (.ishl, 1) := by decide +kernel
theorem dX2_likeness_22 : decode cX2_likeness 22 = .ok (.aload_n 0, 1) := by decide +kernel
theorem dX2_likeness_23 : decode cX2_likeness 23 = .ok (.invokevirtual 77, 3) := by decide +kernel
theorem dX2_likeness_26 : decode cX2_likeness 26 = .ok (.ior, 1) := by decide +kernel
theorem dX2_likeness_27 : decode cX2_likeness 27 = .ok (.ireturn, 1) := by decide +kernel
set_option maxRecDepth 20000 in
theorem ggX2_guessOf_X2_bringUnwise : GoodIn wsX2_guessOf wsX2_bringUnwise := goodIn_r _ [11, 12, 13, 14, 1, 2, 3, 4, 5, 6, 15, 16, 17, 18, 19, 20, 21, 22, 23, 24, 25, 26, 27, 28, 29, 30, 31, 32, 33, 34, 35, 36, 37, 62, 63, 64, 65, 66, 67, 68, 69, 70, 71, 72, 73, 53, 54, 55, 56, 57, 58, 59, 60, 61] (by decide +kernel) (by decide +kernel)
set_option maxRecDepth 20000 in
theorem gX2_guessOf_X2_bringUnwise : GoodIn wsX2_guessOf (wsV RX2 92 RX2 yX2_bringUnwise wsX2_bringUnwise) := goodIn_app (goodIn_of _ (by decide +kernel)) ggX2_guessOf_X2_bringUnwise
set_option maxRecDepth 20000 in
theorem ggX2_guessOf_X2_wiseGuess : GoodIn wsX2_guessOf wsX2_wiseGuess := goodIn_r _ [41, 42, 43, 44, 10, 45, 12, 13, 14, 1, 15, 16, 31, 32, 33, 34, 35, 36, 37, 46, 47, 48, 49, 50, 51, 52, 26, 23, 27, 62, 63, 64, 65, 66, 67, 68, 69, 70, 71, 72, 73, 53, 54, 55, 56, 57, 58, 59, 60, 61] (by decide +kernel) (by decide +kernel)
set_option maxRecDepth 20000 in
theorem gX2_guessOf_X2_wiseGuess : GoodIn wsX2_guessOf (wsV RX2 95 RX2 yX2_wiseGuess wsX2_wiseGuess) := goodIn_app (goodIn_of _ (by decide +kernel)) ggX2_guessOf_X2_wiseGuess
set_option maxRecDepth 20000 in
theorem ggX2_guessOf_X9_guessBy : GoodIn wsX2_guessOf wsX9_guessBy := goodIn_r _ [20, 21, 22, 23, 24, 25, 26, 27, 28, 29, 19, 30] (by decide +kernel) (by decide +kernel)
set_option maxRecDepth 20000 in
theorem gX2_guessOf_X9_guessBy : GoodIn wsX2_guessOf (va_wsS RX2 101 yX9_guessBy wsX9_guessBy) := goodIn_app (goodIn_of _ (by decide +kernel)) ggX2_guessOf_X9_guessBy
theorem dX2_guessOf_0 : decode cX2_guessOf 0 = .ok (.aload_n 1, 1) := by decide +kernel
theorem dX2_guessOf_1 : decode cX2_guessOf 1 = .ok (.getfield 87, 3) := by decide +kernel
theorem dX2_guessOf_4 : decode cX2_guessOf 4 = .ok (.bipush 6, 2) := by decide +kernel
theorem dX2_guessOf_6 : decode cX2_guessOf 6 = .ok (.if_icmp .ne 12, 3) := by decide +kernel
theorem dX2_guessOf_9 : decode cX2_guessOf 9 = .ok (.aload_n 0, 1) := by decide +kernel
theorem dX2_guessOf_10 : decode cX2_guessOf 10 = .ok (.aload_n 0, 1) := by decide +kernel
theorem dX2_guessOf_11 : decode cX2_guessOf 11 = .ok (.invokevirtual 92, 3) := by decide +kernel
theorem dX2_guessOf_14 : decode cX2_guessOf 14 = .ok (.invokevirtual 95, 3) := by decide +kernel
theorem dX2_guessOf_17 : decode cX2_guessOf 17 = .ok (.ireturn, 1) := by decide +kernel
theorem dX2_guessOf_18 : decode cX2_guessOf 18 = .ok (.aload_n 1, 1) := by decide +kernel
theorem dX2_guessOf_19 : decode cX2_guessOf 19 = .ok (.getfield 87, 3) := by decide +kernel
theorem dX2_guessOf_22 : decode cX2_guessOf 22 = .ok (.aload_n 1, 1) := by decide +kernel
theorem dX2_guessOf_23 : decode cX2_guessOf 23 = .ok (.getfield 98, 3) := by decide +kernel
theorem dX2_guessOf_26 : decode cX2_guessOf 26 = .ok (.aload_n 0, 1) := by decide +kernel
theorem dX2_guessOf_27 : decode cX2_guessOf 27 = .ok (.getfield 37, 3) := by decide +kernel
theorem dX2_guessOf_30 : decode cX2_guessOf 30 = .ok (.aload_n 0, 1) := by decide +kernel
theorem dX2_guessOf_31 : decode cX2_guessOf 31 = .ok (.getfield 40, 3) := by decide +kernel
theorem dX2_guessOf_34 : decode cX2_guessOf 34 = .ok (.aload_n 0, 1) := by decide +kernel
theorem dX2_guessOf_35 : decode cX2_guessOf 35 = .ok (.getfield 43, 3) := by decide +kernel
theorem dX2_guessOf_38 : decode cX2_guessOf 38 = .ok (.aload_n 0, 1) := by decide +kernel
theorem dX2_guessOf_39 : decode cX2_guessOf 39 = .ok (.getfield 46, 3) := by decide +kernel
theorem dX2_guessOf_42 : decode cX2_guessOf 42 = .ok (.invokestatic 101, 3) := by decide +kernel
theorem dX2_guessOf_45 : decode cX2_guessOf 45 = .ok (.ireturn, 1) := by decide +kernel
set_option maxRecDepth 20000 in
theorem ggX2_wiseGuess_X2_bringWise : GoodIn wsX2_wiseGuess wsX2_bringWise := goodIn_r _ [5, 6, 7, 8, 9, 10, 11, 12, 13, 14, 15, 16, 17, 18, 29, 30, 31, 32, 33, 34, 35, 36, 37, 38, 39, 40, 41, 42, 43, 44, 45, 46, 47, 48, 49] (by decide +kernel) (by decide +kernel)
set_option maxRecDepth 20000 in
theorem gX2_wiseGuess_X2_bringWise : GoodIn wsX2_wiseGuess (wsV RX2 105 RX2 yX2_bringWise wsX2_bringWise) := goodIn_app (goodIn_of _ (by decide +kernel)) ggX2_wiseGuess_X2_bringWise
set_option maxRecDepth 20000 in
theorem ggX2_wiseGuess_X2_priceOf : GoodIn wsX2_wiseGuess wsX2_priceOf := goodIn_r _ [22, 23, 24, 25, 26, 27, 28, 29, 30, 31, 32, 33, 34, 35, 36, 37, 38, 39, 40] (by decide +kernel) (by decide +kernel)
set_option maxRecDepth 20000 in
theorem gX2_wiseGuess_X2_priceOf : GoodIn wsX2_wiseGuess (wsV RX2 108 RX2 yX2_priceOf wsX2_priceOf) := goodIn_app (goodIn_of _ (by decide +kernel)) ggX2_wiseGuess_X2_priceOf
theorem dX2_wiseGuess_0 : decode cX2_wiseGuess 0 = .ok (.iconst (-1), 1) := by decide +kernel
theorem dX2_wiseGuess_1 : decode cX2_wiseGuess 1 = .ok (.istore_n 2, 1) := by decide +kernel
theorem dX2_wiseGuess_2 : decode cX2_wiseGuess 2 = .ok (.bipush 64, 2) := by decide +kernel
theorem dX2_wiseGuess_4 : decode cX2_wiseGuess 4 = .ok (.istore_n 3, 1) := by decide +kernel
theorem dX2_wiseGuess_5 : decode cX2_wiseGuess 5 = .ok (.iload_n 3, 1) := by decide +kernel
theorem dX2_wiseGuess_6 : decode cX2_wiseGuess 6 = .ok (.ifCond .le 42, 3) := by decide +kernel
theorem dX2_wiseGuess_9 : decode cX2_wiseGuess 9 = .ok (.iload_n 2, 1) := by decide +kernel
theorem dX2_wiseGuess_10 : decode cX2_wiseGuess 10 = .ok (.iload_n 3, 1) := by decide +kernel
theorem dX2_wiseGuess_11 : decode cX2_wiseGuess 11 = .ok (.iadd, 1) := by decide +kernel
theorem dX2_wiseGuess_12 : decode cX2_wiseGuess 12 = .ok (.istore 4, 2) := by decide +kernel
theorem dX2_wiseGuess_14 : decode cX2_wiseGuess 14 = .ok (.iload 4, 2) := by decide +kernel
theorem dX2_wiseGuess_16 : decode cX2_wiseGuess 16 = .ok (.bipush 99, 2) := by decide +kernel
theorem dX2_wiseGuess_18 : decode cX2_wiseGuess 18 = .ok (.if_icmp .ge 23, 3) := by decide +kernel
theorem dX2_wiseGuess_21 : decode cX2_wiseGuess 21 = .ok (.aload_n 0, 1) := by decide +kernel
theorem dX2_wiseGuess_22 : decode cX2_wiseGuess 22 = .ok (.iload_n 1, 1) := by decide +kernel
theorem dX2_wiseGuess_23 : decode cX2_wiseGuess 23 = .ok (.aload_n 0, 1) := by decide +kernel
theorem dX2_wiseGuess_24 : decode cX2_wiseGuess 24 = .ok (.iload 4, 2) := by decide +kernel
theorem dX2_wiseGuess_26 : decode cX2_wiseGuess 26 = .ok (.invokevirtual 105, 3) := by decide +kernel
theorem dX2_wiseGuess_29 : decode cX2_wiseGuess 29 = .ok (.iadd, 1) := by decide +kernel
theorem dX2_wiseGuess_30 : decode cX2_wiseGuess 30 = .ok (.invokevirtual 108, 3) := by decide +kernel
theorem dX2_wiseGuess_33 : decode cX2_wiseGuess 33 = .ok (.iload 4, 2) := by decide +kernel
theorem dX2_wiseGuess_35 : decode cX2_wiseGuess 35 = .ok (.if_icmp .le 6, 3) := by decide +kernel
theorem dX2_wiseGuess_38 : decode cX2_wiseGuess 38 = .ok (.iload 4, 2) := by decide +kernel
theorem dX2_wiseGuess_40 : decode cX2_wiseGuess 40 = .ok (.istore_n 2, 1) := by decide +kernel
theorem dX2_wiseGuess_41 : decode cX2_wiseGuess 41 = .ok (.iload_n 3, 1) := by decide +kernel
theorem dX2_wiseGuess_42 : decode cX2_wiseGuess 42 = .ok (.iconst 2, 1) := by decide +kernel
theorem dX2_wiseGuess_43 : decode cX2_wiseGuess 43 = .ok (.idiv, 1) := by decide +kernel
theorem dX2_wiseGuess_44 : decode cX2_wiseGuess 44 = .ok (.istore_n 3, 1) := by decide +kernel
theorem dX2_wiseGuess_45 : decode cX2_wiseGuess 45 = .ok (.goto (-40), 3) := by decide +kernel
theorem dX2_wiseGuess_48 : decode cX2_wiseGuess 48 = .ok (.iload_n 2, 1) := by decide +kernel
theorem dX2_wiseGuess_49 : decode cX2_wiseGuess 49 = .ok (.iconst 1, 1) := by decide +kernel
theorem dX2_wiseGuess_50 : decode cX2_wiseGuess 50 = .ok (.iadd, 1) := by decide +kernel
theorem dX2_wiseGuess_51 : decode cX2_wiseGuess 51 = .ok (.istore_n 3, 1) := by decide +kernel
theorem dX2_wiseGuess_52 : decode cX2_wiseGuess 52 = .ok (.iload_n 2, 1) := by decide +kernel
theorem dX2_wiseGuess_53 : decode cX2_wiseGuess 53 = .ok (.ifCond .ge 5, 3) := by decide +kernel
theorem dX2_wiseGuess_56 : decode cX2_wiseGuess 56 = .ok (.iload_n 3, 1) := by decide +kernel
theorem dX2_wiseGuess_57 : decode cX2_wiseGuess 57 = .ok (.ireturn, 1) := by decide +kernel
theorem dX2_wiseGuess_58 : decode cX2_wiseGuess 58 = .ok (.aload_n 0, 1) := by decide +kernel
theorem dX2_wiseGuess_59 : decode cX2_wiseGuess 59 = .ok (.iload_n 1, 1) := by decide +kernel
theorem dX2_wiseGuess_60 : decode cX2_wiseGuess 60 = .ok (.aload_n 0, 1) := by decide +kernel
theorem dX2_wiseGuess_61 : decode cX2_wiseGuess 61 = .ok (.iload_n 2, 1) := by decide +kernel
theorem dX2_wiseGuess_62 : decode cX2_wiseGuess 62 = .ok (.invokevirtual 105, 3) := by decide +kernel
theorem dX2_wiseGuess_65 : decode cX2_wiseGuess 65 = .ok (.iadd, 1) := by decide +kernel
theorem dX2_wiseGuess_66 : decode cX2_wiseGuess 66 = .ok (.invokevirtual 108, 3) := by decide +kernel
theorem dX2_wiseGuess_69 : decode cX2_wiseGuess 69 = .ok (.iload_n 2, 1) := by decide +kernel
theorem dX2_wiseGuess_70 : decode cX2_wiseGuess 70 = .ok (.isub, 1) := by decide +kernel
theorem dX2_wiseGuess_71 : decode cX2_wiseGuess 71 = .ok (.istore 4, 2) := by decide +kernel
theorem dX2_wiseGuess_73 : decode cX2_wiseGuess 73 = .ok (.iload_n 3, 1) := by decide +kernel
theorem dX2_wiseGuess_74 : decode cX2_wiseGuess 74 = .ok (.aload_n 0, 1) := by decide +kernel
theorem dX2_wiseGuess_75 : decode cX2_wiseGuess 75 = .ok (.iload_n 1, 1) := by decide +kernel
theorem dX2_wiseGuess_76 : decode cX2_wiseGuess 76 = .ok (.aload_n 0, 1) := by decide +kernel
theorem dX2_wiseGuess_77 : decode cX2_wiseGuess 77 = .ok (.iload_n 3, 1) := by decide +kernel
theorem dX2_wiseGuess_78 : decode cX2_wiseGuess 78 = .ok (.invokevirtual 105, 3) := by decide +kernel
theorem dX2_wiseGuess_81 : decode cX2_wiseGuess 81 = .ok (.iadd, 1) := by decide +kernel
theorem dX2_wiseGuess_82 : decode cX2_wiseGuess 82 = .ok (.invokevirtual 108, 3) := by decide +kernel
theorem dX2_wiseGuess_85 : decode cX2_wiseGuess 85 = .ok (.isub, 1) := by decide +kernel
theorem dX2_wiseGuess_86 : decode cX2_wiseGuess 86 = .ok (.istore 5, 2) := by decide +kernel
theorem dX2_wiseGuess_88 : decode cX2_wiseGuess 88 = .ok (.iload 5, 2) := by decide +kernel
theorem dX2_wiseGuess_90 : decode cX2_wiseGuess 90 = .ok (.ifCond .eq 10, 3) := by decide +kernel
theorem dX2_wiseGuess_93 : decode cX2_wiseGuess 93 = .ok (.iload 5, 2) := by decide +kernel
theorem dX2_wiseGuess_95 : decode cX2_wiseGuess 95 = .ok (.iload 4, 2) := by decide +kernel
theorem dX2_wiseGuess_97 : decode cX2_wiseGuess 97 = .ok (.if_icmp .ge 7, 3) := by decide +kernel
theorem dX2_wiseGuess_100 : decode cX2_wiseGuess 100 = .ok (.iload_n 3, 1) := by decide +kernel
theorem dX2_wiseGuess_101 : decode cX2_wiseGuess 101 = .ok (.goto 4, 3) := by decide +kernel
theorem dX2_wiseGuess_104 : decode cX2_wiseGuess 104 = .ok (.iload_n 2, 1) := by decide +kernel
theorem dX2_wiseGuess_105 : decode cX2_wiseGuess 105 = .ok (.ireturn, 1) := by decide +kernel
theorem dX2_hasWise_0 : decode cX2_hasWise 0 = .ok (.iconst 0, 1) := by decide +kernel
theorem dX2_hasWise_1 : decode cX2_hasWise 1 = .ok (.istore_n 1, 1) := by decide +kernel
theorem dX2_hasWise_2 : decode cX2_hasWise 2 = .ok (.iload_n 1, 1) := by decide +kernel
theorem dX2_hasWise_3 : decode cX2_hasWise 3 = .ok (.aload_n 0, 1) := by decide +kernel
theorem dX2_hasWise_4 : decode cX2_hasWise 4 = .ok (.getfield 24, 3) := by decide +kernel
theorem dX2_hasWise_7 : decode cX2_hasWise 7 = .ok (.if_icmp .ge 46, 3) := by decide +kernel
theorem dX2_hasWise_10 : decode cX2_hasWise 10 = .ok (.iload_n 1, 1) := by decide +kernel
theorem dX2_hasWise_11 : decode cX2_hasWise 11 = .ok (.aload_n 0, 1) := by decide +kernel
theorem dX2_hasWise_12 : decode cX2_hasWise 12 = .ok (.getfield 11, 3) := by decide +kernel
theorem dX2_hasWise_15 : decode cX2_hasWise 15 = .ok (.arraylength, 1) := by decide +kernel
theorem dX2_hasWise_16 : decode cX2_hasWise 16 = .ok (.if_icmp .ge 37, 3) := by decide +kernel
theorem dX2_hasWise_19 : decode cX2_hasWise 19 = .ok (.aload_n 0, 1) := by decide +kernel
theorem dX2_hasWise_20 : decode cX2_hasWise 20 = .ok (.getfield 11, 3) := by decide +kernel
theorem dX2_hasWise_23 : decode cX2_hasWise 23 = .ok (.iload_n 1, 1) := by decide +kernel
theorem dX2_hasWise_24 : decode cX2_hasWise 24 = .ok (.aaload, 1) := by decide +kernel
theorem dX2_hasWise_25 : decode cX2_hasWise 25 = .ok (.getfield 70, 3) := by decide +kernel
theorem dX2_hasWise_28 : decode cX2_hasWise 28 = .ok (.ifCond .ne 19, 3) := by decide +kernel
theorem dX2_hasWise_31 : decode cX2_hasWise 31 = .ok (.aload_n 0, 1) := by decide +kernel
theorem dX2_hasWise_32 : decode cX2_hasWise 32 = .ok (.getfield 11, 3) := by decide +kernel
theorem dX2_hasWise_35 : decode cX2_hasWise 35 = .ok (.iload_n 1, 1) := by decide +kernel
theorem dX2_hasWise_36 : decode cX2_hasWise 36 = .ok (.aaload, 1) := by decide +kernel
theorem dX2_hasWise_37 : decode cX2_hasWise 37 = .ok (.getfield 87, 3) := by decide +kernel
theorem dX2_hasWise_40 : decode cX2_hasWise 40 = .ok (.bipush 6, 2) := by decide +kernel
theorem dX2_hasWise_42 : decode cX2_hasWise 42 = .ok (.if_icmp .ne 5, 3) := by decide +kernel
theorem dX2_hasWise_45 : decode cX2_hasWise 45 = .ok (.iconst 1, 1) := by decide +kernel
theorem dX2_hasWise_46 : decode cX2_hasWise 46 = .ok (.ireturn, 1) := by decide +kernel
theorem dX2_hasWise_47 : decode cX2_hasWise 47 = .ok (.iinc 1 1, 3) := by decide +kernel
theorem dX2_hasWise_50 : decode cX2_hasWise 50 = .ok (.goto (-48), 3) := by decide +kernel
theorem dX2_hasWise_53 : decode cX2_hasWise 53 = .ok (.iconst 0, 1) := by decide +kernel
theorem dX2_hasWise_54 : decode cX2_hasWise 54 = .ok (.ireturn, 1) := by decide +kernel
set_option maxRecDepth 20000 in
theorem ggX2_bringUnwise_X9_guessBy : GoodIn wsX2_bringUnwise wsX9_guessBy := goodIn_r _ [15, 16, 17, 18, 19, 20, 21, 22, 23, 24, 14, 25] (by decide +kernel) (by decide +kernel)
set_option maxRecDepth 20000 in
theorem gX2_bringUnwise_X9_guessBy : GoodIn wsX2_bringUnwise (va_wsS RX2 101 yX9_guessBy wsX9_guessBy) := goodIn_app (goodIn_of _ (by decide +kernel)) ggX2_bringUnwise_X9_guessBy
set_option maxRecDepth 20000 in
theorem ggX2_bringUnwise_X1_pigsBy : GoodIn wsX2_bringUnwise wsX1_pigsBy := goodIn_r _ [30, 31, 32, 45, 46, 47, 48, 49, 50, 51, 52, 53] (by decide +kernel) (by decide +kernel)
set_option maxRecDepth 20000 in
theorem gX2_bringUnwise_X1_pigsBy : GoodIn wsX2_bringUnwise (wsV RX2 111 RX1 yX1_pigsBy wsX1_pigsBy) := goodIn_app (goodIn_of _ (by decide +kernel)) ggX2_bringUnwise_X1_pigsBy
theorem dX2_bringUnwise_0 : decode cX2_bringUnwise 0 = .ok (.iconst 0, 1) := by decide +kernel
theorem dX2_bringUnwise_1 : decode cX2_bringUnwise 1 = .ok (.istore_n 1, 1) := by decide +kernel
theorem dX2_bringUnwise_2 : decode cX2_bringUnwise 2 = .ok (.iconst 0, 1) := by decide +kernel
