set_option maxRecDepth 20000 in
theorem wsL_in1 : GoodIn lw_tbl wsL_law_r1 := goodIn_p wsL_law_r1 [82, 85] (by decide +kernel) (by decide +kernel)
set_option maxRecDepth 20000 in
theorem wsL_in2 : GoodIn lw_tbl wsL_law_r2 := goodIn_p wsL_law_r2 [92] (by decide +kernel) (by decide +kernel)
set_option maxRecDepth 20000 in
theorem wsL_in3 : GoodIn lw_tbl wsL_law_r3 := goodIn_p wsL_law_r3 [108, 139, 145] (by decide +kernel) (by decide +kernel)
set_option maxRecDepth 20000 in
theorem wsL_in4 : GoodIn lw_tbl wsL_law_r4 := goodIn_p wsL_law_r4 [153] (by decide +kernel) (by decide +kernel)
set_option maxRecDepth 20000 in
theorem wsL_in5 : GoodIn lw_tbl wsL_law_r5 := goodIn_p wsL_law_r5 [177, 306] (by decide +kernel) (by decide +kernel)
set_option maxRecDepth 20000 in
theorem wsL_in6 : GoodIn lw_tbl wsL_law_r6 := goodIn_p wsL_law_r6 [335, 889] (by decide +kernel) (by decide +kernel)
set_option maxRecDepth 20000 in
theorem wsL_in7 : GoodIn lw_tbl wsL_law_r7 := goodIn_p wsL_law_r7 [388, 392, 397, 402] (by decide +kernel) (by decide +kernel)
set_option maxRecDepth 20000 in
theorem wsL_in8 : GoodIn lw_tbl wsL_law_r8 := goodIn_p wsL_law_r8 [405, 409, 1000, 1003, 1007] (by decide +kernel) (by decide +kernel)
set_option maxRecDepth 20000 in
theorem wsL_in9 : GoodIn lw_tbl wsL_law_r9 := goodIn_p wsL_law_r9 [1013, 413, 417, 421, 1018, 425] (by decide +kernel) (by decide +kernel)
set_option maxRecDepth 20000 in
theorem wsL_in10 : GoodIn lw_tbl wsL_law_r10 := goodIn_p wsL_law_r10 [1022, 432, 1026, 436] (by decide +kernel) (by decide +kernel)
set_option maxRecDepth 20000 in
theorem wsL_in11 : GoodIn lw_tbl wsL_law_r11 := goodIn_p wsL_law_r11 [440, 445, 1030, 449] (by decide +kernel) (by decide +kernel)
set_option maxRecDepth 20000 in
theorem wsL_in12 : GoodIn lw_tbl wsL_law_r12 := goodIn_p wsL_law_r12 [453, 457, 461, 465, 469] (by decide +kernel) (by decide +kernel)
set_option maxRecDepth 20000 in
theorem wsL_in13 : GoodIn lw_tbl wsL_law_r13 := goodIn_p wsL_law_r13 [474, 478, 482, 485, 489] (by decide +kernel) (by decide +kernel)
set_option maxRecDepth 20000 in
theorem wsL_in14 : GoodIn lw_tbl wsL_law_r14 := goodIn_p wsL_law_r14 [493, 497, 503, 507, 510, 513] (by decide +kernel) (by decide +kernel)
set_option maxRecDepth 20000 in
theorem wsL_in15 : GoodIn lw_tbl wsL_law_r15 := goodIn_p wsL_law_r15 [518, 521, 524, 527, 531] (by decide +kernel) (by decide +kernel)
set_option maxRecDepth 20000 in
theorem wsL_in16 : GoodIn lw_tbl wsL_law_r16 := goodIn_p wsL_law_r16 [541, 549, 553, 557, 566] (by decide +kernel) (by decide +kernel)
set_option maxRecDepth 20000 in
theorem wsL_in17 : GoodIn lw_tbl wsL_law_r17 := goodIn_p wsL_law_r17 [571, 575, 579] (by decide +kernel) (by decide +kernel)
set_option maxRecDepth 20000 in
theorem wsL_in18 : GoodIn lw_tbl wsL_law_r18 := goodIn_p wsL_law_r18 [1037, 1041] (by decide +kernel) (by decide +kernel)
set_option maxRecDepth 20000 in
theorem wsL_in19 : GoodIn lw_tbl wsL_law_r19 := goodIn_p wsL_law_r19 [1045, 1049, 1052, 1056, 1061, 1065] (by decide +kernel) (by decide +kernel)
set_option maxRecDepth 20000 in
theorem wsL_in20 : GoodIn lw_tbl wsL_law_r20 := goodIn_p wsL_law_r20 [1069, 1073, 1078, 1083] (by decide +kernel) (by decide +kernel)
set_option maxRecDepth 20000 in
theorem wsL_in21 : GoodIn lw_tbl wsL_law_r21 := goodIn_p wsL_law_r21 [594, 1095, 598, 602] (by decide +kernel) (by decide +kernel)
set_option maxRecDepth 20000 in
theorem wsL_in22 : GoodIn lw_tbl wsL_law_r22 := goodIn_p wsL_law_r22 [606, 610, 614, 617, 623, 626] (by decide +kernel) (by decide +kernel)
set_option maxRecDepth 20000 in
theorem wsL_in23 : GoodIn lw_tbl wsL_law_r23 := goodIn_p wsL_law_r23 [620, 630, 634, 638, 642] (by decide +kernel) (by decide +kernel)
set_option maxRecDepth 20000 in
theorem wsL_in24 : GoodIn lw_tbl wsL_law_r24 := goodIn_p wsL_law_r24 [1099, 1103, 1107, 1111, 1115, 1119] (by decide +kernel) (by decide +kernel)
set_option maxRecDepth 20000 in
theorem wsL_in25 : GoodIn lw_tbl wsL_law_r25 := goodIn_p wsL_law_r25 [1123, 1126, 1129, 1133, 1137, 648] (by decide +kernel) (by decide +kernel)
set_option maxRecDepth 20000 in
theorem wsL_in26 : GoodIn lw_tbl wsL_law_r26 := goodIn_p wsL_law_r26 [1141, 653, 1147, 658, 662] (by decide +kernel) (by decide +kernel)
set_option maxRecDepth 20000 in
theorem wsL_in27 : GoodIn lw_tbl wsL_law_r27 := goodIn_p wsL_law_r27 [666, 670, 675, 679, 683, 1151] (by decide +kernel) (by decide +kernel)
set_option maxRecDepth 20000 in
theorem wsL_in28 : GoodIn lw_tbl wsL_law_r28 := goodIn_p wsL_law_r28 [1156, 687, 1160, 691] (by decide +kernel) (by decide +kernel)
set_option maxRecDepth 20000 in
theorem wsL_in29 : GoodIn lw_tbl wsL_law_r29 := goodIn_p wsL_law_r29 [695, 710, 700, 703, 706, 1165] (by decide +kernel) (by decide +kernel)
set_option maxRecDepth 20000 in
theorem wsL_in30 : GoodIn lw_tbl wsL_law_r30 := goodIn_p wsL_law_r30 [1169, 1177, 1180, 714, 1184] (by decide +kernel) (by decide +kernel)
set_option maxRecDepth 20000 in
theorem wsL_in31 : GoodIn lw_tbl wsL_law_r31 := goodIn_p wsL_law_r31 [719, 723, 727, 731, 735] (by decide +kernel) (by decide +kernel)
set_option maxRecDepth 20000 in
theorem wsL_in32 : GoodIn lw_tbl wsL_law_r32 := goodIn_p wsL_law_r32 [740, 744, 749, 1188, 1192, 1196] (by decide +kernel) (by decide +kernel)
set_option maxRecDepth 20000 in
theorem wsL_in33 : GoodIn lw_tbl wsL_law_r33 := goodIn_p wsL_law_r33 [1200, 753, 757, 761, 1204] (by decide +kernel) (by decide +kernel)
set_option maxRecDepth 20000 in
theorem wsL_in34 : GoodIn lw_tbl wsL_law_r34 := goodIn_p wsL_law_r34 [766, 770, 1208, 774, 778] (by decide +kernel) (by decide +kernel)
set_option maxRecDepth 20000 in
theorem wsL_in35 : GoodIn lw_tbl wsL_law_r35 := goodIn_p wsL_law_r35 [782, 1212, 790, 793, 797, 800] (by decide +kernel) (by decide +kernel)
set_option maxRecDepth 20000 in
theorem wsL_in36 : GoodIn lw_tbl wsL_law_r36 := goodIn_p wsL_law_r36 [803, 1216, 808, 1221, 812] (by decide +kernel) (by decide +kernel)
set_option maxRecDepth 20000 in
theorem wsL_in37 : GoodIn lw_tbl wsL_law_r37 := goodIn_p wsL_law_r37 [815, 820, 1225, 1228, 824, 828] (by decide +kernel) (by decide +kernel)
set_option maxRecDepth 20000 in
theorem wsL_in38 : GoodIn lw_tbl wsL_law_r38 := goodIn_p wsL_law_r38 [832, 840, 845, 849, 1233] (by decide +kernel) (by decide +kernel)
set_option maxRecDepth 20000 in
theorem wsL_in39 : GoodIn lw_tbl wsL_law_r39 := goodIn_p wsL_law_r39 [1237, 1241, 1245, 1249, 853, 857] (by decide +kernel) (by decide +kernel)
set_option maxRecDepth 20000 in
theorem wsL_in40 : GoodIn lw_tbl wsL_law_r40 := goodIn_p wsL_law_r40 [1253, 862, 866, 870, 874] (by decide +kernel) (by decide +kernel)
set_option maxRecDepth 20000 in
theorem wsL_in41 : GoodIn lw_tbl wsL_law_r41 := goodIn_p wsL_law_r41 [877, 1257, 884, 1261] (by decide +kernel) (by decide +kernel)
set_option maxRecDepth 20000 in
theorem wsL_in_wsX100 : GoodIn lw_tbl wsX100 := goodIn_p wsX100 [] (by decide +kernel) (by decide +kernel)
set_option maxRecDepth 20000 in
theorem wsL_in_wsX110 : GoodIn lw_tbl wsX110 := goodIn_p wsX110 [] (by decide +kernel) (by decide +kernel)
set_option maxRecDepth 20000 in
theorem wsL_in_wsX70 : GoodIn lw_tbl wsX70 := goodIn_p wsX70 [] (by decide +kernel) (by decide +kernel)
set_option maxRecDepth 20000 in
theorem wsL_in_wsX40 : GoodIn lw_tbl wsX40 := goodIn_p wsX40 [] (by decide +kernel) (by decide +kernel)
set_option maxRecDepth 20000 in
theorem wsL_in_wsX80 : GoodIn lw_tbl wsX80 := goodIn_p wsX80 [] (by decide +kernel) (by decide +kernel)
set_option maxRecDepth 20000 in
theorem wsL_in_wsX00 : GoodIn lw_tbl wsX00 := goodIn_p wsX00 [] (by decide +kernel) (by decide +kernel)
set_option maxRecDepth 20000 in
theorem wsL_in_wsX20 : GoodIn lw_tbl wsX20 := goodIn_p wsX20 [] (by decide +kernel) (by decide +kernel)
set_option maxRecDepth 20000 in
theorem wsL_in_wsX60 : GoodIn lw_tbl wsX60 := goodIn_p wsX60 [] (by decide +kernel) (by decide +kernel)
set_option maxRecDepth 20000 in
theorem wsL_in_wsX30 : GoodIn lw_tbl wsX30 := goodIn_p wsX30 [] (by decide +kernel) (by decide +kernel)
set_option maxRecDepth 20000 in
theorem wsL_in_wsX10 : GoodIn lw_tbl wsX10 := goodIn_p wsX10 [] (by decide +kernel) (by decide +kernel)
theorem wsL_law_good : GoodIn lw_tbl wsL_law := goodIn_app (goodIn_app (goodIn_app (goodIn_app (goodIn_app (goodIn_app (goodIn_app (goodIn_app (goodIn_app (goodIn_app (goodIn_app ((goodIn_app wsL_in1 (goodIn_app wsL_in2 (goodIn_app wsL_in3 (goodIn_app wsL_in4 (goodIn_app wsL_in5 (goodIn_app wsL_in6 (goodIn_app wsL_in7 (goodIn_app wsL_in8 (goodIn_app wsL_in9 (goodIn_app wsL_in10 (goodIn_app wsL_in11 (goodIn_app wsL_in12 (goodIn_app wsL_in13 (goodIn_app wsL_in14 (goodIn_app wsL_in15 (goodIn_app wsL_in16 (goodIn_app wsL_in17 (goodIn_app wsL_in18 (goodIn_app wsL_in19 (goodIn_app wsL_in20 (goodIn_app wsL_in21 (goodIn_app wsL_in22 (goodIn_app wsL_in23 (goodIn_app wsL_in24 (goodIn_app wsL_in25 (goodIn_app wsL_in26 (goodIn_app wsL_in27 (goodIn_app wsL_in28 (goodIn_app wsL_in29 (goodIn_app wsL_in30 (goodIn_app wsL_in31 (goodIn_app wsL_in32 (goodIn_app wsL_in33 (goodIn_app wsL_in34 (goodIn_app wsL_in35 (goodIn_app wsL_in36 (goodIn_app wsL_in37 (goodIn_app wsL_in38 (goodIn_app wsL_in39 (goodIn_app wsL_in40 (wsL_in41)))))))))))))))))))))))))))))))))))))))))) wsL_in_wsX100) wsL_in_wsX110) wsL_in_wsX70) wsL_in_wsX40) wsL_in_wsX80) wsL_in_wsX00) wsL_in_wsX20) wsL_in_wsX60) wsL_in_wsX30) wsL_in_wsX10) (fun w h => by cases h)
theorem wsL_law_in : ∀ w ∈ wsL_law, w ∈ lw_tbl := fun w h => (wsL_law_good w h).1
