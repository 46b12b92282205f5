theorem inlX0 : ∀ w ∈ wsX00, w ∈ wsL_law := fun _ h => List.mem_append_left _ (List.mem_append_left _ (List.mem_append_left _ (List.mem_append_left _ (List.mem_append_left _ (List.mem_append_right _ h)))))
theorem inX0 : ∀ w ∈ wsX00, w ∈ lw_tbl := fun w h => wsL_law_in w (inlX0 w h)
theorem inlX1 : ∀ w ∈ wsX10, w ∈ wsL_law := fun _ h => List.mem_append_left _ (List.mem_append_right _ h)
theorem inX1 : ∀ w ∈ wsX10, w ∈ lw_tbl := fun w h => wsL_law_in w (inlX1 w h)
theorem inlX2 : ∀ w ∈ wsX20, w ∈ wsL_law := fun _ h => List.mem_append_left _ (List.mem_append_left _ (List.mem_append_left _ (List.mem_append_left _ (List.mem_append_right _ h))))
theorem inX2 : ∀ w ∈ wsX20, w ∈ lw_tbl := fun w h => wsL_law_in w (inlX2 w h)
theorem inlX3 : ∀ w ∈ wsX30, w ∈ wsL_law := fun _ h => List.mem_append_left _ (List.mem_append_left _ (List.mem_append_right _ h))
theorem inX3 : ∀ w ∈ wsX30, w ∈ lw_tbl := fun w h => wsL_law_in w (inlX3 w h)
theorem inlX4 : ∀ w ∈ wsX40, w ∈ wsL_law := fun _ h => List.mem_append_left _ (List.mem_append_left _ (List.mem_append_left _ (List.mem_append_left _ (List.mem_append_left _ (List.mem_append_left _ (List.mem_append_left _ (List.mem_append_right _ h)))))))
theorem inX4 : ∀ w ∈ wsX40, w ∈ lw_tbl := fun w h => wsL_law_in w (inlX4 w h)
theorem inX5 : ∀ w ∈ wsX50, w ∈ lw_tbl := by decide +kernel
theorem inlX6 : ∀ w ∈ wsX60, w ∈ wsL_law := fun _ h => List.mem_append_left _ (List.mem_append_left _ (List.mem_append_left _ (List.mem_append_right _ h)))
theorem inX6 : ∀ w ∈ wsX60, w ∈ lw_tbl := fun w h => wsL_law_in w (inlX6 w h)
theorem inlX7 : ∀ w ∈ wsX70, w ∈ wsL_law := fun _ h => List.mem_append_left _ (List.mem_append_left _ (List.mem_append_left _ (List.mem_append_left _ (List.mem_append_left _ (List.mem_append_left _ (List.mem_append_left _ (List.mem_append_left _ (List.mem_append_right _ h))))))))
theorem inX7 : ∀ w ∈ wsX70, w ∈ lw_tbl := fun w h => wsL_law_in w (inlX7 w h)
theorem inlX8 : ∀ w ∈ wsX80, w ∈ wsL_law := fun _ h => List.mem_append_left _ (List.mem_append_left _ (List.mem_append_left _ (List.mem_append_left _ (List.mem_append_left _ (List.mem_append_left _ (List.mem_append_right _ h))))))
theorem inX8 : ∀ w ∈ wsX80, w ∈ lw_tbl := fun w h => wsL_law_in w (inlX8 w h)
theorem inX9 : ∀ w ∈ wsX90, w ∈ lw_tbl := by decide +kernel
theorem inlX10 : ∀ w ∈ wsX100, w ∈ wsL_law := fun _ h => List.mem_append_left _ (List.mem_append_left _ (List.mem_append_left _ (List.mem_append_left _ (List.mem_append_left _ (List.mem_append_left _ (List.mem_append_left _ (List.mem_append_left _ (List.mem_append_left _ (List.mem_append_left _ (List.mem_append_right _ h))))))))))
theorem inX10 : ∀ w ∈ wsX100, w ∈ lw_tbl := fun w h => wsL_law_in w (inlX10 w h)
theorem inlX11 : ∀ w ∈ wsX110, w ∈ wsL_law := fun _ h => List.mem_append_left _ (List.mem_append_left _ (List.mem_append_left _ (List.mem_append_left _ (List.mem_append_left _ (List.mem_append_left _ (List.mem_append_left _ (List.mem_append_left _ (List.mem_append_left _ (List.mem_append_right _ h)))))))))
theorem inX11 : ∀ w ∈ wsX110, w ∈ lw_tbl := fun w h => wsL_law_in w (inlX11 w h)
theorem inJ6 : ∀ w ∈ wsJ60, w ∈ lw_tbl := by decide +kernel
theorem inJ9 : ∀ w ∈ wsJ90, w ∈ lw_tbl := by decide +kernel
theorem inJ0 : ∀ w ∈ wsJ00, w ∈ lw_tbl := by decide +kernel
theorem inJ1 : ∀ w ∈ wsJ10, w ∈ lw_tbl := by decide +kernel
theorem inJ2 : ∀ w ∈ wsJ20, w ∈ lw_tbl := by decide +kernel
theorem inJ10 : ∀ w ∈ wsJ100, w ∈ lw_tbl := by decide +kernel
theorem inJ7 : ∀ w ∈ wsJ70, w ∈ lw_tbl := by decide +kernel
theorem inJ3 : ∀ w ∈ wsJ30, w ∈ lw_tbl := by decide +kernel
set_option maxRecDepth 20000 in
theorem ggL_law_X10_init : GoodIn wsL_law wsX10_init := goodIn_r _ [9, 10, 11, 12, 13, 14, 15, 16, 17, 18, 19, 20, 21, 22, 23, 24, 25, 26, 27, 28, 29, 30, 31, 32, 33, 34, 35, 36, 37, 38, 39, 40, 41, 42, 43, 44, 45, 46, 47, 48, 49, 50, 51, 52, 53, 54, 55, 56, 57, 58, 59, 60, 61, 62, 63, 64, 65, 66, 67, 68, 69, 70, 71, 72, 73, 74, 75, 76, 77, 78, 79, 80, 81, 82, 83, 84, 85, 86, 87, 88, 89, 90, 91, 92, 93, 94, 95, 96, 97, 98, 99, 100, 101, 102, 103, 104, 105, 106, 107, 108, 109, 110, 111, 112, 113, 114, 115, 116, 117, 118, 119, 120, 121, 122, 123, 124, 125, 126, 127, 976, 977, 978, 979, 980, 981, 982, 983, 984, 985, 1021, 1022, 1023, 1024, 1025, 1026, 1027, 1028, 1029, 1030, 1031, 1032, 1033, 1034, 1035, 1036, 1037, 1038, 1039, 1040, 1041, 1042, 1043, 1044, 1045, 1046, 1047, 1048, 1049, 1050, 1051, 1052, 1053, 1054, 1055, 1056, 1057, 1058, 1059, 1060, 1061, 1062, 1063, 1064, 1065, 1066, 1067, 1068, 1069, 1070] (by decide +kernel) (by decide +kernel)
set_option maxRecDepth 20000 in
theorem gL_law_X10_init : GoodIn wsL_law (wsX10_init) := ggL_law_X10_init
set_option maxRecDepth 20000 in
theorem ggL_law_X11_init : GoodIn wsL_law wsX11_init := goodIn_r _ [130, 131, 11, 12, 51, 132, 133, 134, 135, 136, 137, 138, 139, 140, 141, 142, 143, 144, 145, 146, 147, 986, 987, 988, 989, 990, 991, 992, 993, 994, 995, 996, 997, 998, 999, 1000, 1001, 1002, 1003, 1004, 1005, 1006, 1007, 1008, 1009, 1010, 1011, 1012, 1013, 1014, 1015, 1016, 1017, 1018, 1019, 1020] (by decide +kernel) (by decide +kernel)
set_option maxRecDepth 20000 in
theorem gL_law_X11_init : GoodIn wsL_law (wsX11_init) := ggL_law_X11_init
set_option maxRecDepth 20000 in
theorem ggL_law_X10_sheet : GoodIn wsL_law wsX10_sheet := goodIn_r _ [151, 152, 14, 153, 154, 155, 2, 156, 157, 158, 159, 160, 38, 161, 162, 163, 164, 40, 165, 125, 126, 127, 124, 166, 167, 168, 169, 170, 171, 172, 173, 976, 977, 978, 979, 980, 981, 982, 983, 984, 985, 1053, 1054, 1055, 1056] (by decide +kernel) (by decide +kernel)
set_option maxRecDepth 20000 in
theorem gL_law_X10_sheet : GoodIn wsL_law (wsV RL 13 RX10 yX10_sheet wsX10_sheet) := goodIn_app (goodIn_of _ (by decide +kernel)) ggL_law_X10_sheet
set_option maxRecDepth 20000 in
theorem ggL_law_X11_sheet : GoodIn wsL_law wsX11_sheet := goodIn_r _ [177, 178, 179, 180, 181, 132, 133, 134, 182, 183, 5, 184, 185, 186, 187, 188, 189, 190, 191, 192, 193, 986, 987, 988, 989, 990, 991, 992, 993, 994, 995, 996, 997, 998, 999, 1000, 1001, 1002, 1003, 1004, 1005, 1006, 1007, 1008, 1009, 1010, 1011, 1012, 1013, 1014, 1015, 1016, 1017, 1018, 1019, 1020] (by decide +kernel) (by decide +kernel)
set_option maxRecDepth 20000 in
theorem gL_law_X11_sheet : GoodIn wsL_law (wsV RL 17 RX11 yX11_sheet wsX11_sheet) := goodIn_app (goodIn_of _ (by decide +kernel)) ggL_law_X11_sheet
set_option maxRecDepth 20000 in
theorem ggL_law_X10_set : GoodIn wsL_law wsX10_set := goodIn_r _ [197, 152, 14, 198, 199, 153, 154, 155, 2, 156, 157, 158, 159, 160, 38, 161, 200, 201, 202, 40, 203, 127, 204, 205, 206, 207, 126, 170, 171, 172, 173, 976, 977, 978, 979, 980, 981, 982, 983, 984, 985, 1053, 1054, 1055, 1056] (by decide +kernel) (by decide +kernel)
set_option maxRecDepth 20000 in
theorem gL_law_X10_set : GoodIn wsL_law (wsV RL 18 RX10 yX10_set wsX10_set) := goodIn_app (goodIn_of _ (by decide +kernel)) ggL_law_X10_set
set_option maxRecDepth 20000 in
theorem ggL_law_X11_set : GoodIn wsL_law wsX11_set := goodIn_r _ [211, 178, 180, 181, 132, 133, 134, 182, 183, 5, 184, 185, 186, 187, 188, 189, 190, 191, 192, 193, 986, 987, 988, 989, 990, 991, 992, 993, 994, 995, 996, 997, 998, 999, 1000, 1001, 1002, 1003, 1004, 1005, 1006, 1007, 1008, 1009, 1010, 1011, 1012, 1013, 1014, 1015, 1016, 1017, 1018, 1019, 1020] (by decide +kernel) (by decide +kernel)
set_option maxRecDepth 20000 in
theorem gL_law_X11_set : GoodIn wsL_law (wsV RL 21 RX11 yX11_set wsX11_set) := goodIn_app (goodIn_of _ (by decide +kernel)) ggL_law_X11_set
set_option maxRecDepth 20000 in
theorem ggL_law_X10_copy : GoodIn wsL_law wsX10_copy := goodIn_r _ [215, 152, 14, 198, 216, 199, 217, 218, 219, 220, 153, 154, 155, 2, 156, 157, 158, 159, 160, 38, 161, 200, 201, 202, 40, 203, 127, 170, 171, 172, 173, 976, 977, 978, 979, 980, 981, 982, 983, 984, 985, 1053, 1054, 1055, 1056] (by decide +kernel) (by decide +kernel)
set_option maxRecDepth 20000 in
theorem gL_law_X10_copy : GoodIn wsL_law (wsV RL 22 RX10 yX10_copy wsX10_copy) := goodIn_app (goodIn_of _ (by decide +kernel)) ggL_law_X10_copy
set_option maxRecDepth 20000 in
theorem ggL_law_X11_copy : GoodIn wsL_law wsX11_copy := goodIn_r _ [224, 178, 180, 181, 132, 133, 134, 182, 183, 5, 184, 185, 186, 187, 188, 189, 190, 191, 192, 193, 986, 987, 988, 989, 990, 991, 992, 993, 994, 995, 996, 997, 998, 999, 1000, 1001, 1002, 1003, 1004, 1005, 1006, 1007, 1008, 1009, 1010, 1011, 1012, 1013, 1014, 1015, 1016, 1017, 1018, 1019, 1020] (by decide +kernel) (by decide +kernel)
set_option maxRecDepth 20000 in
theorem gL_law_X11_copy : GoodIn wsL_law (wsV RL 26 RX11 yX11_copy wsX11_copy) := goodIn_app (goodIn_of _ (by decide +kernel)) ggL_law_X11_copy
set_option maxRecDepth 20000 in
theorem ggL_law_X10_drop : GoodIn wsL_law wsX10_drop := goodIn_r _ [228, 152, 14, 198, 229, 153, 154, 155, 2, 156, 157, 158, 159, 160, 38, 161, 170, 171, 172, 173, 976, 977, 978, 979, 980, 981, 982, 983, 984, 985, 1053, 1054, 1055, 1056] (by decide +kernel) (by decide +kernel)
set_option maxRecDepth 20000 in
theorem gL_law_X10_drop : GoodIn wsL_law (wsV RL 27 RX10 yX10_drop wsX10_drop) := goodIn_app (goodIn_of _ (by decide +kernel)) ggL_law_X10_drop
set_option maxRecDepth 20000 in
theorem ggL_law_X11_drop : GoodIn wsL_law wsX11_drop := goodIn_r _ [233, 178, 180, 181, 132, 133, 182, 183, 5, 184, 185, 186, 187, 188, 189, 190, 191, 192, 193, 986, 987, 988, 989, 990, 991, 992, 993, 994, 995, 996, 997, 998, 999, 1000, 1001, 1002, 1003, 1004, 1005, 1006, 1007, 1008, 1009, 1010, 1011, 1012, 1013, 1014, 1015, 1016, 1017, 1018, 1019, 1020] (by decide +kernel) (by decide +kernel)
set_option maxRecDepth 20000 in
theorem gL_law_X11_drop : GoodIn wsL_law (wsV RL 31 RX11 yX11_drop wsX11_drop) := goodIn_app (goodIn_of _ (by decide +kernel)) ggL_law_X11_drop
set_option maxRecDepth 20000 in
theorem ggL_law_X10_feed : GoodIn wsL_law wsX10_feed := goodIn_r _ [237, 152, 18, 238, 239, 240, 241, 242, 17, 243, 45, 46, 244, 245, 246, 247, 976, 977, 978, 979, 980, 981, 982, 983, 984, 985, 1021, 1022] (by decide +kernel) (by decide +kernel)
set_option maxRecDepth 20000 in
theorem gL_law_X10_feed : GoodIn wsL_law (wsV RL 34 RX10 yX10_feed wsX10_feed) := goodIn_app (goodIn_of _ (by decide +kernel)) ggL_law_X10_feed
set_option maxRecDepth 20000 in
theorem ggL_law_X11_feed : GoodIn wsL_law wsX11_feed := goodIn_r _ [251, 178, 252, 180, 253, 254, 143, 255, 186, 187, 5, 188, 986, 987, 988, 989, 990, 991, 992, 993, 994, 995, 996, 997, 998, 999, 1000, 1001, 1002, 1003, 1004, 1005, 1006, 1007, 1008, 1009, 1010, 1011, 1012, 1013, 1014, 1015, 1016, 1017, 1018, 1019, 1020] (by decide +kernel) (by decide +kernel)
set_option maxRecDepth 20000 in
theorem gL_law_X11_feed : GoodIn wsL_law (wsV RL 38 RX11 yX11_feed wsX11_feed) := goodIn_app (goodIn_of _ (by decide +kernel)) ggL_law_X11_feed
set_option maxRecDepth 20000 in
theorem ggL_law_X10_land : GoodIn wsL_law wsX10_land := goodIn_r _ [259, 22, 35, 18, 239, 260, 37, 261, 262, 34, 36, 263, 264, 265, 266, 21, 267, 53, 57, 54, 268, 269, 270, 33, 271, 78, 86, 87, 77, 272, 273, 274, 76, 275, 93, 94, 95, 276, 277, 278, 279, 96, 97, 280, 281, 282, 283, 284, 285, 52, 286, 287, 288, 289, 290, 291, 292, 293, 294, 295, 296, 58, 297, 56, 55, 298, 299, 300, 17, 301, 46, 45, 302, 303, 304, 305, 306, 307, 308, 309, 310, 311, 312, 313, 314, 315, 316, 317, 318, 319, 320, 321, 322, 323, 324, 325, 326, 327, 328, 329, 330, 331, 332, 333, 334, 335, 336, 337, 338, 339, 340, 341, 342, 343, 344, 345, 346, 347, 348, 349, 350, 351, 352, 353, 354, 355, 356, 357, 358, 359, 360, 361, 362, 363, 364, 365, 366, 367, 368, 369, 370, 371, 372, 373, 374, 375, 376, 377, 378, 379, 380, 381, 382, 383, 384, 385, 386, 387, 388, 389, 390, 391, 392, 393, 394, 73, 395, 396, 397, 398, 399, 400, 401, 402, 403, 404, 405, 976, 977, 978, 979, 980, 981, 982, 983, 984, 985, 1021, 1022, 1023, 1024, 1025, 1026, 1027, 1028, 1029, 1041, 1042, 1043, 1044, 1045, 1046, 1047, 1048, 1049, 1050, 1051, 1052, 1057, 1058, 1059, 1060, 1061, 1062, 1063, 1064, 1065, 1066, 1067, 1068, 1069, 1070] (by decide +kernel) (by decide +kernel)
set_option maxRecDepth 20000 in
theorem gL_law_X10_land : GoodIn wsL_law (wsV RL 39 RX10 yX10_land wsX10_land) := goodIn_app (goodIn_of _ (by decide +kernel)) ggL_law_X10_land
set_option maxRecDepth 20000 in
theorem ggL_law_X11_land : GoodIn wsL_law wsX11_land := goodIn_r _ [409, 178, 253, 410, 411, 412, 413, 414, 137, 415, 138, 416, 417, 418, 419, 420, 421, 136, 139, 141, 185, 422, 140, 135, 423, 424, 425, 426, 427, 428, 429, 5, 430, 431, 432, 433, 434, 435, 436, 437, 143, 438, 439, 440, 441, 442, 443, 444, 445, 446, 447, 448, 449, 450, 451, 452, 453, 454, 455, 456, 457, 458, 459, 186, 187, 188, 460, 461, 462, 463, 464, 465, 466, 467, 468, 469, 470, 471, 472, 473, 474, 475, 476, 477, 478, 986, 987, 988, 989, 990, 991, 992, 993, 994, 995, 996, 997, 998, 999, 1000, 1001, 1002, 1003, 1004, 1005, 1006, 1007, 1008, 1009, 1010, 1011, 1012, 1013, 1014, 1015, 1016, 1017, 1018, 1019, 1020] (by decide +kernel) (by decide +kernel)
set_option maxRecDepth 20000 in
theorem gL_law_X11_land : GoodIn wsL_law (wsV RL 43 RX11 yX11_land wsX11_land) := goodIn_app (goodIn_of _ (by decide +kernel)) ggL_law_X11_land
set_option maxRecDepth 20000 in
theorem ggL_law_X10_fault : GoodIn wsL_law wsX10_fault := goodIn_r _ [482, 37, 976, 977, 978, 979, 980, 981, 982, 983, 984, 985] (by decide +kernel) (by decide +kernel)
set_option maxRecDepth 20000 in
theorem gL_law_X10_fault : GoodIn wsL_law (wsV RL 44 RX10 yX10_fault wsX10_fault) := goodIn_app (goodIn_of _ (by decide +kernel)) ggL_law_X10_fault
set_option maxRecDepth 20000 in
theorem ggL_law_X11_fault : GoodIn wsL_law wsX11_fault := goodIn_r _ [486, 178, 417, 986, 987, 988, 989, 990, 991, 992, 993, 994, 995, 996, 997, 998, 999, 1000, 1001, 1002, 1003, 1004, 1005, 1006, 1007, 1008, 1009, 1010, 1011, 1012, 1013, 1014, 1015, 1016, 1017, 1018, 1019, 1020] (by decide +kernel) (by decide +kernel)
set_option maxRecDepth 20000 in
theorem gL_law_X11_fault : GoodIn wsL_law (wsV RL 47 RX11 yX11_fault wsX11_fault) := goodIn_app (goodIn_of _ (by decide +kernel)) ggL_law_X11_fault
set_option maxRecDepth 20000 in
theorem ggL_law_X10_farmers : GoodIn wsL_law wsX10_farmers := goodIn_r _ [490, 152, 491, 492, 493, 494, 495, 496, 34, 497, 498, 499, 2, 500, 501, 502, 503, 33, 504, 78, 73, 505, 506, 507, 508, 509, 510, 82, 83, 84, 85, 511, 512, 513, 514, 395, 515, 516, 517, 518, 519, 520, 521, 522, 523, 524, 525, 526, 527, 528, 529, 530, 531, 532, 533, 89, 534, 104, 105, 535, 536, 537, 538, 539, 540, 541, 542, 543, 544, 545, 546, 80, 79, 547, 548, 1062, 1063, 1064, 1065, 1066, 1067, 1068, 1069, 1070, 976, 977, 978, 979, 980, 981, 982, 983, 984, 985, 1041, 1042, 1043, 1044, 1045, 1046, 1047, 1048, 1049, 1050, 1051, 1052] (by decide +kernel) (by decide +kernel)
set_option maxRecDepth 20000 in
theorem gL_law_X10_farmers : GoodIn wsL_law (wsV RL 48 RX10 yX10_farmers wsX10_farmers) := goodIn_app (goodIn_of _ (by decide +kernel)) ggL_law_X10_farmers
set_option maxRecDepth 20000 in
theorem ggL_law_X11_farmers : GoodIn wsL_law wsX11_farmers := goodIn_r _ [552, 178, 185, 180, 141, 553, 554, 555, 5, 556, 421, 186, 187, 188, 557, 558, 559, 560, 561, 562, 563, 564, 565, 566, 567, 568, 569, 570, 571, 572, 136, 573, 574, 575, 576, 423, 577, 578, 579, 580, 581, 582, 583, 584, 585, 586, 587, 588, 589, 590, 135, 986, 987, 988, 989, 990, 991, 992, 993, 994, 995, 996, 997, 998, 999, 1000, 1001, 1002, 1003, 1004, 1005, 1006, 1007, 1008, 1009, 1010, 1011, 1012, 1013, 1014, 1015, 1016, 1017, 1018, 1019, 1020] (by decide +kernel) (by decide +kernel)
set_option maxRecDepth 20000 in
theorem gL_law_X11_farmers : GoodIn wsL_law (wsV RL 52 RX11 yX11_farmers wsX11_farmers) := goodIn_app (goodIn_of _ (by decide +kernel)) ggL_law_X11_farmers
set_option maxRecDepth 20000 in
theorem ggL_law_X10_print : GoodIn wsL_law wsX10_print := goodIn_r _ [594, 152, 36, 595, 34, 596, 976, 977, 978, 979, 980, 981, 982, 983, 984, 985, 1041, 1042, 1043, 1044, 1045, 1046, 1047, 1048, 1049, 1050, 1051, 1052] (by decide +kernel) (by decide +kernel)
set_option maxRecDepth 20000 in
theorem gL_law_X10_print : GoodIn wsL_law (wsV RL 53 RX10 yX10_print wsX10_print) := goodIn_app (goodIn_of _ (by decide +kernel)) ggL_law_X10_print
set_option maxRecDepth 20000 in
theorem ggL_law_X11_print : GoodIn wsL_law wsX11_print := goodIn_r _ [600, 178, 601, 180, 420, 602, 423, 186, 187, 5, 188, 986, 987, 988, 989, 990, 991, 992, 993, 994, 995, 996, 997, 998, 999, 1000, 1001, 1002, 1003, 1004, 1005, 1006, 1007, 1008, 1009, 1010, 1011, 1012, 1013, 1014, 1015, 1016, 1017, 1018, 1019, 1020] (by decide +kernel) (by decide +kernel)
set_option maxRecDepth 20000 in
theorem gL_law_X11_print : GoodIn wsL_law (wsV RL 56 RX11 yX11_print wsX11_print) := goodIn_app (goodIn_of _ (by decide +kernel)) ggL_law_X11_print
set_option maxRecDepth 20000 in
theorem ggL_law_X10_ministry : GoodIn wsL_law wsX10_ministry := goodIn_r _ [606, 152, 36, 595, 34, 607, 608, 273, 274, 76, 275, 93, 94, 95, 976, 977, 978, 979, 980, 981, 982, 983, 984, 985, 1041, 1042, 1043, 1044, 1045, 1046, 1047, 1048, 1049, 1050, 1051, 1052, 1057, 1058, 1059, 1060, 1061] (by decide +kernel) (by decide +kernel)
set_option maxRecDepth 20000 in
theorem gL_law_X10_ministry : GoodIn wsL_law (wsV RL 57 RX10 yX10_ministry wsX10_ministry) := goodIn_app (goodIn_of _ (by decide +kernel)) ggL_law_X10_ministry
set_option maxRecDepth 20000 in
theorem ggL_law_X11_ministry : GoodIn wsL_law wsX11_ministry := goodIn_r _ [612, 178, 601, 180, 420, 602, 424, 425, 426, 186, 187, 5, 188, 986, 987, 988, 989, 990, 991, 992, 993, 994, 995, 996, 997, 998, 999, 1000, 1001, 1002, 1003, 1004, 1005, 1006, 1007, 1008, 1009, 1010, 1011, 1012, 1013, 1014, 1015, 1016, 1017, 1018, 1019, 1020] (by decide +kernel) (by decide +kernel)
set_option maxRecDepth 20000 in
theorem gL_law_X11_ministry : GoodIn wsL_law (wsV RL 60 RX11 yX11_ministry wsX11_ministry) := goodIn_app (goodIn_of _ (by decide +kernel)) ggL_law_X11_ministry
set_option maxRecDepth 20000 in
theorem ggL_law_X10_years : GoodIn wsL_law wsX10_years := goodIn_r _ [616, 152, 36, 595, 34, 617, 618, 619, 620, 33, 621, 86, 77, 81, 83, 84, 82, 87, 511, 512, 513, 514, 78, 73, 395, 509, 510, 85, 515, 516, 517, 518, 519, 520, 521, 522, 523, 524, 525, 526, 527, 528, 529, 530, 531, 532, 533, 89, 534, 104, 105, 622, 623, 624, 625, 535, 536, 537, 538, 539, 540, 541, 542, 543, 544, 545, 546, 80, 79, 547, 626, 627, 628, 76, 629, 95, 93, 630, 94, 96, 631, 632, 633, 634, 97, 635, 636, 637, 638, 639, 640, 641, 642, 107, 109, 106, 108, 976, 977, 978, 979, 980, 981, 982, 983, 984, 985, 1041, 1042, 1043, 1044, 1045, 1046, 1047, 1048, 1049, 1050, 1051, 1052, 1062, 1063, 1064, 1065, 1066, 1067, 1068, 1069, 1070, 1057, 1058, 1059, 1060, 1061] (by decide +kernel) (by decide +kernel)
set_option maxRecDepth 20000 in
theorem gL_law_X10_years : GoodIn wsL_law (wsV RL 61 RX10 yX10_years wsX10_years) := goodIn_app (goodIn_of _ (by decide +kernel)) ggL_law_X10_years
set_option maxRecDepth 20000 in
theorem ggL_law_X11_years : GoodIn wsL_law wsX11_years := goodIn_r _ [646, 178, 647, 180, 420, 602, 141, 186, 187, 5, 188, 648, 649, 650, 651, 421, 144, 426, 424, 425, 135, 557, 558, 559, 560, 561, 562, 563, 564, 565, 566, 567, 568, 569, 570, 571, 572, 136, 573, 574, 575, 576, 423, 577, 578, 579, 580, 581, 582, 583, 584, 585, 586, 587, 588, 589, 590, 986, 987, 988, 989, 990, 991, 992, 993, 994, 995, 996, 997, 998, 999, 1000, 1001, 1002, 1003, 1004, 1005, 1006, 1007, 1008, 1009, 1010, 1011, 1012, 1013, 1014, 1015, 1016, 1017, 1018, 1019, 1020] (by decide +kernel) (by decide +kernel)
set_option maxRecDepth 20000 in
theorem gL_law_X11_years : GoodIn wsL_law (wsV RL 64 RX11 yX11_years wsX11_years) := goodIn_app (goodIn_of _ (by decide +kernel)) ggL_law_X11_years
set_option maxRecDepth 20000 in
theorem ggL_law_X10_now : GoodIn wsL_law wsX10_now := goodIn_r _ [655, 152, 36, 595, 34, 617, 656, 657, 658, 607, 659, 660, 661, 976, 977, 978, 979, 980, 981, 982, 983, 984, 985, 1041, 1042, 1043, 1044, 1045, 1046, 1047, 1048, 1049, 1050, 1051, 1052, 1057, 1058, 1059, 1060, 1061] (by decide +kernel) (by decide +kernel)
set_option maxRecDepth 20000 in
theorem gL_law_X10_now : GoodIn wsL_law (wsV RL 65 RX10 yX10_now wsX10_now) := goodIn_app (goodIn_of _ (by decide +kernel)) ggL_law_X10_now
set_option maxRecDepth 20000 in
theorem ggL_law_X11_now : GoodIn wsL_law wsX11_now := goodIn_r _ [665, 178, 666, 180, 420, 141, 602, 186, 187, 5, 188, 986, 987, 988, 989, 990, 991, 992, 993, 994, 995, 996, 997, 998, 999, 1000, 1001, 1002, 1003, 1004, 1005, 1006, 1007, 1008, 1009, 1010, 1011, 1012, 1013, 1014, 1015, 1016, 1017, 1018, 1019, 1020] (by decide +kernel) (by decide +kernel)
set_option maxRecDepth 20000 in
theorem gL_law_X11_now : GoodIn wsL_law (wsV RL 68 RX11 yX11_now wsX11_now) := goodIn_app (goodIn_of _ (by decide +kernel)) ggL_law_X11_now
set_option maxRecDepth 20000 in
theorem ggL_law_X10_dies : GoodIn wsL_law wsX10_dies := goodIn_r _ [670, 36, 34, 671, 595, 672, 673, 674, 33, 675, 676, 78, 73, 395, 509, 677, 678, 679, 523, 680, 681, 682, 683, 89, 684, 103, 105, 685, 686, 687, 510, 547, 526, 527, 688, 689, 690, 976, 977, 978, 979, 980, 981, 982, 983, 984, 985, 1041, 1042, 1043, 1044, 1045, 1046, 1047, 1048, 1049, 1050, 1051, 1052, 1062, 1063, 1064, 1065, 1066, 1067, 1068, 1069, 1070] (by decide +kernel) (by decide +kernel)
set_option maxRecDepth 20000 in
theorem gL_law_X10_dies : GoodIn wsL_law (wsV RL 69 RX10 yX10_dies wsX10_dies) := goodIn_app (goodIn_of _ (by decide +kernel)) ggL_law_X10_dies
set_option maxRecDepth 20000 in
theorem ggL_law_X11_dies : GoodIn wsL_law wsX11_dies := goodIn_r _ [694, 178, 420, 135, 602, 695, 696, 697, 5, 698, 699, 421, 700, 701, 702, 703, 565, 566, 567, 568, 141, 569, 570, 571, 572, 136, 704, 705, 706, 707, 708, 709, 986, 987, 988, 989, 990, 991, 992, 993, 994, 995, 996, 997, 998, 999, 1000, 1001, 1002, 1003, 1004, 1005, 1006, 1007, 1008, 1009, 1010, 1011, 1012, 1013, 1014, 1015, 1016, 1017, 1018, 1019, 1020] (by decide +kernel) (by decide +kernel)
set_option maxRecDepth 20000 in
theorem gL_law_X11_dies : GoodIn wsL_law (wsV RL 72 RX11 yX11_dies wsX11_dies) := goodIn_app (goodIn_of _ (by decide +kernel)) ggL_law_X11_dies
set_option maxRecDepth 20000 in
theorem ggL_law_X10_steep : GoodIn wsL_law wsX10_steep := goodIn_r _ [713, 36, 595, 34, 714, 672, 673, 674, 33, 675, 676, 78, 73, 395, 509, 677, 678, 679, 523, 680, 681, 682, 683, 89, 684, 103, 105, 685, 686, 687, 510, 547, 526, 527, 688, 689, 690, 976, 977, 978, 979, 980, 981, 982, 983, 984, 985, 1041, 1042, 1043, 1044, 1045, 1046, 1047, 1048, 1049, 1050, 1051, 1052, 1062, 1063, 1064, 1065, 1066, 1067, 1068, 1069, 1070] (by decide +kernel) (by decide +kernel)
set_option maxRecDepth 20000 in
theorem gL_law_X10_steep : GoodIn wsL_law (wsV RL 73 RX10 yX10_steep wsX10_steep) := goodIn_app (goodIn_of _ (by decide +kernel)) ggL_law_X10_steep
set_option maxRecDepth 20000 in
theorem ggL_law_X11_steep : GoodIn wsL_law wsX11_steep := goodIn_r _ [718, 178, 420, 602, 432, 695, 696, 697, 5, 698, 699, 421, 700, 701, 702, 703, 565, 566, 567, 568, 141, 569, 570, 571, 572, 136, 704, 705, 706, 707, 708, 709, 986, 987, 988, 989, 990, 991, 992, 993, 994, 995, 996, 997, 998, 999, 1000, 1001, 1002, 1003, 1004, 1005, 1006, 1007, 1008, 1009, 1010, 1011, 1012, 1013, 1014, 1015, 1016, 1017, 1018, 1019, 1020] (by decide +kernel) (by decide +kernel)
set_option maxRecDepth 20000 in
theorem gL_law_X11_steep : GoodIn wsL_law (wsV RL 76 RX11 yX11_steep wsX11_steep) := goodIn_app (goodIn_of _ (by decide +kernel)) ggL_law_X11_steep
set_option maxRecDepth 20000 in
theorem ggL_law_X10_round : GoodIn wsL_law wsX10_round := goodIn_r _ [722, 152, 36, 595, 26, 34, 723, 724, 725, 726, 727, 25, 728, 65, 66, 67, 63, 64, 729, 730, 731, 33, 732, 73, 77, 78, 79, 80, 81, 82, 83, 84, 85, 86, 87, 733, 734, 735, 89, 736, 101, 102, 103, 104, 105, 106, 107, 108, 737, 738, 739, 76, 740, 93, 94, 95, 96, 97, 741, 273, 274, 275, 742, 743, 744, 745, 746, 747, 748, 749, 395, 750, 619, 620, 621, 511, 512, 513, 514, 509, 510, 515, 516, 517, 518, 519, 520, 521, 522, 523, 524, 525, 526, 527, 528, 529, 530, 531, 532, 533, 534, 622, 623, 624, 625, 535, 536, 537, 538, 539, 540, 541, 542, 543, 544, 545, 546, 547, 626, 627, 628, 629, 630, 631, 632, 633, 634, 635, 636, 637, 638, 639, 640, 641, 642, 109, 751, 752, 753, 754, 976, 977, 978, 979, 980, 981, 982, 983, 984, 985, 1030, 1031, 1032, 1033, 1041, 1042, 1043, 1044, 1045, 1046, 1047, 1048, 1049, 1050, 1051, 1052, 1062, 1063, 1064, 1065, 1066, 1067, 1068, 1069, 1070, 1057, 1058, 1059, 1060, 1061] (by decide +kernel) (by decide +kernel)
set_option maxRecDepth 20000 in
theorem gL_law_X10_round : GoodIn wsL_law (wsV RL 77 RX10 yX10_round wsX10_round) := goodIn_app (goodIn_of _ (by decide +kernel)) ggL_law_X10_round
set_option maxRecDepth 20000 in
theorem ggL_law_X11_round : GoodIn wsL_law wsX11_round := goodIn_r _ [758, 178, 180, 420, 602, 432, 145, 146, 186, 187, 5, 188, 759, 760, 761, 762, 142, 141, 763, 764, 765, 766, 421, 648, 649, 650, 651, 144, 426, 424, 425, 135, 557, 558, 559, 560, 561, 562, 563, 564, 565, 566, 567, 568, 569, 570, 571, 572, 136, 573, 574, 575, 576, 423, 577, 578, 579, 580, 581, 582, 583, 584, 585, 586, 587, 588, 589, 590, 767, 768, 769, 770, 986, 987, 988, 989, 990, 991, 992, 993, 994, 995, 996, 997, 998, 999, 1000, 1001, 1002, 1003, 1004, 1005, 1006, 1007, 1008, 1009, 1010, 1011, 1012, 1013, 1014, 1015, 1016, 1017, 1018, 1019, 1020] (by decide +kernel) (by decide +kernel)
set_option maxRecDepth 20000 in
theorem gL_law_X11_round : GoodIn wsL_law (wsV RL 80 RX11 yX11_round wsX11_round) := goodIn_app (goodIn_of _ (by decide +kernel)) ggL_law_X11_round
set_option maxRecDepth 20000 in
theorem ggL_law_X10_bears : GoodIn wsL_law wsX10_bears := goodIn_r _ [774, 152, 26, 34, 497, 498, 499, 2, 500, 501, 502, 503, 33, 504, 78, 73, 775, 776, 777, 25, 778, 779, 780, 781, 782, 63, 783, 784, 729, 730, 731, 732, 77, 79, 80, 81, 82, 83, 84, 85, 86, 87, 733, 734, 735, 89, 736, 101, 102, 103, 104, 105, 106, 107, 108, 737, 738, 739, 76, 740, 93, 94, 95, 96, 97, 741, 273, 274, 275, 785, 750, 619, 620, 621, 511, 512, 513, 514, 395, 509, 510, 515, 516, 517, 518, 519, 520, 521, 522, 523, 524, 525, 526, 527, 528, 529, 530, 531, 532, 533, 534, 622, 623, 624, 625, 535, 536, 537, 538, 539, 540, 541, 542, 543, 544, 545, 546, 547, 626, 627, 628, 629, 630, 631, 632, 633, 634, 635, 636, 637, 638, 639, 640, 641, 642, 109, 976, 977, 978, 979, 980, 981, 982, 983, 984, 985, 1041, 1042, 1043, 1044, 1045, 1046, 1047, 1048, 1049, 1050, 1051, 1052, 1030, 1031, 1032, 1033, 1062, 1063, 1064, 1065, 1066, 1067, 1068, 1069, 1070, 1057, 1058, 1059, 1060, 1061] (by decide +kernel) (by decide +kernel)
set_option maxRecDepth 20000 in
theorem gL_law_X10_bears : GoodIn wsL_law (wsV RL 81 RX10 yX10_bears wsX10_bears) := goodIn_app (goodIn_of _ (by decide +kernel)) ggL_law_X10_bears
set_option maxRecDepth 20000 in
theorem ggL_law_X11_bears : GoodIn wsL_law wsX11_bears := goodIn_r _ [789, 178, 700, 180, 136, 141, 142, 553, 554, 555, 5, 556, 421, 186, 187, 188, 759, 760, 761, 762, 569, 570, 571, 572, 648, 649, 650, 651, 144, 426, 424, 425, 135, 557, 558, 559, 560, 561, 562, 563, 564, 565, 566, 567, 568, 573, 574, 575, 576, 423, 577, 578, 579, 580, 581, 582, 583, 584, 585, 586, 587, 588, 589, 590, 767, 768, 769, 770, 986, 987, 988, 989, 990, 991, 992, 993, 994, 995, 996, 997, 998, 999, 1000, 1001, 1002, 1003, 1004, 1005, 1006, 1007, 1008, 1009, 1010, 1011, 1012, 1013, 1014, 1015, 1016, 1017, 1018, 1019, 1020] (by decide +kernel) (by decide +kernel)
set_option maxRecDepth 20000 in
theorem gL_law_X11_bears : GoodIn wsL_law (wsV RL 84 RX11 yX11_bears wsX11_bears) := goodIn_app (goodIn_of _ (by decide +kernel)) ggL_law_X11_bears
set_option maxRecDepth 20000 in
theorem ggL_law_X10_prints : GoodIn wsL_law wsX10_prints := goodIn_r _ [793, 152, 36, 26, 34, 595, 794, 795, 796, 25, 797, 63, 798, 65, 729, 730, 731, 33, 732, 73, 77, 78, 79, 80, 81, 82, 83, 84, 85, 86, 87, 733, 734, 735, 89, 736, 101, 102, 103, 104, 105, 106, 107, 108, 737, 738, 739, 76, 740, 93, 94, 95, 96, 97, 741, 273, 274, 275, 750, 619, 620, 621, 511, 512, 513, 514, 395, 509, 510, 515, 516, 517, 518, 519, 520, 521, 522, 523, 524, 525, 526, 527, 528, 529, 530, 531, 532, 533, 534, 622, 623, 624, 625, 535, 536, 537, 538, 539, 540, 541, 542, 543, 544, 545, 546, 547, 626, 627, 628, 629, 630, 631, 632, 633, 634, 635, 636, 637, 638, 639, 640, 641, 642, 109, 976, 977, 978, 979, 980, 981, 982, 983, 984, 985, 1030, 1031, 1032, 1033, 1041, 1042, 1043, 1044, 1045, 1046, 1047, 1048, 1049, 1050, 1051, 1052, 1062, 1063, 1064, 1065, 1066, 1067, 1068, 1069, 1070, 1057, 1058, 1059, 1060, 1061] (by decide +kernel) (by decide +kernel)
set_option maxRecDepth 20000 in
theorem gL_law_X10_prints : GoodIn wsL_law (wsV RL 85 RX10 yX10_prints wsX10_prints) := goodIn_app (goodIn_of _ (by decide +kernel)) ggL_law_X10_prints
set_option maxRecDepth 20000 in
theorem ggL_law_X11_prints : GoodIn wsL_law wsX11_prints := goodIn_r _ [802, 178, 180, 420, 602, 423, 432, 141, 759, 760, 761, 5, 762, 142, 648, 649, 650, 651, 421, 144, 426, 424, 425, 135, 557, 558, 559, 560, 561, 562, 563, 564, 565, 566, 567, 568, 569, 570, 571, 572, 136, 573, 574, 575, 576, 577, 578, 579, 580, 581, 582, 583, 584, 585, 586, 587, 588, 589, 590, 767, 768, 769, 770, 986, 987, 988, 989, 990, 991, 992, 993, 994, 995, 996, 997, 998, 999, 1000, 1001, 1002, 1003, 1004, 1005, 1006, 1007, 1008, 1009, 1010, 1011, 1012, 1013, 1014, 1015, 1016, 1017, 1018, 1019, 1020] (by decide +kernel) (by decide +kernel)
set_option maxRecDepth 20000 in
theorem gL_law_X11_prints : GoodIn wsL_law (wsV RL 88 RX11 yX11_prints wsX11_prints) := goodIn_app (goodIn_of _ (by decide +kernel)) ggL_law_X11_prints
set_option maxRecDepth 20000 in
theorem ggL_law_X10_calm : GoodIn wsL_law wsX10_calm := goodIn_r _ [806, 152, 36, 26, 34, 595, 807, 808, 809, 25, 810, 65, 63, 811, 812, 813, 814, 815, 816, 817, 522, 523, 524, 818, 526, 527, 729, 730, 731, 33, 732, 73, 77, 78, 79, 80, 81, 82, 83, 84, 85, 86, 87, 733, 734, 735, 89, 736, 101, 102, 103, 104, 105, 106, 107, 108, 737, 738, 739, 76, 740, 93, 94, 95, 96, 97, 741, 273, 274, 275, 819, 277, 278, 279, 820, 750, 619, 620, 621, 511, 512, 513, 514, 395, 509, 510, 515, 516, 517, 518, 519, 520, 521, 525, 528, 529, 530, 531, 532, 533, 534, 622, 623, 624, 625, 535, 536, 537, 538, 539, 540, 541, 542, 543, 544, 545, 546, 547, 626, 627, 628, 629, 630, 631, 632, 633, 634, 635, 636, 637, 638, 639, 640, 641, 642, 109, 976, 977, 978, 979, 980, 981, 982, 983, 984, 985, 1030, 1031, 1032, 1033, 1041, 1042, 1043, 1044, 1045, 1046, 1047, 1048, 1049, 1050, 1051, 1052, 1057, 1058, 1059, 1060, 1061, 1062, 1063, 1064, 1065, 1066, 1067, 1068, 1069, 1070] (by decide +kernel) (by decide +kernel)
set_option maxRecDepth 20000 in
theorem gL_law_X10_calm : GoodIn wsL_law (wsV RL 89 RX10 yX10_calm wsX10_calm) := goodIn_app (goodIn_of _ (by decide +kernel)) ggL_law_X10_calm
set_option maxRecDepth 20000 in
theorem ggL_law_X11_calm : GoodIn wsL_law wsX11_calm := goodIn_r _ [824, 178, 703, 601, 180, 420, 602, 424, 425, 426, 432, 141, 186, 187, 5, 188, 759, 760, 761, 762, 142, 648, 649, 650, 651, 421, 144, 135, 557, 558, 559, 560, 561, 562, 563, 564, 565, 566, 567, 568, 569, 570, 571, 572, 136, 573, 574, 575, 576, 423, 577, 578, 579, 580, 581, 582, 583, 584, 585, 586, 587, 588, 589, 590, 767, 768, 769, 770, 986, 987, 988, 989, 990, 991, 992, 993, 994, 995, 996, 997, 998, 999, 1000, 1001, 1002, 1003, 1004, 1005, 1006, 1007, 1008, 1009, 1010, 1011, 1012, 1013, 1014, 1015, 1016, 1017, 1018, 1019, 1020] (by decide +kernel) (by decide +kernel)
set_option maxRecDepth 20000 in
theorem gL_law_X11_calm : GoodIn wsL_law (wsV RL 92 RX11 yX11_calm wsX11_calm) := goodIn_app (goodIn_of _ (by decide +kernel)) ggL_law_X11_calm
set_option maxRecDepth 20000 in
theorem ggL_law_X10_shown : GoodIn wsL_law wsX10_shown := goodIn_r _ [828, 152, 14, 198, 199, 153, 154, 155, 2, 156, 157, 158, 159, 160, 38, 161, 200, 201, 202, 40, 203, 127, 829, 830, 831, 832, 833, 526, 523, 527, 834, 835, 836, 837, 838, 839, 840, 841, 842, 843, 518, 519, 520, 521, 522, 524, 525, 528, 529, 530, 170, 171, 172, 173, 976, 977, 978, 979, 980, 981, 982, 983, 984, 985, 1053, 1054, 1055, 1056] (by decide +kernel) (by decide +kernel)
set_option maxRecDepth 20000 in
theorem gL_law_X10_shown : GoodIn wsL_law (wsV RL 93 RX10 yX10_shown wsX10_shown) := goodIn_app (goodIn_of _ (by decide +kernel)) ggL_law_X10_shown
set_option maxRecDepth 20000 in
theorem ggL_law_X11_shown : GoodIn wsL_law wsX11_shown := goodIn_r _ [847, 178, 848, 180, 132, 133, 134, 601, 181, 182, 183, 5, 184, 185, 186, 187, 188, 189, 190, 191, 192, 193, 577, 578, 579, 580, 581, 582, 986, 987, 988, 989, 990, 991, 992, 993, 994, 995, 996, 997, 998, 999, 1000, 1001, 1002, 1003, 1004, 1005, 1006, 1007, 1008, 1009, 1010, 1011, 1012, 1013, 1014, 1015, 1016, 1017, 1018, 1019, 1020] (by decide +kernel) (by decide +kernel)
set_option maxRecDepth 20000 in
theorem gL_law_X11_shown : GoodIn wsL_law (wsV RL 96 RX11 yX11_shown wsX11_shown) := goodIn_app (goodIn_of _ (by decide +kernel)) ggL_law_X11_shown
set_option maxRecDepth 20000 in
theorem ggL_law_X10_kind : GoodIn wsL_law wsX10_kind := goodIn_r _ [852, 152, 853, 497, 498, 499, 2, 500, 34, 501, 502, 503, 33, 504, 78, 73, 1062, 1063, 1064, 1065, 1066, 1067, 1068, 1069, 1070, 976, 977, 978, 979, 980, 981, 982, 983, 984, 985, 1041, 1042, 1043, 1044, 1045, 1046, 1047, 1048, 1049, 1050, 1051, 1052] (by decide +kernel) (by decide +kernel)
set_option maxRecDepth 20000 in
theorem gL_law_X10_kind : GoodIn wsL_law (wsV RL 97 RX10 yX10_kind wsX10_kind) := goodIn_app (goodIn_of _ (by decide +kernel)) ggL_law_X10_kind
set_option maxRecDepth 20000 in
theorem ggL_law_X11_kind : GoodIn wsL_law wsX11_kind := goodIn_r _ [857, 178, 180, 553, 554, 555, 5, 556, 421, 186, 187, 188, 569, 570, 571, 572, 136, 986, 987, 988, 989, 990, 991, 992, 993, 994, 995, 996, 997, 998, 999, 1000, 1001, 1002, 1003, 1004, 1005, 1006, 1007, 1008, 1009, 1010, 1011, 1012, 1013, 1014, 1015, 1016, 1017, 1018, 1019, 1020] (by decide +kernel) (by decide +kernel)
set_option maxRecDepth 20000 in
theorem gL_law_X11_kind : GoodIn wsL_law (wsV RL 100 RX11 yX11_kind wsX11_kind) := goodIn_app (goodIn_of _ (by decide +kernel)) ggL_law_X11_kind
set_option maxRecDepth 20000 in
theorem ggL_law_X10_as : GoodIn wsL_law wsX10_as := goodIn_r _ [861, 152, 853, 491, 497, 498, 499, 2, 500, 34, 501, 502, 503, 33, 504, 78, 73, 862, 863, 519, 864, 865, 866, 867, 868, 170, 171, 172, 173, 38, 157, 158, 159, 160, 161, 1062, 1063, 1064, 1065, 1066, 1067, 1068, 1069, 1070, 976, 977, 978, 979, 980, 981, 982, 983, 984, 985, 1041, 1042, 1043, 1044, 1045, 1046, 1047, 1048, 1049, 1050, 1051, 1052] (by decide +kernel) (by decide +kernel)
set_option maxRecDepth 20000 in
theorem gL_law_X10_as : GoodIn wsL_law (wsV RL 101 RX10 yX10_as wsX10_as) := goodIn_app (goodIn_of _ (by decide +kernel)) ggL_law_X10_as
set_option maxRecDepth 20000 in
theorem ggL_law_X11_as : GoodIn wsL_law wsX11_as := goodIn_r _ [872, 178, 666, 180, 181, 553, 554, 555, 5, 556, 421, 186, 187, 188, 569, 570, 571, 572, 136, 873, 874, 875, 179, 876, 189, 190, 191, 192, 193, 986, 987, 988, 989, 990, 991, 992, 993, 994, 995, 996, 997, 998, 999, 1000, 1001, 1002, 1003, 1004, 1005, 1006, 1007, 1008, 1009, 1010, 1011, 1012, 1013, 1014, 1015, 1016, 1017, 1018, 1019, 1020] (by decide +kernel) (by decide +kernel)
set_option maxRecDepth 20000 in
theorem gL_law_X11_as : GoodIn wsL_law (wsV RL 104 RX11 yX11_as wsX11_as) := goodIn_app (goodIn_of _ (by decide +kernel)) ggL_law_X11_as
set_option maxRecDepth 20000 in
theorem ggL_law_X10_ask : GoodIn wsL_law wsX10_ask := goodIn_r _ [880, 152, 30, 34, 596, 497, 498, 499, 2, 500, 501, 502, 503, 33, 504, 78, 73, 881, 882, 883, 29, 884, 114, 885, 115, 886, 116, 887, 117, 118, 119, 888, 889, 890, 891, 892, 893, 894, 895, 896, 897, 898, 867, 519, 868, 865, 899, 900, 901, 902, 903, 904, 905, 906, 113, 976, 977, 978, 979, 980, 981, 982, 983, 984, 985, 1041, 1042, 1043, 1044, 1045, 1046, 1047, 1048, 1049, 1050, 1051, 1052, 1034, 1035, 1036, 1037, 1038, 1039, 1040, 1062, 1063, 1064, 1065, 1066, 1067, 1068, 1069, 1070] (by decide +kernel) (by decide +kernel)
set_option maxRecDepth 20000 in
theorem gL_law_X10_ask : GoodIn wsL_law (wsV RL 105 RX10 yX10_ask wsX10_ask) := goodIn_app (goodIn_of _ (by decide +kernel)) ggL_law_X10_ask
set_option maxRecDepth 20000 in
theorem ggL_law_X11_ask : GoodIn wsL_law wsX11_ask := goodIn_r _ [910, 178, 180, 911, 553, 554, 555, 5, 556, 421, 186, 187, 188, 569, 570, 571, 572, 136, 912, 913, 914, 915, 916, 917, 918, 919, 920, 921, 922, 923, 147, 873, 874, 875, 179, 876, 924, 925, 926, 927, 423, 986, 987, 988, 989, 990, 991, 992, 993, 994, 995, 996, 997, 998, 999, 1000, 1001, 1002, 1003, 1004, 1005, 1006, 1007, 1008, 1009, 1010, 1011, 1012, 1013, 1014, 1015, 1016, 1017, 1018, 1019, 1020] (by decide +kernel) (by decide +kernel)
set_option maxRecDepth 20000 in
theorem gL_law_X11_ask : GoodIn wsL_law (wsV RL 108 RX11 yX11_ask wsX11_ask) := goodIn_app (goodIn_of _ (by decide +kernel)) ggL_law_X11_ask
set_option maxRecDepth 20000 in
theorem ggL_law_X10_trace : GoodIn wsL_law wsX10_trace := goodIn_r _ [931, 30, 932, 933, 934, 29, 935, 114, 113, 936, 976, 977, 978, 979, 980, 981, 982, 983, 984, 985, 1034, 1035, 1036, 1037, 1038, 1039, 1040] (by decide +kernel) (by decide +kernel)
set_option maxRecDepth 20000 in
theorem gL_law_X10_trace : GoodIn wsL_law (wsV RL 109 RX10 yX10_trace wsX10_trace) := goodIn_app (goodIn_of _ (by decide +kernel)) ggL_law_X10_trace
set_option maxRecDepth 20000 in
theorem ggL_law_X11_trace : GoodIn wsL_law wsX11_trace := goodIn_r _ [940, 178, 911, 147, 432, 186, 187, 5, 188, 986, 987, 988, 989, 990, 991, 992, 993, 994, 995, 996, 997, 998, 999, 1000, 1001, 1002, 1003, 1004, 1005, 1006, 1007, 1008, 1009, 1010, 1011, 1012, 1013, 1014, 1015, 1016, 1017, 1018, 1019, 1020] (by decide +kernel) (by decide +kernel)
set_option maxRecDepth 20000 in
theorem gL_law_X11_trace : GoodIn wsL_law (wsV RL 112 RX11 yX11_trace wsX11_trace) := goodIn_app (goodIn_of _ (by decide +kernel)) ggL_law_X11_trace
set_option maxRecDepth 20000 in
theorem ggL_law_X10_count : GoodIn wsL_law wsX10_count := goodIn_r _ [944, 34, 263, 18, 239, 152, 945, 946, 947, 2, 948, 14, 198, 949, 950, 951, 33, 952, 78, 73, 516, 953, 954, 955, 956, 746, 747, 748, 749, 395, 957, 958, 959, 960, 961, 962, 963, 976, 977, 978, 979, 980, 981, 982, 983, 984, 985, 1041, 1042, 1043, 1044, 1045, 1046, 1047, 1048, 1049, 1050, 1051, 1052, 1021, 1022, 1053, 1054, 1055, 1056, 1062, 1063, 1064, 1065, 1066, 1067, 1068, 1069, 1070] (by decide +kernel) (by decide +kernel)
set_option maxRecDepth 20000 in
theorem gL_law_X10_count : GoodIn wsL_law (wsV RL 113 RX10 yX10_count wsX10_count) := goodIn_app (goodIn_of _ (by decide +kernel)) ggL_law_X10_count
set_option maxRecDepth 20000 in
theorem ggL_law_X11_count : GoodIn wsL_law wsX11_count := goodIn_r _ [967, 178, 132, 421, 141, 253, 180, 569, 570, 571, 5, 572, 136, 986, 987, 988, 989, 990, 991, 992, 993, 994, 995, 996, 997, 998, 999, 1000, 1001, 1002, 1003, 1004, 1005, 1006, 1007, 1008, 1009, 1010, 1011, 1012, 1013, 1014, 1015, 1016, 1017, 1018, 1019, 1020] (by decide +kernel) (by decide +kernel)
set_option maxRecDepth 20000 in
theorem gL_law_X11_count : GoodIn wsL_law (wsV RL 116 RX11 yX11_count wsX11_count) := goodIn_app (goodIn_of _ (by decide +kernel)) ggL_law_X11_count
set_option maxRecDepth 20000 in
theorem ggL_law_X10_status : GoodIn wsL_law wsX10_status := goodIn_r _ [971, 38, 976, 977, 978, 979, 980, 981, 982, 983, 984, 985] (by decide +kernel) (by decide +kernel)
set_option maxRecDepth 20000 in
theorem gL_law_X10_status : GoodIn wsL_law (wsV RL 117 RX10 yX10_status wsX10_status) := goodIn_app (goodIn_of _ (by decide +kernel)) ggL_law_X10_status
set_option maxRecDepth 20000 in
theorem ggL_law_X11_status : GoodIn wsL_law wsX11_status := goodIn_r _ [975, 178, 181, 986, 987, 988, 989, 990, 991, 992, 993, 994, 995, 996, 997, 998, 999, 1000, 1001, 1002, 1003, 1004, 1005, 1006, 1007, 1008, 1009, 1010, 1011, 1012, 1013, 1014, 1015, 1016, 1017, 1018, 1019, 1020] (by decide +kernel) (by decide +kernel)
set_option maxRecDepth 20000 in
theorem gL_law_X11_status : GoodIn wsL_law (wsV RL 120 RX11 yX11_status wsX11_status) := goodIn_app (goodIn_of _ (by decide +kernel)) ggL_law_X11_status
