set_option maxRecDepth 20000 in
theorem ggL_law_X9_obey : GoodIn wsL_law wsX9_obey := goodIn_r _ [613, 544, 419, 99, 545, 546, 547, 5, 548, 549, 550, 551, 552, 553, 554, 555, 556, 557, 558, 559, 560, 561, 102, 562, 563, 564, 565, 566, 567, 568, 569, 570, 105, 571, 572, 573, 574, 575, 576, 577, 578, 177, 178, 179, 183, 184, 185, 186, 187, 188, 189, 190, 191, 192, 100, 614, 615, 616, 617, 370, 371, 372, 373, 374, 375, 376, 377, 103, 378, 379, 380, 381, 382, 383, 384, 385, 386, 387, 388, 389, 193, 194, 195, 196, 390, 391, 392, 393, 394, 395, 396, 397, 104, 398, 399, 400, 401, 1010, 1011, 1012, 1013, 1014, 1015, 1016, 1017, 1018, 1019, 1020, 1021, 1022, 1023, 1024, 1025, 1026, 1027, 1028, 1029, 1030, 1031] rfl (by decide +kernel)
set_option maxRecDepth 20000 in
theorem gL_law_X9_obey : GoodIn wsL_law (wsV RL 111 RX9 yX9_obey wsX9_obey) := goodIn_app (goodIn_of _ (by decide +kernel)) ggL_law_X9_obey
set_option maxRecDepth 20000 in
theorem ggL_law_L_stopped : GoodIn wsL_law wsL_stopped := goodIn_ca (goodIn_r _ [620, 111, 621, 622, 623, 2, 624, 16, 586, 587, 122, 123, 124, 125, 126, 1004, 1005, 1006, 1007, 1008, 1009, 1032, 1033, 1034, 1035, 1036, 1037, 1038] rfl (by decide +kernel)) (goodIn_sub (fun _ h => List.mem_append_left _ (List.mem_append_right _ h)) (by decide +kernel))
set_option maxRecDepth 20000 in
theorem gL_law_L_stopped : GoodIn wsL_law (va_wsS RL 112 yL_stopped wsL_stopped) := goodIn_app (goodIn_of _ (by decide +kernel)) ggL_law_L_stopped
set_option maxRecDepth 20000 in
theorem ggL_law_X9_stopped : GoodIn wsL_law wsX9_stopped := goodIn_r _ [628, 177, 178, 5, 179, 183, 184, 185, 186, 187, 629, 630, 631, 632, 99, 1010, 1011, 1012, 1013, 1014, 1015, 1016, 1017, 1018, 1019, 1020, 1021, 1022, 1023, 1024, 1025, 1026, 1027, 1028, 1029, 1030, 1031] rfl (by decide +kernel)
set_option maxRecDepth 20000 in
theorem gL_law_X9_stopped : GoodIn wsL_law (wsV RL 114 RX9 yX9_stopped wsX9_stopped) := goodIn_app (goodIn_of _ (by decide +kernel)) ggL_law_X9_stopped
set_option maxRecDepth 20000 in
theorem ggL_law_L_told : GoodIn wsL_law wsL_told := goodIn_ca (goodIn_r _ [635, 111, 636, 637, 638, 2, 639, 16, 245, 122, 123, 124, 125, 126, 640, 641, 642, 643, 644, 645, 46, 646, 647, 648, 649, 650, 161, 72, 651, 652, 653, 654, 71, 655, 656, 657, 658, 659, 660, 1004, 1005, 1006, 1007, 1008, 1009, 1032, 1033, 1034, 1035, 1036, 1037, 1038, 1065, 1066, 1067] rfl (by decide +kernel)) (goodIn_sub (fun _ h => List.mem_append_left _ (List.mem_append_right _ h)) (by decide +kernel))
set_option maxRecDepth 20000 in
theorem gL_law_L_told : GoodIn wsL_law (va_wsS RL 115 yL_told wsL_told) := goodIn_app (goodIn_of _ (by decide +kernel)) ggL_law_L_told
set_option maxRecDepth 20000 in
theorem ggL_law_X9_told : GoodIn wsL_law wsX9_told := goodIn_r _ [664, 99, 177, 178, 5, 179, 183, 184, 185, 186, 187, 665, 666, 667, 668, 669, 670, 671, 672, 1010, 1011, 1012, 1013, 1014, 1015, 1016, 1017, 1018, 1019, 1020, 1021, 1022, 1023, 1024, 1025, 1026, 1027, 1028, 1029, 1030, 1031] rfl (by decide +kernel)
set_option maxRecDepth 20000 in
theorem gL_law_X9_told : GoodIn wsL_law (wsV RL 117 RX9 yX9_told wsX9_told) := goodIn_app (goodIn_of _ (by decide +kernel)) ggL_law_X9_told
set_option maxRecDepth 20000 in
theorem ggL_law_L_undo : GoodIn wsL_law wsL_undo := goodIn_ca (goodIn_r _ [675, 232, 676, 677, 678, 2, 679, 237, 238, 20, 16, 680, 681, 682, 683, 19, 684, 131, 77, 685, 137, 138, 15, 139, 39, 43, 47, 49, 140, 141, 142, 143, 144, 50, 51, 145, 146, 147, 38, 148, 56, 149, 57, 58, 59, 60, 61, 150, 151, 152, 42, 153, 65, 154, 66, 67, 155, 156, 157, 158, 46, 159, 71, 160, 72, 161, 686, 687, 688, 689, 1004, 1005, 1006, 1007, 1008, 1009, 1039, 1040, 1032, 1033, 1034, 1035, 1036, 1037, 1038, 1055, 1056, 1057, 1058, 1059, 1060, 1061, 1062, 1063, 1064, 1065, 1066, 1067] rfl (by decide +kernel)) (goodIn_sub (fun _ h => List.mem_append_right _ h) (by decide +kernel))
set_option maxRecDepth 20000 in
theorem gL_law_L_undo : GoodIn wsL_law (va_wsS RL 118 yL_undo wsL_undo) := goodIn_app (goodIn_of _ (by decide +kernel)) ggL_law_L_undo
