set_option maxRecDepth 20000 in
theorem ggL_law_X9_arrival : GoodIn wsL_law wsX9_arrival := goodIn_r _ [795, 99, 177, 178, 5, 179, 183, 184, 185, 186, 187, 796, 797, 798, 799, 669, 670, 671, 672, 1010, 1011, 1012, 1013, 1014, 1015, 1016, 1017, 1018, 1019, 1020, 1021, 1022, 1023, 1024, 1025, 1026, 1027, 1028, 1029, 1030, 1031] rfl (by decide +kernel)
set_option maxRecDepth 20000 in
theorem gL_law_X9_arrival : GoodIn wsL_law (wsV RL 139 RX9 yX9_arrival wsX9_arrival) := goodIn_app (goodIn_of _ (by decide +kernel)) ggL_law_X9_arrival
set_option maxRecDepth 20000 in
theorem ggL_law_L_count : GoodIn wsL_law wsL_count := goodIn_ca (goodIn_r _ [802, 111, 803, 804, 805, 2, 806, 16, 239, 240, 246, 245, 807, 116, 741, 740, 739, 20, 680, 122, 123, 124, 125, 126, 808, 809, 810, 1004, 1005, 1006, 1007, 1008, 1009, 1032, 1033, 1034, 1035, 1036, 1037, 1038, 1061, 1062, 1063, 1064, 1065, 1066, 1067, 1055, 1056, 1057, 1058, 1059, 1060, 1039, 1040] rfl (by decide +kernel)) (goodIn_sub (fun _ h => List.mem_append_left _ (List.mem_append_right _ h)) (by decide +kernel))
set_option maxRecDepth 20000 in
theorem gL_law_L_count : GoodIn wsL_law (va_wsS RL 140 yL_count wsL_count) := goodIn_app (goodIn_of _ (by decide +kernel)) ggL_law_L_count
set_option maxRecDepth 20000 in
theorem ggL_law_X9_count : GoodIn wsL_law wsX9_count := goodIn_r _ [814, 177, 178, 5, 179, 183, 184, 185, 186, 187, 815, 816, 817, 818, 99, 192, 819, 820, 821, 822, 1010, 1011, 1012, 1013, 1014, 1015, 1016, 1017, 1018, 1019, 1020, 1021, 1022, 1023, 1024, 1025, 1026, 1027, 1028, 1029, 1030, 1031] rfl (by decide +kernel)
set_option maxRecDepth 20000 in
theorem gL_law_X9_count : GoodIn wsL_law (wsV RL 142 RX9 yX9_count wsX9_count) := goodIn_app (goodIn_of _ (by decide +kernel)) ggL_law_X9_count
set_option maxRecDepth 20000 in
theorem ggL_law_L_lost : GoodIn wsL_law wsL_lost := goodIn_ca (goodIn_r _ [825, 111, 826, 827, 828, 2, 829, 16, 830, 122, 123, 124, 125, 126, 831, 832, 833, 15, 834, 835, 836, 837, 838, 49, 1004, 1005, 1006, 1007, 1008, 1009, 1032, 1033, 1034, 1035, 1036, 1037, 1038] rfl (by decide +kernel)) (goodIn_sub (fun _ h => List.mem_append_left _ (List.mem_append_right _ h)) (by decide +kernel))
set_option maxRecDepth 20000 in
theorem gL_law_L_lost : GoodIn wsL_law (va_wsS RL 143 yL_lost wsL_lost) := goodIn_app (goodIn_of _ (by decide +kernel)) ggL_law_L_lost
set_option maxRecDepth 20000 in
theorem ggL_law_X9_lost : GoodIn wsL_law wsX9_lost := goodIn_r _ [842, 177, 178, 5, 179, 183, 184, 185, 186, 187, 843, 844, 845, 846, 99, 1010, 1011, 1012, 1013, 1014, 1015, 1016, 1017, 1018, 1019, 1020, 1021, 1022, 1023, 1024, 1025, 1026, 1027, 1028, 1029, 1030, 1031] rfl (by decide +kernel)
set_option maxRecDepth 20000 in
theorem gL_law_X9_lost : GoodIn wsL_law (wsV RL 145 RX9 yX9_lost wsX9_lost) := goodIn_app (goodIn_of _ (by decide +kernel)) ggL_law_X9_lost
set_option maxRecDepth 20000 in
theorem ggL_law_L_ifGone : GoodIn wsL_law wsL_ifGone := goodIn_ca (goodIn_ca (goodIn_r _ [849, 110, 111, 850, 851, 852, 2, 853, 16, 239, 240, 32, 116, 117, 118, 119, 120, 121, 122, 123, 124, 125, 126, 854, 855, 856, 857, 28, 247, 248, 249, 42, 250, 155, 65, 251, 154, 141, 142, 143, 66, 252, 67, 253, 262, 263, 264, 31, 265, 266, 92, 267, 93, 268, 269, 270, 271, 272, 273, 274, 275, 38, 276, 277, 163, 164, 165, 56, 858, 859, 860, 861, 862, 344, 345, 346, 863, 304, 305, 306, 307, 864, 283, 284, 285, 1004, 1005, 1006, 1007, 1008, 1009, 1032, 1033, 1034, 1035, 1036, 1037, 1038, 1061, 1062, 1063, 1064, 1049, 1050, 1051, 1052, 1053, 1054, 1055, 1056, 1057, 1058, 1059, 1060] rfl (by decide +kernel)) (goodIn_sub (fun _ h => List.mem_append_left _ (List.mem_append_left _ (List.mem_append_right _ h))) (by decide +kernel))) (goodIn_sub (fun _ h => List.mem_append_left _ (List.mem_append_right _ h)) (by decide +kernel))
set_option maxRecDepth 20000 in
theorem gL_law_L_ifGone : GoodIn wsL_law (va_wsS RL 146 yL_ifGone wsL_ifGone) := goodIn_app (goodIn_of _ (by decide +kernel)) ggL_law_L_ifGone
