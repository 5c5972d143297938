set_option maxRecDepth 20000 in
theorem ggL_law_X9_meaning : GoodIn wsL_law wsX9_meaning := goodIn_r _ [727, 174, 175, 5, 176, 177, 178, 179, 180, 181, 182, 183, 184, 185, 186, 187, 728, 729, 730, 731, 193, 194, 195, 196, 99, 390, 391, 392, 393, 1010, 1011, 1012, 1013, 1014, 1015, 1016, 1017, 1018, 1019, 1020, 1021, 1022, 1023, 1024, 1025, 1026, 1027, 1028, 1029, 1030, 1031] rfl (by decide +kernel)
set_option maxRecDepth 20000 in
theorem gL_law_X9_meaning : GoodIn wsL_law (wsV RL 130 RX9 yX9_meaning wsX9_meaning) := goodIn_app (goodIn_of _ (by decide +kernel)) ggL_law_X9_meaning
set_option maxRecDepth 20000 in
theorem ggL_law_L_link : GoodIn wsL_law wsL_link := goodIn_ca (goodIn_ca (goodIn_r _ [734, 110, 111, 735, 736, 737, 2, 738, 16, 116, 208, 224, 739, 740, 741, 117, 118, 119, 120, 121, 122, 123, 124, 125, 126, 742, 743, 744, 38, 745, 277, 163, 164, 165, 56, 746, 747, 748, 749, 321, 291, 292, 293, 294, 295, 296, 297, 1004, 1005, 1006, 1007, 1008, 1009, 1032, 1033, 1034, 1035, 1036, 1037, 1038, 1055, 1056, 1057, 1058, 1059, 1060] rfl (by decide +kernel)) (goodIn_sub (fun _ h => List.mem_append_left _ (List.mem_append_left _ (List.mem_append_right _ h))) (by decide +kernel))) (goodIn_sub (fun _ h => List.mem_append_left _ (List.mem_append_right _ h)) (by decide +kernel))
set_option maxRecDepth 20000 in
theorem gL_law_L_link : GoodIn wsL_law (va_wsS RL 131 yL_link wsL_link) := goodIn_app (goodIn_of _ (by decide +kernel)) ggL_law_L_link
set_option maxRecDepth 20000 in
theorem ggL_law_X9_link : GoodIn wsL_law wsX9_link := goodIn_r _ [753, 174, 175, 5, 176, 177, 178, 179, 183, 184, 185, 186, 187, 754, 755, 756, 757, 99, 758, 759, 760, 761, 193, 194, 195, 196, 762, 763, 764, 765, 390, 391, 392, 393, 1010, 1011, 1012, 1013, 1014, 1015, 1016, 1017, 1018, 1019, 1020, 1021, 1022, 1023, 1024, 1025, 1026, 1027, 1028, 1029, 1030, 1031] rfl (by decide +kernel)
set_option maxRecDepth 20000 in
theorem gL_law_X9_link : GoodIn wsL_law (wsV RL 133 RX9 yX9_link wsX9_link) := goodIn_app (goodIn_of _ (by decide +kernel)) ggL_law_X9_link
set_option maxRecDepth 20000 in
theorem ggL_law_L_waits : GoodIn wsL_law wsL_waits := goodIn_ca (goodIn_r _ [768, 111, 769, 770, 771, 2, 772, 16, 239, 240, 28, 773, 774, 775, 640, 641, 642, 125, 126, 122, 123, 124, 247, 248, 249, 42, 250, 155, 65, 251, 154, 141, 142, 143, 66, 252, 67, 253, 1004, 1005, 1006, 1007, 1008, 1009, 1032, 1033, 1034, 1035, 1036, 1037, 1038, 1061, 1062, 1063, 1064, 1049, 1050, 1051] rfl (by decide +kernel)) (goodIn_sub (fun _ h => List.mem_append_left _ (List.mem_append_right _ h)) (by decide +kernel))
set_option maxRecDepth 20000 in
theorem gL_law_L_waits : GoodIn wsL_law (va_wsS RL 134 yL_waits wsL_waits) := goodIn_app (goodIn_of _ (by decide +kernel)) ggL_law_L_waits
set_option maxRecDepth 20000 in
theorem ggL_law_X9_waits : GoodIn wsL_law wsX9_waits := goodIn_r _ [779, 177, 178, 5, 179, 183, 184, 185, 186, 187, 780, 781, 782, 783, 99, 378, 379, 380, 381, 1010, 1011, 1012, 1013, 1014, 1015, 1016, 1017, 1018, 1019, 1020, 1021, 1022, 1023, 1024, 1025, 1026, 1027, 1028, 1029, 1030, 1031] rfl (by decide +kernel)
set_option maxRecDepth 20000 in
theorem gL_law_X9_waits : GoodIn wsL_law (wsV RL 136 RX9 yX9_waits wsX9_waits) := goodIn_app (goodIn_of _ (by decide +kernel)) ggL_law_X9_waits
set_option maxRecDepth 20000 in
theorem ggL_law_L_arrival : GoodIn wsL_law wsL_arrival := goodIn_ca (goodIn_r _ [786, 111, 787, 788, 789, 2, 790, 16, 245, 122, 123, 124, 125, 126, 791, 648, 649, 46, 650, 161, 72, 1004, 1005, 1006, 1007, 1008, 1009, 1032, 1033, 1034, 1035, 1036, 1037, 1038, 1065, 1066, 1067] rfl (by decide +kernel)) (goodIn_sub (fun _ h => List.mem_append_left _ (List.mem_append_right _ h)) (by decide +kernel))
set_option maxRecDepth 20000 in
theorem gL_law_L_arrival : GoodIn wsL_law (va_wsS RL 137 yL_arrival wsL_arrival) := goodIn_app (goodIn_of _ (by decide +kernel)) ggL_law_L_arrival
