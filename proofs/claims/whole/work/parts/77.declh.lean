set_option maxRecDepth 20000 in
theorem ggL_law_X9_ifGone : GoodIn wsL_law wsX9_ifGone := goodIn_r _ [868, 174, 175, 5, 176, 177, 178, 179, 183, 184, 185, 186, 187, 869, 870, 871, 872, 99, 377, 375, 374, 378, 379, 380, 381, 382, 383, 384, 385, 103, 386, 387, 388, 389, 376, 193, 194, 195, 196, 390, 391, 392, 393, 873, 874, 875, 876, 1010, 1011, 1012, 1013, 1014, 1015, 1016, 1017, 1018, 1019, 1020, 1021, 1022, 1023, 1024, 1025, 1026, 1027, 1028, 1029, 1030, 1031] rfl (by decide +kernel)
set_option maxRecDepth 20000 in
theorem gL_law_X9_ifGone : GoodIn wsL_law (wsV RL 148 RX9 yX9_ifGone wsX9_ifGone) := goodIn_app (goodIn_of _ (by decide +kernel)) ggL_law_X9_ifGone
set_option maxRecDepth 20000 in
theorem ggL_law_L_lostAt : GoodIn wsL_law wsL_lostAt := goodIn_ca (goodIn_r _ [879, 111, 880, 881, 882, 2, 883, 16, 116, 122, 123, 124, 125, 126, 884, 318, 319, 38, 320, 321, 291, 292, 293, 277, 163, 164, 165, 56, 294, 295, 296, 297, 322, 274, 275, 276, 1004, 1005, 1006, 1007, 1008, 1009, 1032, 1033, 1034, 1035, 1036, 1037, 1038, 1055, 1056, 1057, 1058, 1059, 1060] rfl (by decide +kernel)) (goodIn_sub (fun _ h => List.mem_append_left _ (List.mem_append_right _ h)) (by decide +kernel))
set_option maxRecDepth 20000 in
theorem gL_law_L_lostAt : GoodIn wsL_law (va_wsS RL 149 yL_lostAt wsL_lostAt) := goodIn_app (goodIn_of _ (by decide +kernel)) ggL_law_L_lostAt
set_option maxRecDepth 20000 in
theorem ggL_law_X9_lostAt : GoodIn wsL_law wsX9_lostAt := goodIn_r _ [888, 180, 181, 5, 182, 177, 178, 179, 183, 184, 185, 186, 187, 398, 399, 400, 401, 377, 103, 376, 386, 387, 388, 389, 374, 99, 375, 193, 194, 195, 196, 390, 391, 392, 393, 1010, 1011, 1012, 1013, 1014, 1015, 1016, 1017, 1018, 1019, 1020, 1021, 1022, 1023, 1024, 1025, 1026, 1027, 1028, 1029, 1030, 1031] rfl (by decide +kernel)
set_option maxRecDepth 20000 in
theorem gL_law_X9_lostAt : GoodIn wsL_law (wsV RL 151 RX9 yX9_lostAt wsX9_lostAt) := goodIn_app (goodIn_of _ (by decide +kernel)) ggL_law_X9_lostAt
set_option maxRecDepth 20000 in
theorem ggL_law_X8_worstEar : GoodIn wsL_law wsX8_worstEar := goodIn_r _ [892, 16, 239, 240, 32, 854, 855, 856, 2, 857, 28, 116, 247, 248, 249, 42, 250, 155, 65, 251, 154, 141, 142, 143, 66, 252, 67, 253, 262, 263, 264, 31, 265, 266, 92, 267, 93, 268, 269, 270, 271, 272, 273, 274, 275, 38, 276, 277, 163, 164, 165, 56, 365, 340, 341, 342, 1004, 1005, 1006, 1007, 1008, 1009, 1032, 1033, 1034, 1035, 1036, 1037, 1038, 1061, 1062, 1063, 1064, 1049, 1050, 1051, 1052, 1053, 1054, 1055, 1056, 1057, 1058, 1059, 1060] rfl (by decide +kernel)
set_option maxRecDepth 20000 in
theorem gL_law_X8_worstEar : GoodIn wsL_law (wsV RL 152 RX8 yX8_worstEar wsX8_worstEar) := goodIn_app (goodIn_of _ (by decide +kernel)) ggL_law_X8_worstEar
set_option maxRecDepth 20000 in
theorem ggL_law_X9_worstEar : GoodIn wsL_law wsX9_worstEar := goodIn_r _ [896, 187, 897, 898, 899, 5, 900, 99, 378, 379, 380, 381, 901, 902, 903, 904, 375, 377, 382, 383, 384, 385, 103, 386, 387, 388, 389, 374, 376, 193, 194, 195, 196, 390, 391, 392, 393, 1010, 1011, 1012, 1013, 1014, 1015, 1016, 1017, 1018, 1019, 1020, 1021, 1022, 1023, 1024, 1025, 1026, 1027, 1028, 1029, 1030, 1031] rfl (by decide +kernel)
set_option maxRecDepth 20000 in
theorem gL_law_X9_worstEar : GoodIn wsL_law (wsV RL 155 RX9 yX9_worstEar wsX9_worstEar) := goodIn_app (goodIn_of _ (by decide +kernel)) ggL_law_X9_worstEar
set_option maxRecDepth 20000 in
theorem ggL_law_X8_costs : GoodIn wsL_law wsX8_costs := goodIn_r _ [908, 16, 239, 240, 32, 116, 854, 855, 856, 2, 857, 28, 247, 248, 249, 42, 250, 155, 65, 251, 154, 141, 142, 143, 66, 252, 67, 253, 262, 263, 264, 31, 265, 266, 92, 267, 93, 268, 269, 270, 271, 272, 273, 274, 275, 38, 276, 277, 163, 164, 165, 56, 909, 348, 349, 350, 351, 304, 305, 306, 307, 1004, 1005, 1006, 1007, 1008, 1009, 1032, 1033, 1034, 1035, 1036, 1037, 1038, 1061, 1062, 1063, 1064, 1049, 1050, 1051, 1052, 1053, 1054, 1055, 1056, 1057, 1058, 1059, 1060] rfl (by decide +kernel)
set_option maxRecDepth 20000 in
theorem gL_law_X8_costs : GoodIn wsL_law (wsV RL 156 RX8 yX8_costs wsX8_costs) := goodIn_app (goodIn_of _ (by decide +kernel)) ggL_law_X8_costs
