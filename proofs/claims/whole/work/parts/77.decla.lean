set_option maxRecDepth 20000 in
theorem ggL_law_X8_init : GoodIn wsL_law wsX8_init := goodIn_r _ [9, 10, 11, 12, 13, 14, 15, 16, 17, 18, 19, 20, 21, 22, 23, 24, 25, 26, 27, 28, 29, 30, 31, 32, 33, 34, 35, 36, 37, 38, 39, 40, 41, 42, 43, 44, 45, 46, 47, 48, 49, 50, 51, 52, 53, 54, 55, 56, 57, 58, 59, 60, 61, 62, 63, 64, 65, 66, 67, 68, 69, 70, 71, 72, 73, 74, 75, 76, 77, 78, 79, 80, 81, 82, 83, 84, 85, 86, 87, 88, 89, 90, 91, 92, 93, 94, 1032, 1033, 1034, 1035, 1036, 1037, 1038, 1004, 1005, 1006, 1007, 1008, 1009, 1039, 1040, 1041, 1042, 1043, 1044, 1045, 1046, 1047, 1048, 1049, 1050, 1051, 1052, 1053, 1054, 1055, 1056, 1057, 1058, 1059, 1060, 1061, 1062, 1063, 1064, 1065, 1066, 1067] rfl (by decide +kernel)
set_option maxRecDepth 20000 in
theorem gL_law_X8_init : GoodIn wsL_law (wsX8_init) := ggL_law_X8_init
set_option maxRecDepth 20000 in
theorem ggL_law_X9_init : GoodIn wsL_law wsX9_init := goodIn_r _ [97, 98, 11, 12, 48, 99, 100, 101, 102, 103, 104, 105, 1010, 1011, 1012, 1013, 1014, 1015, 1016, 1017, 1018, 1019, 1020, 1021, 1022, 1023, 1024, 1025, 1026, 1027, 1028, 1029, 1030, 1031] rfl (by decide +kernel)
set_option maxRecDepth 20000 in
theorem gL_law_X9_init : GoodIn wsL_law (wsX9_init) := ggL_law_X9_init
set_option maxRecDepth 20000 in
theorem ggL_law_L_teach : GoodIn wsL_law wsL_teach := goodIn_ca (goodIn_ca (goodIn_r _ [109, 110, 111, 112, 113, 114, 2, 115, 20, 16, 116, 117, 118, 119, 120, 121, 122, 123, 124, 125, 126, 127, 128, 129, 19, 130, 131, 77, 76, 14, 15, 132, 133, 134, 135, 33, 34, 35, 11, 12, 36, 37, 38, 39, 40, 41, 42, 43, 44, 45, 46, 47, 48, 49, 50, 51, 52, 53, 54, 55, 56, 57, 58, 59, 60, 61, 62, 63, 64, 65, 66, 67, 68, 69, 70, 71, 72, 136, 137, 138, 139, 140, 141, 142, 143, 144, 145, 146, 147, 148, 149, 150, 151, 152, 153, 154, 155, 156, 157, 158, 159, 160, 161, 162, 163, 164, 165, 166, 167, 168, 169, 1004, 1005, 1006, 1007, 1008, 1009, 1032, 1033, 1034, 1035, 1036, 1037, 1038, 1039, 1040, 1055, 1056, 1057, 1058, 1059, 1060, 1061, 1062, 1063, 1064, 1065, 1066, 1067] rfl (by decide +kernel)) (goodIn_sub (fun _ h => List.mem_append_left _ (List.mem_append_left _ (List.mem_append_right _ h))) (by decide +kernel))) (goodIn_sub (fun _ h => List.mem_append_left _ (List.mem_append_right _ h)) (by decide +kernel))
set_option maxRecDepth 20000 in
theorem gL_law_L_teach : GoodIn wsL_law (va_wsS RL 77 yL_teach wsL_teach) := goodIn_app (goodIn_of _ (by decide +kernel)) ggL_law_L_teach
set_option maxRecDepth 20000 in
theorem ggL_law_X9_teach : GoodIn wsL_law wsX9_teach := goodIn_r _ [173, 99, 174, 175, 5, 176, 177, 178, 179, 180, 181, 182, 183, 184, 185, 186, 187, 188, 189, 190, 191, 192, 100, 193, 194, 195, 196, 1010, 1011, 1012, 1013, 1014, 1015, 1016, 1017, 1018, 1019, 1020, 1021, 1022, 1023, 1024, 1025, 1026, 1027, 1028, 1029, 1030, 1031] rfl (by decide +kernel)
set_option maxRecDepth 20000 in
theorem gL_law_X9_teach : GoodIn wsL_law (wsV RL 82 RX9 yX9_teach wsX9_teach) := goodIn_app (goodIn_of _ (by decide +kernel)) ggL_law_X9_teach
set_option maxRecDepth 20000 in
theorem ggL_law_X9_thrown : GoodIn wsL_law wsX9_thrown := goodIn_r _ [200, 187, 1010, 1011, 1012, 1013, 1014, 1015, 1016, 1017, 1018, 1019, 1020, 1021, 1022, 1023, 1024, 1025, 1026, 1027, 1028, 1029, 1030, 1031] rfl (by decide +kernel)
set_option maxRecDepth 20000 in
theorem gL_law_X9_thrown : GoodIn wsL_law (wsV RL 83 RX9 yX9_thrown wsX9_thrown) := goodIn_app (goodIn_of _ (by decide +kernel)) ggL_law_X9_thrown
set_option maxRecDepth 20000 in
theorem ggL_law_L_ear : GoodIn wsL_law wsL_ear := goodIn_ca (goodIn_ca (goodIn_r _ [203, 110, 111, 204, 205, 206, 2, 207, 20, 16, 116, 208, 117, 118, 119, 120, 121, 122, 123, 124, 125, 126, 127, 128, 129, 19, 130, 131, 77, 76, 14, 15, 132, 133, 134, 135, 33, 34, 35, 11, 12, 36, 37, 38, 39, 40, 41, 42, 43, 44, 45, 46, 47, 48, 49, 50, 51, 52, 53, 54, 55, 56, 57, 58, 59, 60, 61, 62, 63, 64, 65, 66, 67, 68, 69, 70, 71, 72, 136, 137, 138, 139, 140, 141, 142, 143, 144, 145, 146, 147, 148, 149, 150, 151, 152, 153, 154, 155, 156, 157, 158, 159, 160, 161, 1004, 1005, 1006, 1007, 1008, 1009, 1032, 1033, 1034, 1035, 1036, 1037, 1038, 1055, 1056, 1057, 1058, 1059, 1060, 1039, 1040, 1061, 1062, 1063, 1064, 1065, 1066, 1067] rfl (by decide +kernel)) (goodIn_sub (fun _ h => List.mem_append_left _ (List.mem_append_left _ (List.mem_append_right _ h))) (by decide +kernel))) (goodIn_sub (fun _ h => List.mem_append_left _ (List.mem_append_right _ h)) (by decide +kernel))
set_option maxRecDepth 20000 in
theorem gL_law_L_ear : GoodIn wsL_law (va_wsS RL 86 yL_ear wsL_ear) := goodIn_app (goodIn_of _ (by decide +kernel)) ggL_law_L_ear
