set_option maxRecDepth 20000 in
theorem ggL_hangs_L_meaning : GoodIn wsL_hangs wsL_meaning := goodIn_ca (goodIn_ca (goodIn_r _ [5, 6, 7, 8, 9, 10, 11, 12, 13, 14, 15, 16, 17, 18, 19, 20, 21, 22, 23, 24, 25, 26, 27, 28, 29, 30, 31, 32, 33, 34, 35, 36, 37, 38, 39, 40, 241, 242, 243, 244, 245, 246, 247, 248, 249, 250, 251, 252, 253, 254, 255, 256, 257, 258, 259] (by decide +kernel) (by decide +kernel)) (goodIn_sub (fun _ h => List.mem_cons_of_mem _ (List.mem_append_left _ (List.mem_append_right _ h))) (by decide +kernel))) (goodIn_sub (fun _ h => List.mem_cons_of_mem _ (List.mem_append_right _ h)) (by decide +kernel))
set_option maxRecDepth 20000 in
theorem gL_hangs_L_meaning : GoodIn wsL_hangs (va_wsS RL 116 yL_meaning wsL_meaning) := goodIn_app (goodIn_of _ (by decide +kernel)) ggL_hangs_L_meaning
set_option maxRecDepth 20000 in
theorem ggL_hangs_L_link : GoodIn wsL_hangs wsL_link := goodIn_ca (goodIn_ca (goodIn_r _ [43, 6, 7, 44, 45, 46, 11, 47, 13, 14, 48, 49, 50, 51, 52, 15, 16, 17, 18, 19, 20, 21, 22, 23, 24, 53, 54, 55, 28, 56, 35, 26, 27, 29, 30, 57, 58, 59, 60, 61, 32, 33, 34, 36, 37, 38, 39, 241, 242, 243, 244, 245, 246, 247, 248, 249, 250, 251, 252, 253, 254, 255, 256, 257, 258, 259] (by decide +kernel) (by decide +kernel)) (goodIn_sub (fun _ h => List.mem_cons_of_mem _ (List.mem_append_left _ (List.mem_append_right _ h))) (by decide +kernel))) (goodIn_sub (fun _ h => List.mem_cons_of_mem _ (List.mem_append_right _ h)) (by decide +kernel))
set_option maxRecDepth 20000 in
theorem gL_hangs_L_link : GoodIn wsL_hangs (va_wsS RL 118 yL_link wsL_link) := goodIn_app (goodIn_of _ (by decide +kernel)) ggL_hangs_L_link
set_option maxRecDepth 20000 in
theorem ggL_hangs_L_count : GoodIn wsL_hangs wsL_count := goodIn_ca (goodIn_r _ [64, 7, 65, 66, 67, 11, 68, 13, 69, 70, 71, 72, 73, 14, 52, 51, 50, 74, 75, 20, 21, 22, 23, 24, 76, 77, 78, 241, 242, 243, 244, 245, 246, 247, 248, 249, 250, 251, 252, 253, 260, 261, 262, 263, 264, 265, 266, 254, 255, 256, 257, 258, 259, 267, 268] (by decide +kernel) (by decide +kernel)) (goodIn_sub (fun _ h => List.mem_cons_of_mem _ (List.mem_append_right _ h)) (by decide +kernel))
set_option maxRecDepth 20000 in
theorem gL_hangs_L_count : GoodIn wsL_hangs (va_wsS RL 120 yL_count wsL_count) := goodIn_app (goodIn_of _ (by decide +kernel)) ggL_hangs_L_count
set_option maxRecDepth 20000 in
theorem ggL_hangs_L_waits : GoodIn wsL_hangs wsL_waits := goodIn_ca (goodIn_r _ [81, 7, 82, 83, 84, 11, 85, 13, 69, 70, 86, 87, 88, 89, 90, 91, 92, 23, 24, 20, 21, 22, 93, 94, 95, 96, 97, 98, 99, 100, 101, 102, 103, 104, 105, 106, 107, 108, 241, 242, 243, 244, 245, 246, 247, 248, 249, 250, 251, 252, 253, 260, 261, 262, 263, 269, 270, 271] (by decide +kernel) (by decide +kernel)) (goodIn_sub (fun _ h => List.mem_cons_of_mem _ (List.mem_append_right _ h)) (by decide +kernel))
set_option maxRecDepth 20000 in
theorem gL_hangs_L_waits : GoodIn wsL_hangs (va_wsS RL 122 yL_waits wsL_waits) := goodIn_app (goodIn_of _ (by decide +kernel)) ggL_hangs_L_waits
set_option maxRecDepth 20000 in
theorem ggL_hangs_L_arrival : GoodIn wsL_hangs wsL_arrival := goodIn_ca (goodIn_r _ [111, 7, 112, 113, 114, 11, 115, 13, 72, 20, 21, 22, 23, 24, 116, 117, 118, 119, 120, 121, 122, 241, 242, 243, 244, 245, 246, 247, 248, 249, 250, 251, 252, 253, 264, 265, 266] (by decide +kernel) (by decide +kernel)) (goodIn_sub (fun _ h => List.mem_cons_of_mem _ (List.mem_append_right _ h)) (by decide +kernel))
set_option maxRecDepth 20000 in
theorem gL_hangs_L_arrival : GoodIn wsL_hangs (va_wsS RL 124 yL_arrival wsL_arrival) := goodIn_app (goodIn_of _ (by decide +kernel)) ggL_hangs_L_arrival
set_option maxRecDepth 20000 in
theorem ggL_hangs_L_told : GoodIn wsL_hangs wsL_told := goodIn_ca (goodIn_r _ [125, 7, 126, 127, 128, 11, 129, 13, 72, 20, 21, 22, 23, 24, 90, 91, 92, 130, 131, 132, 119, 133, 134, 117, 118, 120, 121, 122, 135, 136, 137, 138, 139, 140, 141, 142, 143, 144, 145, 241, 242, 243, 244, 245, 246, 247, 248, 249, 250, 251, 252, 253, 264, 265, 266] (by decide +kernel) (by decide +kernel)) (goodIn_sub (fun _ h => List.mem_cons_of_mem _ (List.mem_append_right _ h)) (by decide +kernel))
set_option maxRecDepth 20000 in
theorem gL_hangs_L_told : GoodIn wsL_hangs (va_wsS RL 126 yL_told wsL_told) := goodIn_app (goodIn_of _ (by decide +kernel)) ggL_hangs_L_told
set_option maxRecDepth 20000 in
theorem ggL_hangs_L_lost : GoodIn wsL_hangs wsL_lost := goodIn_ca (goodIn_r _ [148, 7, 149, 150, 151, 11, 152, 13, 153, 20, 21, 22, 23, 24, 154, 155, 156, 157, 158, 159, 160, 161, 162, 163, 241, 242, 243, 244, 245, 246, 247, 248, 249, 250, 251, 252, 253] (by decide +kernel) (by decide +kernel)) (goodIn_sub (fun _ h => List.mem_cons_of_mem _ (List.mem_append_right _ h)) (by decide +kernel))
set_option maxRecDepth 20000 in
theorem gL_hangs_L_lost : GoodIn wsL_hangs (va_wsS RL 129 yL_lost wsL_lost) := goodIn_app (goodIn_of _ (by decide +kernel)) ggL_hangs_L_lost
set_option maxRecDepth 20000 in
theorem ggL_hangs_L_stopped : GoodIn wsL_hangs wsL_stopped := goodIn_ca (goodIn_r _ [166, 7, 167, 168, 169, 11, 170, 13, 171, 172, 20, 21, 22, 23, 24, 241, 242, 243, 244, 245, 246, 247, 248, 249, 250, 251, 252, 253] (by decide +kernel) (by decide +kernel)) (goodIn_sub (fun _ h => List.mem_cons_of_mem _ (List.mem_append_right _ h)) (by decide +kernel))
set_option maxRecDepth 20000 in
theorem gL_hangs_L_stopped : GoodIn wsL_hangs (va_wsS RL 131 yL_stopped wsL_stopped) := goodIn_app (goodIn_of _ (by decide +kernel)) ggL_hangs_L_stopped
set_option maxRecDepth 20000 in
theorem ggL_hangs_X8_throughShare : GoodIn wsL_hangs wsX8_throughShare := goodIn_r _ [176, 13, 71, 14, 52, 76, 77, 11, 78, 241, 242, 243, 244, 245, 246, 247, 248, 249, 250, 251, 252, 253, 254, 255, 256, 257, 258, 259] (by decide +kernel) (by decide +kernel)
set_option maxRecDepth 20000 in
theorem gL_hangs_X8_throughShare : GoodIn wsL_hangs (wsV RL 133 RX8 yX8_throughShare wsX8_throughShare) := goodIn_app (goodIn_of _ (by decide +kernel)) ggL_hangs_X8_throughShare
set_option maxRecDepth 20000 in
theorem ggL_hangs_L_ifGone : GoodIn wsL_hangs wsL_ifGone := goodIn_ca (goodIn_ca (goodIn_r _ [179, 6, 7, 180, 181, 182, 11, 183, 13, 69, 70, 184, 14, 15, 16, 17, 18, 19, 20, 21, 22, 23, 24, 185, 186, 187, 188, 86, 93, 94, 95, 96, 97, 98, 99, 100, 101, 102, 103, 104, 105, 106, 107, 108, 189, 190, 191, 192, 193, 194, 195, 196, 197, 198, 199, 200, 201, 202, 203, 204, 205, 28, 206, 35, 26, 27, 29, 30, 207, 208, 209, 210, 211, 212, 213, 214, 215, 216, 217, 218, 219, 220, 221, 222, 223, 241, 242, 243, 244, 245, 246, 247, 248, 249, 250, 251, 252, 253, 260, 261, 262, 263, 269, 270, 271, 272, 273, 274, 254, 255, 256, 257, 258, 259] (by decide +kernel) (by decide +kernel)) (goodIn_sub (fun _ h => List.mem_cons_of_mem _ (List.mem_append_left _ (List.mem_append_right _ h))) (by decide +kernel))) (goodIn_sub (fun _ h => List.mem_cons_of_mem _ (List.mem_append_right _ h)) (by decide +kernel))
set_option maxRecDepth 20000 in
theorem gL_hangs_L_ifGone : GoodIn wsL_hangs (va_wsS RL 137 yL_ifGone wsL_ifGone) := goodIn_app (goodIn_of _ (by decide +kernel)) ggL_hangs_L_ifGone
set_option maxRecDepth 20000 in
theorem ggL_hangs_X8_costs : GoodIn wsL_hangs wsX8_costs := goodIn_r _ [227, 13, 69, 70, 184, 14, 185, 186, 187, 11, 188, 86, 93, 94, 95, 96, 97, 98, 99, 100, 101, 102, 103, 104, 105, 106, 107, 108, 189, 190, 191, 192, 193, 194, 195, 196, 197, 198, 199, 200, 201, 202, 203, 204, 205, 28, 206, 35, 26, 27, 29, 30, 228, 229, 230, 231, 232, 216, 217, 218, 219, 241, 242, 243, 244, 245, 246, 247, 248, 249, 250, 251, 252, 253, 260, 261, 262, 263, 269, 270, 271, 272, 273, 274, 254, 255, 256, 257, 258, 259] (by decide +kernel) (by decide +kernel)
set_option maxRecDepth 20000 in
theorem gL_hangs_X8_costs : GoodIn wsL_hangs (wsV RL 139 RX8 yX8_costs wsX8_costs) := goodIn_app (goodIn_of _ (by decide +kernel)) ggL_hangs_X8_costs
set_option maxRecDepth 20000 in
theorem ggL_hangs_X8_worstEar : GoodIn wsL_hangs wsX8_worstEar := goodIn_r _ [236, 13, 69, 70, 184, 185, 186, 187, 11, 188, 86, 14, 93, 94, 95, 96, 97, 98, 99, 100, 101, 102, 103, 104, 105, 106, 107, 108, 189, 190, 191, 192, 193, 194, 195, 196, 197, 198, 199, 200, 201, 202, 203, 204, 205, 28, 206, 35, 26, 27, 29, 30, 237, 238, 239, 240, 241, 242, 243, 244, 245, 246, 247, 248, 249, 250, 251, 252, 253, 260, 261, 262, 263, 269, 270, 271, 272, 273, 274, 254, 255, 256, 257, 258, 259] (by decide +kernel) (by decide +kernel)
set_option maxRecDepth 20000 in
theorem gL_hangs_X8_worstEar : GoodIn wsL_hangs (wsV RL 142 RX8 yX8_worstEar wsX8_worstEar) := goodIn_app (goodIn_of _ (by decide +kernel)) ggL_hangs_X8_worstEar
