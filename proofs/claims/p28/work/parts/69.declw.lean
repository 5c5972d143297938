theorem dL_cell_0 : decode cL_cell 0 = .ok (.iload_n 1, 1) := by decide +kernel
theorem dL_cell_1 : decode cL_cell 1 = .ok (.aload_n 0, 1) := by decide +kernel
theorem dL_cell_2 : decode cL_cell 2 = .ok (.arraylength, 1) := by decide +kernel
theorem dL_cell_3 : decode cL_cell 3 = .ok (.if_icmp .ge 9, 3) := by decide +kernel
theorem dL_cell_6 : decode cL_cell 6 = .ok (.aload_n 0, 1) := by decide +kernel
theorem dL_cell_7 : decode cL_cell 7 = .ok (.iload_n 1, 1) := by decide +kernel
theorem dL_cell_8 : decode cL_cell 8 = .ok (.iaload, 1) := by decide +kernel
theorem dL_cell_9 : decode cL_cell 9 = .ok (.goto 13, 3) := by decide +kernel
theorem dL_cell_12 : decode cL_cell 12 = .ok (.ldc 7, 2) := by decide +kernel
theorem dL_cell_14 : decode cL_cell 14 = .ok (.iload_n 1, 1) := by decide +kernel
theorem dL_cell_15 : decode cL_cell 15 = .ok (.bipush 47, 2) := by decide +kernel
theorem dL_cell_17 : decode cL_cell 17 = .ok (.iadd, 1) := by decide +kernel
theorem dL_cell_18 : decode cL_cell 18 = .ok (.imul, 1) := by decide +kernel
theorem dL_cell_19 : decode cL_cell 19 = .ok (.bipush 83, 2) := by decide +kernel
theorem dL_cell_21 : decode cL_cell 21 = .ok (.iadd, 1) := by decide +kernel
theorem dL_cell_22 : decode cL_cell 22 = .ok (.ldc 8, 2) := by decide +kernel
theorem dL_cell_24 : decode cL_cell 24 = .ok (.iand, 1) := by decide +kernel
theorem dL_cell_25 : decode cL_cell 25 = .ok (.ireturn, 1) := by decide +kernel
set_option maxRecDepth 20000 in
theorem ggL_teach_X8_teach : GoodIn wsL_teach wsX8_teach := goodIn_ca (goodIn_ca (goodIn_r _ [7, 8, 9, 10, 11, 12, 6, 13, 14, 15, 16, 17, 18, 19, 20, 21, 22, 23, 24, 25, 26, 27, 28, 29, 30, 31, 32, 33, 34, 35, 36, 37, 38, 39, 40, 41, 42, 43, 44, 45, 46, 47, 48, 49, 50, 51, 52, 53, 54, 55, 56, 57, 58, 59, 60, 61, 62, 63, 64, 65, 66, 67, 68, 69, 70, 71, 72, 73, 74, 75, 76, 77, 78, 79, 80, 81, 82, 83, 84, 85, 86, 87, 88, 89, 90, 91, 92, 93, 94, 95, 96, 97, 98, 99, 100, 101, 102, 103, 104, 105, 106, 107, 108, 109, 110, 111, 112, 113, 114, 115, 116, 117, 118, 119, 120, 121, 122, 123, 124, 125, 126, 127, 128, 129, 130, 131, 132, 133, 134, 135, 136, 137, 138] (by decide +kernel) (by decide +kernel)) (goodIn_sub (fun _ h => List.mem_cons_of_mem _ (List.mem_append_left _ (List.mem_append_right _ h))) (by decide +kernel))) (goodIn_sub (fun _ h => List.mem_cons_of_mem _ (List.mem_append_right _ h)) (by decide +kernel))
set_option maxRecDepth 20000 in
theorem gL_teach_X8_teach : GoodIn wsL_teach (wsV RL 9 RX8 yX8_teach wsX8_teach) := goodIn_app (goodIn_of _ (by decide +kernel)) ggL_teach_X8_teach
theorem dL_teach_0 : decode cL_teach 0 = .ok (.aload_n 0, 1) := by decide +kernel
theorem dL_teach_1 : decode cL_teach 1 = .ok (.iload_n 1, 1) := by decide +kernel
theorem dL_teach_2 : decode cL_teach 2 = .ok (.iload_n 2, 1) := by decide +kernel
theorem dL_teach_3 : decode cL_teach 3 = .ok (.iload_n 3, 1) := by decide +kernel
theorem dL_teach_4 : decode cL_teach 4 = .ok (.invokevirtual 9, 3) := by decide +kernel
theorem dL_teach_7 : decode cL_teach 7 = .ok (.ireturn, 1) := by decide +kernel
theorem dL_teach_8 : decode cL_teach 8 = .ok (.astore 4, 2) := by decide +kernel
theorem dL_teach_10 : decode cL_teach 10 = .ok (.bipush (-3), 2) := by decide +kernel
theorem dL_teach_12 : decode cL_teach 12 = .ok (.ireturn, 1) := by decide +kernel
theorem dL_teach_13 : decode cL_teach 13 = .ok (.astore 4, 2) := by decide +kernel
theorem dL_teach_15 : decode cL_teach 15 = .ok (.bipush (-2), 2) := by decide +kernel
theorem dL_teach_17 : decode cL_teach 17 = .ok (.ireturn, 1) := by decide +kernel
set_option maxRecDepth 20000 in
theorem ggL_ear_X8_ear : GoodIn wsL_ear wsX8_ear := goodIn_ca (goodIn_ca (goodIn_r _ [7, 8, 9, 10, 11, 12, 13, 6, 14, 15, 16, 17, 18, 19, 20, 21, 22, 23, 24, 25, 26, 27, 28, 29, 30, 31, 32, 33, 34, 35, 36, 37, 38, 39, 40, 41, 42, 43, 44, 45, 46, 47, 48, 49, 50, 51, 52, 53, 54, 55, 56, 57, 58, 59, 60, 61, 62, 63, 64, 65, 66, 67, 68, 69, 70, 71, 72, 73, 74, 75, 76, 77, 78, 79, 80, 81, 82, 83, 84, 85, 86, 87, 88, 89, 90, 91, 92, 93, 94, 95, 96, 97, 98, 99, 100, 101, 102, 103, 104, 105, 106, 107, 108, 109, 110, 111, 112, 113, 114, 115, 116, 117, 118, 119, 120, 121, 122, 123, 124, 125, 126, 127, 128, 129, 130, 131] (by decide +kernel) (by decide +kernel)) (goodIn_sub (fun _ h => List.mem_cons_of_mem _ (List.mem_append_left _ (List.mem_append_right _ h))) (by decide +kernel))) (goodIn_sub (fun _ h => List.mem_cons_of_mem _ (List.mem_append_right _ h)) (by decide +kernel))
set_option maxRecDepth 20000 in
theorem gL_ear_X8_ear : GoodIn wsL_ear (wsV RL 19 RX8 yX8_ear wsX8_ear) := goodIn_app (goodIn_of _ (by decide +kernel)) ggL_ear_X8_ear
theorem dL_ear_0 : decode cL_ear 0 = .ok (.aload_n 0, 1) := by decide +kernel
theorem dL_ear_1 : decode cL_ear 1 = .ok (.iload_n 1, 1) := by decide +kernel
theorem dL_ear_2 : decode cL_ear 2 = .ok (.iload_n 2, 1) := by decide +kernel
theorem dL_ear_3 : decode cL_ear 3 = .ok (.invokevirtual 19, 3) := by decide +kernel
theorem dL_ear_6 : decode cL_ear 6 = .ok (.ireturn, 1) := by decide +kernel
theorem dL_ear_7 : decode cL_ear 7 = .ok (.astore_n 3, 1) := by decide +kernel
theorem dL_ear_8 : decode cL_ear 8 = .ok (.bipush (-3), 2) := by decide +kernel
theorem dL_ear_10 : decode cL_ear 10 = .ok (.ireturn, 1) := by decide +kernel
theorem dL_ear_11 : decode cL_ear 11 = .ok (.astore_n 3, 1) := by decide +kernel
theorem dL_ear_12 : decode cL_ear 12 = .ok (.bipush (-2), 2) := by decide +kernel
theorem dL_ear_14 : decode cL_ear 14 = .ok (.ireturn, 1) := by decide +kernel
set_option maxRecDepth 20000 in
theorem ggL_fee_X8_fee : GoodIn wsL_fee wsX8_fee := goodIn_ca (goodIn_ca (goodIn_r _ [7, 8, 9, 10, 11, 12, 13, 6, 14, 15, 16, 17, 18, 19, 20, 21, 22, 23, 24, 25, 26, 27, 28, 29, 30, 31, 32, 33, 34, 35, 36, 37, 38, 39, 40, 41, 42, 43, 44, 45, 46, 47, 48, 49, 50, 51, 52, 53, 54, 55, 56, 57, 58, 59, 60, 61, 62, 63, 64, 65, 66, 67, 68, 69, 70, 71, 72, 73, 74, 75, 76, 77, 78, 79, 80, 81, 82, 83, 84, 85, 86, 87, 88, 89, 90, 91, 92, 93, 94, 95, 96, 97, 98, 99, 100, 101, 102, 103, 104, 105, 106, 107, 108, 109, 110, 111, 112, 113, 114, 115, 116, 117, 118, 119, 120, 121, 122, 123, 124, 125, 126, 127, 128, 129, 130, 131] (by decide +kernel) (by decide +kernel)) (goodIn_sub (fun _ h => List.mem_cons_of_mem _ (List.mem_append_left _ (List.mem_append_right _ h))) (by decide +kernel))) (goodIn_sub (fun _ h => List.mem_cons_of_mem _ (List.mem_append_right _ h)) (by decide +kernel))
set_option maxRecDepth 20000 in
theorem gL_fee_X8_fee : GoodIn wsL_fee (wsV RL 23 RX8 yX8_fee wsX8_fee) := goodIn_app (goodIn_of _ (by decide +kernel)) ggL_fee_X8_fee
theorem dL_fee_0 : decode cL_fee 0 = .ok (.aload_n 0, 1) := by decide +kernel
theorem dL_fee_1 : decode cL_fee 1 = .ok (.iload_n 1, 1) := by decide +kernel
theorem dL_fee_2 : decode cL_fee 2 = .ok (.iload_n 2, 1) := by decide +kernel
theorem dL_fee_3 : decode cL_fee 3 = .ok (.invokevirtual 23, 3) := by decide +kernel
theorem dL_fee_6 : decode cL_fee 6 = .ok (.ireturn, 1) := by decide +kernel
theorem dL_fee_7 : decode cL_fee 7 = .ok (.astore_n 3, 1) := by decide +kernel
theorem dL_fee_8 : decode cL_fee 8 = .ok (.bipush (-3), 2) := by decide +kernel
theorem dL_fee_10 : decode cL_fee 10 = .ok (.ireturn, 1) := by decide +kernel
theorem dL_fee_11 : decode cL_fee 11 = .ok (.astore_n 3, 1) := by decide +kernel
theorem dL_fee_12 : decode cL_fee 12 = .ok (.bipush (-2), 2) := by decide +kernel
theorem dL_fee_14 : decode cL_fee 14 = .ok (.ireturn, 1) := by decide +kernel
set_option maxRecDepth 20000 in
theorem ggL_go_X8_go : GoodIn wsL_go wsX8_go := goodIn_ca (goodIn_r _ [6, 7, 8, 9, 10, 11, 12, 13, 14, 15, 16, 17, 18, 19, 20, 21, 22, 23, 24, 25, 26, 27, 28, 29, 30, 31, 32, 33, 34, 35, 36, 37, 38, 39, 40, 41, 42, 43, 44, 45, 46, 47, 48, 49, 50, 51, 52, 53, 54, 55, 56, 57, 58, 59, 60, 61, 62, 63, 64, 65, 66, 67, 68, 69, 70, 71, 72, 73, 74, 75, 76, 77, 78, 79, 80, 81, 82, 83, 84, 85, 86, 87, 88, 89, 90, 91, 92, 93, 94, 95, 96, 97, 5, 98, 99, 100, 101, 102, 103, 104, 105, 106, 107, 108, 109, 110, 111, 112, 113, 114, 115, 116, 117, 118, 119, 120, 121, 122, 123, 124, 125, 126, 127, 128, 129, 130, 131, 132, 133, 134, 135, 136, 137, 138, 139, 140, 141, 142, 143, 144, 145, 146, 147, 148, 149, 150, 151, 152, 153, 154, 155, 156, 157, 158, 159, 160, 161, 162, 163, 164, 165, 166, 167, 168, 169, 170, 171, 172, 173, 174, 175, 176, 177, 178, 179, 180, 181, 182, 183, 184, 185, 186, 187, 188, 189, 190, 191, 192, 193, 194, 195, 196, 197, 198, 199, 200, 201, 202, 203, 204, 205, 206, 207, 208, 209, 210, 211, 212, 213, 214, 215, 216, 217, 218, 219, 220, 221, 222, 223, 224, 225, 226, 227, 228, 229, 230, 231, 232, 233, 234, 235, 236, 237, 238, 239, 240, 241, 242, 243, 244, 245, 246, 247, 248, 249, 250, 251, 252, 253, 254, 255, 256, 257, 258, 259, 260, 261, 262, 263, 264, 265] (by decide +kernel) (by decide +kernel)) (goodIn_sub (fun _ h => List.mem_cons_of_mem _ (List.mem_append_right _ h)) (by decide +kernel))
set_option maxRecDepth 20000 in
theorem gL_go_X8_go : GoodIn wsL_go (wsV RL 26 RX8 yX8_go wsX8_go) := goodIn_app (goodIn_of _ (by decide +kernel)) ggL_go_X8_go
theorem dL_go_0 : decode cL_go 0 = .ok (.aload_n 0, 1) := by decide +kernel
theorem dL_go_1 : decode cL_go 1 = .ok (.invokevirtual 26, 3) := by decide +kernel
theorem dL_go_4 : decode cL_go 4 = .ok (.ireturn, 1) := by decide +kernel
theorem dL_go_5 : decode cL_go 5 = .ok (.astore_n 1, 1) := by decide +kernel
theorem dL_go_6 : decode cL_go 6 = .ok (.bipush (-2), 2) := by decide +kernel
theorem dL_go_8 : decode cL_go 8 = .ok (.ireturn, 1) := by decide +kernel
set_option maxRecDepth 20000 in
theorem ggL_append_X8_append : GoodIn wsL_append wsX8_append := goodIn_ca (goodIn_ca (goodIn_r _ [7, 8, 9, 10, 11, 12, 13, 6, 14, 15, 16, 17, 18, 19, 20, 21, 22, 23, 24, 25, 26, 27, 28, 29, 30, 31, 32, 33, 34, 35, 36, 37] (by decide +kernel) (by decide +kernel)) (goodIn_sub (fun _ h => List.mem_cons_of_mem _ (List.mem_append_left _ (List.mem_append_right _ h))) (by decide +kernel))) (goodIn_sub (fun _ h => List.mem_cons_of_mem _ (List.mem_append_right _ h)) (by decide +kernel))
set_option maxRecDepth 20000 in
theorem gL_append_X8_append : GoodIn wsL_append (wsV RL 32 RX8 yX8_append wsX8_append) := goodIn_app (goodIn_of _ (by decide +kernel)) ggL_append_X8_append
theorem dL_append_0 : decode cL_append 0 = .ok (.aload_n 0, 1) := by decide +kernel
theorem dL_append_1 : decode cL_append 1 = .ok (.iload_n 1, 1) := by decide +kernel
theorem dL_append_2 : decode cL_append 2 = .ok (.invokevirtual 32, 3) := by decide +kernel
theorem dL_append_5 : decode cL_append 5 = .ok (.ireturn, 1) := by decide +kernel
theorem dL_append_6 : decode cL_append 6 = .ok (.astore_n 2, 1) := by decide +kernel
theorem dL_append_7 : decode cL_append 7 = .ok (.bipush (-2), 2) := by decide +kernel
theorem dL_append_9 : decode cL_append 9 = .ok (.ireturn, 1) := by decide +kernel
theorem dL_append_10 : decode cL_append 10 = .ok (.astore_n 2, 1) := by decide +kernel
theorem dL_append_11 : decode cL_append 11 = .ok (.bipush (-3), 2) := by decide +kernel
theorem dL_append_13 : decode cL_append 13 = .ok (.ireturn, 1) := by decide +kernel
set_option maxRecDepth 20000 in
theorem ggL_obey_X8_obey : GoodIn wsL_obey wsX8_obey := goodIn_ca (goodIn_r _ [6, 7, 8, 9, 10, 11, 12, 13, 14, 15, 16, 17, 18, 19, 20, 21, 22, 23, 24, 25, 26, 27, 28, 29, 30, 31, 32, 33, 34, 35, 36, 37, 38, 39, 40, 41, 42, 43, 44, 45, 46, 47, 48, 49, 50, 51, 52, 53, 54, 55, 56, 57, 58, 59, 60, 61, 62, 63, 64, 65, 66, 67, 68, 69, 70, 71, 72, 73, 74, 75, 76, 77, 78, 79, 80, 81, 82, 83, 84, 85, 86, 87, 88, 89, 90, 91, 92, 93, 94, 95, 96, 97, 98, 99, 100, 101, 102, 103, 104, 105, 106, 107, 108, 109, 110, 111, 112, 113, 114, 115, 116, 117, 118, 119, 120, 121, 122, 123, 124, 125, 126, 127, 128, 129, 130, 131, 132, 133, 134, 135, 136, 137, 138, 139, 140, 141, 142, 143, 144, 145, 146, 147, 148, 149, 150, 151, 152, 153, 154, 155, 156, 157, 158, 159, 160, 161, 162, 163, 164, 165, 166, 167, 168, 169, 170, 171, 172, 173, 174, 175, 176, 177, 178, 179, 180, 181, 182, 183, 184, 185, 186, 187, 188, 189, 190, 191, 192, 193, 194, 195, 196, 197, 198, 199, 200, 201, 202, 203, 204, 205, 206, 207, 208, 209, 210, 211, 212, 213, 214, 215, 216, 217, 218, 219, 5, 220, 221, 222, 223, 224, 225, 226, 227, 228, 229, 230, 231, 232, 233, 234, 235, 236, 237, 238, 239, 240, 241, 242, 243, 244, 245, 246, 247, 248, 249, 250, 251, 252, 253, 254, 255, 256, 257, 258, 259, 260, 261, 262, 263, 264, 265, 266, 267, 268, 269, 270, 271, 272, 273, 274, 275, 276, 277, 278, 279, 280, 281, 282, 283, 284, 285, 286, 287, 288, 289, 290, 291, 292, 293, 294, 295, 296, 297, 298, 299, 300, 301, 302, 303, 304, 305, 306, 307, 308, 309, 310, 311, 312, 313, 314, 315, 316, 317, 318, 319, 320, 321, 322, 323, 324, 325, 326, 327, 328, 329, 330, 331, 332, 333, 334, 335, 336, 337, 338, 339, 340, 341, 342, 343, 344, 345, 346, 347, 348, 349, 350, 351, 352, 353, 354, 355, 356, 357, 358, 359, 360, 361, 362, 363, 364, 365, 366, 367, 368, 369, 370, 371, 372, 373, 374, 375, 376, 377, 378, 379, 380, 381, 382, 383, 384, 385, 386, 387, 388, 389, 390, 391, 392, 393, 394, 395, 396, 397, 398, 399, 400, 401, 402, 403, 404, 405, 406, 407, 408, 409, 410, 411, 412, 413, 414, 415, 416, 417] (by decide +kernel) (by decide +kernel)) (goodIn_sub (fun _ h => List.mem_cons_of_mem _ (List.mem_append_right _ h)) (by decide +kernel))
set_option maxRecDepth 20000 in
theorem gL_obey_X8_obey : GoodIn wsL_obey (wsV RL 36 RX8 yX8_obey wsX8_obey) := goodIn_app (goodIn_of _ (by decide +kernel)) ggL_obey_X8_obey
theorem dL_obey_0 : decode cL_obey 0 = .ok (.aload_n 0, 1) := by decide +kernel
theorem dL_obey_1 : decode cL_obey 1 = .ok (.invokevirtual 36, 3) := by decide +kernel
theorem dL_obey_4 : decode cL_obey 4 = .ok (.ireturn, 1) := by decide +kernel
theorem dL_obey_5 : decode cL_obey 5 = .ok (.astore_n 1, 1) := by decide +kernel
theorem dL_obey_6 : decode cL_obey 6 = .ok (.bipush (-2), 2) := by decide +kernel
theorem dL_obey_8 : decode cL_obey 8 = .ok (.ireturn, 1) := by decide +kernel
set_option maxRecDepth 20000 in
theorem ggL_told_X8_told : GoodIn wsL_told wsX8_told := goodIn_ca (goodIn_r _ [6, 7, 8, 9, 10, 5, 11, 12, 13, 14, 15, 16, 17, 18, 19, 20, 21, 22, 23, 24, 25, 26, 27, 28, 29, 30, 31, 32, 33, 34, 35, 36, 37, 38, 39, 40, 41, 42, 43, 44, 45, 46, 47, 48, 49, 50, 51, 52, 53, 54] (by decide +kernel) (by decide +kernel)) (goodIn_sub (fun _ h => List.mem_cons_of_mem _ (List.mem_append_right _ h)) (by decide +kernel))
set_option maxRecDepth 20000 in
theorem gL_told_X8_told : GoodIn wsL_told (wsV RL 39 RX8 yX8_told wsX8_told) := goodIn_app (goodIn_of _ (by decide +kernel)) ggL_told_X8_told
theorem dL_told_0 : decode cL_told 0 = .ok (.aload_n 0, 1) := by decide +kernel
theorem dL_told_1 : decode cL_told 1 = .ok (.iload_n 1, 1) := by decide +kernel
theorem dL_told_2 : decode cL_told 2 = .ok (.iload_n 2, 1) := by decide +kernel
theorem dL_told_3 : decode cL_told 3 = .ok (.invokevirtual 39, 3) := by decide +kernel
theorem dL_told_6 : decode cL_told 6 = .ok (.ireturn, 1) := by decide +kernel
theorem dL_told_7 : decode cL_told 7 = .ok (.astore_n 3, 1) := by decide +kernel
theorem dL_told_8 : decode cL_told 8 = .ok (.bipush (-2), 2) := by decide +kernel
theorem dL_told_10 : decode cL_told 10 = .ok (.ireturn, 1) := by decide +kernel
set_option maxRecDepth 20000 in
theorem ggL_meaning_X8_meaning : GoodIn wsL_meaning wsX8_meaning := goodIn_ca (goodIn_ca (goodIn_r _ [7, 8, 9, 10, 11, 6, 12, 13, 14, 15, 16, 17, 18, 19, 20, 21, 22, 23, 24, 25, 26, 27, 28, 29, 30, 31, 32, 33, 34, 35, 36, 37, 38, 39, 40, 41, 42, 43, 44, 45, 46, 47, 48, 49, 50, 51, 52, 53, 54] (by decide +kernel) (by decide +kernel)) (goodIn_sub (fun _ h => List.mem_cons_of_mem _ (List.mem_append_left _ (List.mem_append_right _ h))) (by decide +kernel))) (goodIn_sub (fun _ h => List.mem_cons_of_mem _ (List.mem_append_right _ h)) (by decide +kernel))
set_option maxRecDepth 20000 in
theorem gL_meaning_X8_meaning : GoodIn wsL_meaning (wsV RL 42 RX8 yX8_meaning wsX8_meaning) := goodIn_app (goodIn_of _ (by decide +kernel)) ggL_meaning_X8_meaning
theorem dL_meaning_0 : decode cL_meaning 0 = .ok (.aload_n 0, 1) := by decide +kernel
theorem dL_meaning_1 : decode cL_meaning 1 = .ok (.iload_n 1, 1) := by decide +kernel
theorem dL_meaning_2 : decode cL_meaning 2 = .ok (.iload_n 2, 1) := by decide +kernel
theorem dL_meaning_3 : decode cL_meaning 3 = .ok (.iload_n 3, 1) := by decide +kernel
theorem dL_meaning_4 : decode cL_meaning 4 = .ok (.invokevirtual 42, 3) := by decide +kernel
theorem dL_meaning_7 : decode cL_meaning 7 = .ok (.ireturn, 1) := by decide +kernel
theorem dL_meaning_8 : decode cL_meaning 8 = .ok (.astore 4, 2) := by decide +kernel
theorem dL_meaning_10 : decode cL_meaning 10 = .ok (.bipush (-3), 2) := by decide +kernel
theorem dL_meaning_12 : decode cL_meaning 12 = .ok (.ireturn, 1) := by decide +kernel
theorem dL_meaning_13 : decode cL_meaning 13 = .ok (.astore 4, 2) := by decide +kernel
theorem dL_meaning_15 : decode cL_meaning 15 = .ok (.bipush (-2), 2) := by decide +kernel
theorem dL_meaning_17 : decode cL_meaning 17 = .ok (.ireturn, 1) := by decide +kernel
set_option maxRecDepth 20000 in
theorem ggL_link_X8_link : GoodIn wsL_link wsX8_link := goodIn_ca (goodIn_ca (goodIn_r _ [7, 8, 9, 10, 11, 12, 13, 14, 15, 16, 6, 17, 18, 19, 20, 21, 22, 23, 24, 25, 26, 27, 28, 29, 30, 31, 32, 33, 34, 35, 36, 37, 38, 39, 40, 41, 42, 43, 44, 45, 46, 47, 48, 49, 50, 51, 52, 53, 54, 55, 56, 57, 58, 59, 60, 61, 62, 63, 64, 65] (by decide +kernel) (by decide +kernel)) (goodIn_sub (fun _ h => List.mem_cons_of_mem _ (List.mem_append_left _ (List.mem_append_right _ h))) (by decide +kernel))) (goodIn_sub (fun _ h => List.mem_cons_of_mem _ (List.mem_append_right _ h)) (by decide +kernel))
set_option maxRecDepth 20000 in
theorem gL_link_X8_link : GoodIn wsL_link (wsV RL 45 RX8 yX8_link wsX8_link) := goodIn_app (goodIn_of _ (by decide +kernel)) ggL_link_X8_link
theorem dL_link_0 : decode cL_link 0 = .ok (.aload_n 0, 1) := by decide +kernel
theorem dL_link_1 : decode cL_link 1 = .ok (.iload_n 1, 1) := by decide +kernel
theorem dL_link_2 : decode cL_link 2 = .ok (.iload_n 2, 1) := by decide +kernel
theorem dL_link_3 : decode cL_link 3 = .ok (.invokevirtual 45, 3) := by decide +kernel
theorem dL_link_6 : decode cL_link 6 = .ok (.ireturn, 1) := by decide +kernel
theorem dL_link_7 : decode cL_link 7 = .ok (.astore_n 3, 1) := by decide +kernel
theorem dL_link_8 : decode cL_link 8 = .ok (.bipush (-3), 2) := by decide +kernel
theorem dL_link_10 : decode cL_link 10 = .ok (.ireturn, 1) := by decide +kernel
theorem dL_link_11 : decode cL_link 11 = .ok (.astore_n 3, 1) := by decide +kernel
theorem dL_link_12 : decode cL_link 12 = .ok (.bipush (-2), 2) := by decide +kernel
theorem dL_link_14 : decode cL_link 14 = .ok (.ireturn, 1) := by decide +kernel
set_option maxRecDepth 20000 in
theorem ggL_waits_X8_waits : GoodIn wsL_waits wsX8_waits := goodIn_ca (goodIn_r _ [6, 7, 8, 9, 10, 11, 12, 13, 14, 15, 5, 16, 17, 18, 19, 20, 21, 22, 23, 24, 25, 26, 27, 28, 29, 30, 31, 32, 33, 34, 35, 36, 37, 38, 39, 40, 41, 42, 43, 44, 45, 46, 47, 48, 49, 50, 51, 52, 53, 54, 55, 56, 57] (by decide +kernel) (by decide +kernel)) (goodIn_sub (fun _ h => List.mem_cons_of_mem _ (List.mem_append_right _ h)) (by decide +kernel))
set_option maxRecDepth 20000 in
theorem gL_waits_X8_waits : GoodIn wsL_waits (wsV RL 48 RX8 yX8_waits wsX8_waits) := goodIn_app (goodIn_of _ (by decide +kernel)) ggL_waits_X8_waits
theorem dL_waits_0 : decode cL_waits 0 = .ok (.aload_n 0, 1) := by decide +kernel
theorem dL_waits_1 : decode cL_waits 1 = .ok (.iload_n 1, 1) := by decide +kernel
theorem dL_waits_2 : decode cL_waits 2 = .ok (.iload_n 2, 1) := by decide +kernel
theorem dL_waits_3 : decode cL_waits 3 = .ok (.invokevirtual 48, 3) := by decide +kernel
theorem dL_waits_6 : decode cL_waits 6 = .ok (.ireturn, 1) := by decide +kernel
theorem dL_waits_7 : decode cL_waits 7 = .ok (.astore_n 3, 1) := by decide +kernel
theorem dL_waits_8 : decode cL_waits 8 = .ok (.bipush (-2), 2) := by decide +kernel
theorem dL_waits_10 : decode cL_waits 10 = .ok (.ireturn, 1) := by decide +kernel
set_option maxRecDepth 20000 in
theorem ggL_arrival_X8_arrival : GoodIn wsL_arrival wsX8_arrival := goodIn_ca (goodIn_r _ [6, 7, 8, 9, 10, 5, 11, 12, 13, 14, 15, 16, 17, 18, 19, 20, 21, 22, 23, 24, 25, 26, 27, 28, 29, 30, 31, 32, 33, 34, 35, 36] (by decide +kernel) (by decide +kernel)) (goodIn_sub (fun _ h => List.mem_cons_of_mem _ (List.mem_append_right _ h)) (by decide +kernel))
set_option maxRecDepth 20000 in
theorem gL_arrival_X8_arrival : GoodIn wsL_arrival (wsV RL 51 RX8 yX8_arrival wsX8_arrival) := goodIn_app (goodIn_of _ (by decide +kernel)) ggL_arrival_X8_arrival
theorem dL_arrival_0 : decode cL_arrival 0 = .ok (.aload_n 0, 1) := by decide +kernel
theorem dL_arrival_1 : decode cL_arrival 1 = .ok (.iload_n 1, 1) := by decide +kernel
theorem dL_arrival_2 : decode cL_arrival 2 = .ok (.iload_n 2, 1) := by decide +kernel
theorem dL_arrival_3 : decode cL_arrival 3 = .ok (.invokevirtual 51, 3) := by decide +kernel
theorem dL_arrival_6 : decode cL_arrival 6 = .ok (.ireturn, 1) := by decide +kernel
theorem dL_arrival_7 : decode cL_arrival 7 = .ok (.astore_n 3, 1) := by decide +kernel
theorem dL_arrival_8 : decode cL_arrival 8 = .ok (.bipush (-2), 2) := by decide +kernel
theorem dL_arrival_10 : decode cL_arrival 10 = .ok (.ireturn, 1) := by decide +kernel
set_option maxRecDepth 20000 in
theorem ggL_count_X8_count : GoodIn wsL_count wsX8_count := goodIn_ca (goodIn_r _ [6, 7, 8, 9, 10, 11, 12, 13, 14, 15, 16, 17, 18, 19, 20, 5, 21, 22, 23, 24, 25, 26, 27, 28, 29, 30, 31, 32, 33, 34, 35, 36, 37, 38, 39, 40, 41, 42, 43, 44, 45, 46, 47, 48, 49, 50, 51, 52, 53, 54] (by decide +kernel) (by decide +kernel)) (goodIn_sub (fun _ h => List.mem_cons_of_mem _ (List.mem_append_right _ h)) (by decide +kernel))
set_option maxRecDepth 20000 in
theorem gL_count_X8_count : GoodIn wsL_count (wsV RL 54 RX8 yX8_count wsX8_count) := goodIn_app (goodIn_of _ (by decide +kernel)) ggL_count_X8_count
theorem dL_count_0 : decode cL_count 0 = .ok (.aload_n 0, 1) := by decide +kernel
theorem dL_count_1 : decode cL_count 1 = .ok (.iload_n 1, 1) := by decide +kernel
theorem dL_count_2 : decode cL_count 2 = .ok (.invokevirtual 54, 3) := by decide +kernel
theorem dL_count_5 : decode cL_count 5 = .ok (.ireturn, 1) := by decide +kernel
theorem dL_count_6 : decode cL_count 6 = .ok (.astore_n 2, 1) := by decide +kernel
theorem dL_count_7 : decode cL_count 7 = .ok (.bipush (-2), 2) := by decide +kernel
theorem dL_count_9 : decode cL_count 9 = .ok (.ireturn, 1) := by decide +kernel
set_option maxRecDepth 20000 in
theorem ggL_lost_X8_lost : GoodIn wsL_lost wsX8_lost := goodIn_ca (goodIn_r _ [6, 7, 8, 9, 10, 5, 11, 12, 13, 14, 15, 16, 17, 18, 19, 20, 21, 22, 23, 24, 25, 26, 27, 28, 29, 30, 31, 32, 33, 34, 35, 36] (by decide +kernel) (by decide +kernel)) (goodIn_sub (fun _ h => List.mem_cons_of_mem _ (List.mem_append_right _ h)) (by decide +kernel))
set_option maxRecDepth 20000 in
theorem gL_lost_X8_lost : GoodIn wsL_lost (wsV RL 57 RX8 yX8_lost wsX8_lost) := goodIn_app (goodIn_of _ (by decide +kernel)) ggL_lost_X8_lost
theorem dL_lost_0 : decode cL_lost 0 = .ok (.aload_n 0, 1) := by decide +kernel
theorem dL_lost_1 : decode cL_lost 1 = .ok (.iload_n 1, 1) := by decide +kernel
theorem dL_lost_2 : decode cL_lost 2 = .ok (.iload_n 2, 1) := by decide +kernel
theorem dL_lost_3 : decode cL_lost 3 = .ok (.invokevirtual 57, 3) := by decide +kernel
theorem dL_lost_6 : decode cL_lost 6 = .ok (.ireturn, 1) := by decide +kernel
theorem dL_lost_7 : decode cL_lost 7 = .ok (.astore_n 3, 1) := by decide +kernel
theorem dL_lost_8 : decode cL_lost 8 = .ok (.bipush (-2), 2) := by decide +kernel
theorem dL_lost_10 : decode cL_lost 10 = .ok (.ireturn, 1) := by decide +kernel
set_option maxRecDepth 20000 in
theorem ggL_ifGone_X8_ifGone : GoodIn wsL_ifGone wsX8_ifGone := goodIn_ca (goodIn_ca (goodIn_r _ [7, 8, 9, 10, 11, 12, 13, 14, 6, 15, 16, 17, 18, 19, 20, 21, 22, 23, 24, 25, 26, 27, 28, 29, 30, 31, 32, 33, 34, 35, 36, 37, 38, 39, 40, 41, 42, 43, 44, 45, 46, 47, 48, 49, 50, 51, 52, 53, 54, 55, 56, 57, 58, 59, 60, 61, 62, 63, 64, 65, 66, 67, 68, 69, 70, 71, 72, 73, 74, 75, 76, 77, 78, 79, 80, 81, 82, 83, 84, 85, 86, 87, 88, 89, 90, 91, 92, 93, 94, 95, 96, 97, 98, 99, 100, 101, 102, 103, 104, 105, 106, 107, 108, 109, 110, 111, 112, 113] (by decide +kernel) (by decide +kernel)) (goodIn_sub (fun _ h => List.mem_cons_of_mem _ (List.mem_append_left _ (List.mem_append_right _ h))) (by decide +kernel))) (goodIn_sub (fun _ h => List.mem_cons_of_mem _ (List.mem_append_right _ h)) (by decide +kernel))
set_option maxRecDepth 20000 in
theorem gL_ifGone_X8_ifGone : GoodIn wsL_ifGone (wsV RL 60 RX8 yX8_ifGone wsX8_ifGone) := goodIn_app (goodIn_of _ (by decide +kernel)) ggL_ifGone_X8_ifGone
theorem dL_ifGone_0 : decode cL_ifGone 0 = .ok (.aload_n 0, 1) := by decide +kernel
theorem dL_ifGone_1 : decode cL_ifGone 1 = .ok (.iload_n 1, 1) := by decide +kernel
theorem dL_ifGone_2 : decode cL_ifGone 2 = .ok (.iload_n 2, 1) := by decide +kernel
theorem dL_ifGone_3 : decode cL_ifGone 3 = .ok (.invokevirtual 60, 3) := by decide +kernel
theorem dL_ifGone_6 : decode cL_ifGone 6 = .ok (.ireturn, 1) := by decide +kernel
theorem dL_ifGone_7 : decode cL_ifGone 7 = .ok (.astore_n 3, 1) := by decide +kernel
theorem dL_ifGone_8 : decode cL_ifGone 8 = .ok (.bipush (-3), 2) := by decide +kernel
theorem dL_ifGone_10 : decode cL_ifGone 10 = .ok (.ireturn, 1) := by decide +kernel
theorem dL_ifGone_11 : decode cL_ifGone 11 = .ok (.astore_n 3, 1) := by decide +kernel
theorem dL_ifGone_12 : decode cL_ifGone 12 = .ok (.bipush (-2), 2) := by decide +kernel
theorem dL_ifGone_14 : decode cL_ifGone 14 = .ok (.ireturn, 1) := by decide +kernel
set_option maxRecDepth 20000 in
theorem ggL_lostAt_X8_lostAt : GoodIn wsL_lostAt wsX8_lostAt := goodIn_ca (goodIn_r _ [6, 7, 8, 9, 10, 5, 11, 12, 13, 14, 15, 16, 17, 18, 19, 20, 21, 22, 23, 24, 25, 26, 27, 28, 29, 30, 31, 32, 33, 34, 35, 36, 37, 38, 39, 40, 41, 42, 43, 44, 45, 46, 47, 48, 49, 50, 51, 52, 53, 54] (by decide +kernel) (by decide +kernel)) (goodIn_sub (fun _ h => List.mem_cons_of_mem _ (List.mem_append_right _ h)) (by decide +kernel))
set_option maxRecDepth 20000 in
theorem gL_lostAt_X8_lostAt : GoodIn wsL_lostAt (wsV RL 63 RX8 yX8_lostAt wsX8_lostAt) := goodIn_app (goodIn_of _ (by decide +kernel)) ggL_lostAt_X8_lostAt
theorem dL_lostAt_0 : decode cL_lostAt 0 = .ok (.aload_n 0, 1) := by decide +kernel
theorem dL_lostAt_1 : decode cL_lostAt 1 = .ok (.iload_n 1, 1) := by decide +kernel
theorem dL_lostAt_2 : decode cL_lostAt 2 = .ok (.invokevirtual 63, 3) := by decide +kernel
theorem dL_lostAt_5 : decode cL_lostAt 5 = .ok (.ireturn, 1) := by decide +kernel
theorem dL_lostAt_6 : decode cL_lostAt 6 = .ok (.astore_n 2, 1) := by decide +kernel
theorem dL_lostAt_7 : decode cL_lostAt 7 = .ok (.bipush (-2), 2) := by decide +kernel
theorem dL_lostAt_9 : decode cL_lostAt 9 = .ok (.ireturn, 1) := by decide +kernel
set_option maxRecDepth 20000 in
theorem ggL_stopped_X8_stopped : GoodIn wsL_stopped wsX8_stopped := goodIn_ca (goodIn_r _ [6, 7, 8, 9, 10, 11, 5, 12, 13, 14, 15, 16, 17, 18, 19, 20, 21, 22, 23, 24, 25, 26, 27] (by decide +kernel) (by decide +kernel)) (goodIn_sub (fun _ h => List.mem_cons_of_mem _ (List.mem_append_right _ h)) (by decide +kernel))
set_option maxRecDepth 20000 in
theorem gL_stopped_X8_stopped : GoodIn wsL_stopped (wsV RL 73 RX8 yX8_stopped wsX8_stopped) := goodIn_app (goodIn_of _ (by decide +kernel)) ggL_stopped_X8_stopped
theorem dL_stopped_0 : decode cL_stopped 0 = .ok (.aload_n 0, 1) := by decide +kernel
theorem dL_stopped_1 : decode cL_stopped 1 = .ok (.iload_n 1, 1) := by decide +kernel
theorem dL_stopped_2 : decode cL_stopped 2 = .ok (.invokevirtual 73, 3) := by decide +kernel
theorem dL_stopped_5 : decode cL_stopped 5 = .ok (.ireturn, 1) := by decide +kernel
theorem dL_stopped_6 : decode cL_stopped 6 = .ok (.astore_n 2, 1) := by decide +kernel
theorem dL_stopped_7 : decode cL_stopped 7 = .ok (.bipush (-2), 2) := by decide +kernel
theorem dL_stopped_9 : decode cL_stopped 9 = .ok (.ireturn, 1) := by decide +kernel
set_option maxRecDepth 20000 in
theorem ggL_undo_X8_undo : GoodIn wsL_undo wsX8_undo := goodIn_ca (goodIn_r _ [6, 7, 8, 9, 10, 11, 12, 13, 14, 15, 16, 17, 18, 19, 20, 21, 22, 23, 24, 25, 26, 27, 28, 29, 30, 31, 32, 33, 34, 35, 36, 37, 38, 39, 40, 41, 42, 43, 44, 45, 46, 47, 48, 49, 50, 51, 52, 53, 54, 55, 56, 57, 58, 59, 60, 61, 62, 63, 64, 65, 66, 67, 68, 69, 70, 71, 72, 73, 74, 75, 76, 77, 78, 79, 80, 81, 82, 83, 84, 85, 86, 87, 88, 89, 90, 91, 92, 93, 94, 95, 96, 97] (by decide +kernel) (by decide +kernel)) (goodIn_sub (fun _ h => List.mem_cons_of_mem _ (List.mem_append_right _ h)) (by decide +kernel))
set_option maxRecDepth 20000 in
theorem gL_undo_X8_undo : GoodIn wsL_undo (wsV RL 76 RX8 yX8_undo wsX8_undo) := goodIn_app (goodIn_of _ (by decide +kernel)) ggL_undo_X8_undo
theorem dL_undo_0 : decode cL_undo 0 = .ok (.aload_n 0, 1) := by decide +kernel
theorem dL_undo_1 : decode cL_undo 1 = .ok (.invokevirtual 76, 3) := by decide +kernel
theorem dL_undo_4 : decode cL_undo 4 = .ok (.ireturn, 1) := by decide +kernel
theorem dL_undo_5 : decode cL_undo 5 = .ok (.astore_n 1, 1) := by decide +kernel
theorem dL_undo_6 : decode cL_undo 6 = .ok (.bipush (-2), 2) := by decide +kernel
theorem dL_undo_8 : decode cL_undo 8 = .ok (.ireturn, 1) := by decide +kernel
set_option maxRecDepth 20000 in
theorem ggL_restore_X8_restore : GoodIn wsL_restore wsX8_restore := goodIn_ca (goodIn_r _ [6, 7, 8, 9, 10, 11, 12, 13, 14, 15, 16, 17, 18, 19, 20, 21, 22, 23, 24, 25, 26, 27, 28, 29, 30, 31, 32, 33, 34, 35, 36, 37, 38, 39, 40, 41, 42, 43, 44, 45, 46, 47, 48, 49, 50, 51, 52, 53, 54, 55, 56, 57, 58, 59, 60, 61, 62, 63, 64, 65, 66, 67, 68, 69, 70, 71, 72, 73, 74, 75, 76, 77, 78, 79, 80, 81, 82, 83, 84, 85, 86, 87, 88, 89, 90, 91, 92, 93, 94, 95, 96, 97, 98, 99, 100, 101, 102, 103, 104, 105, 106, 107, 108, 109, 110, 111, 112, 113, 114, 115, 116, 117, 118, 119, 120, 121, 122, 123, 124] (by decide +kernel) (by decide +kernel)) (goodIn_sub (fun _ h => List.mem_cons_of_mem _ (List.mem_append_right _ h)) (by decide +kernel))
set_option maxRecDepth 20000 in
theorem gL_restore_X8_restore : GoodIn wsL_restore (wsV RL 79 RX8 yX8_restore wsX8_restore) := goodIn_app (goodIn_of _ (by decide +kernel)) ggL_restore_X8_restore
theorem dL_restore_0 : decode cL_restore 0 = .ok (.aload_n 0, 1) := by decide +kernel
theorem dL_restore_1 : decode cL_restore 1 = .ok (.invokevirtual 79, 3) := by decide +kernel
theorem dL_restore_4 : decode cL_restore 4 = .ok (.ireturn, 1) := by decide +kernel
theorem dL_restore_5 : decode cL_restore 5 = .ok (.astore_n 1, 1) := by decide +kernel
theorem dL_restore_6 : decode cL_restore 6 = .ok (.bipush (-2), 2) := by decide +kernel
theorem dL_restore_8 : decode cL_restore 8 = .ok (.ireturn, 1) := by decide +kernel
