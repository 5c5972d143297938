theorem dX8_init_0 : decode cX8_init 0 = .ok (.aload_n 0, 1) := by decide +kernel
theorem dX8_init_1 : decode cX8_init 1 = .ok (.invokespecial 1, 3) := by decide +kernel
theorem dX8_init_4 : decode cX8_init 4 = .ok (.aload_n 0, 1) := by decide +kernel
theorem dX8_init_5 : decode cX8_init 5 = .ok (.new 7, 3) := by decide +kernel
theorem dX8_init_8 : decode cX8_init 8 = .ok (.dup, 1) := by decide +kernel
theorem dX8_init_9 : decode cX8_init 9 = .ok (.invokespecial 9, 3) := by decide +kernel
theorem dX8_init_12 : decode cX8_init 12 = .ok (.putfield 10, 3) := by decide +kernel
theorem dX8_init_15 : decode cX8_init 15 = .ok (.aload_n 0, 1) := by decide +kernel
theorem dX8_init_16 : decode cX8_init 16 = .ok (.new 16, 3) := by decide +kernel
theorem dX8_init_19 : decode cX8_init 19 = .ok (.dup, 1) := by decide +kernel
theorem dX8_init_20 : decode cX8_init 20 = .ok (.invokespecial 18, 3) := by decide +kernel
theorem dX8_init_23 : decode cX8_init 23 = .ok (.putfield 19, 3) := by decide +kernel
theorem dX8_init_26 : decode cX8_init 26 = .ok (.aload_n 0, 1) := by decide +kernel
theorem dX8_init_27 : decode cX8_init 27 = .ok (.new 23, 3) := by decide +kernel
theorem dX8_init_30 : decode cX8_init 30 = .ok (.dup, 1) := by decide +kernel
theorem dX8_init_31 : decode cX8_init 31 = .ok (.invokespecial 25, 3) := by decide +kernel
theorem dX8_init_34 : decode cX8_init 34 = .ok (.putfield 26, 3) := by decide +kernel
theorem dX8_init_37 : decode cX8_init 37 = .ok (.aload_n 0, 1) := by decide +kernel
theorem dX8_init_38 : decode cX8_init 38 = .ok (.new 30, 3) := by decide +kernel
theorem dX8_init_41 : decode cX8_init 41 = .ok (.dup, 1) := by decide +kernel
theorem dX8_init_42 : decode cX8_init 42 = .ok (.invokespecial 32, 3) := by decide +kernel
theorem dX8_init_45 : decode cX8_init 45 = .ok (.putfield 33, 3) := by decide +kernel
theorem dX8_init_48 : decode cX8_init 48 = .ok (.aload_n 0, 1) := by decide +kernel
theorem dX8_init_49 : decode cX8_init 49 = .ok (.new 37, 3) := by decide +kernel
theorem dX8_init_52 : decode cX8_init 52 = .ok (.dup, 1) := by decide +kernel
theorem dX8_init_53 : decode cX8_init 53 = .ok (.invokespecial 39, 3) := by decide +kernel
theorem dX8_init_56 : decode cX8_init 56 = .ok (.putfield 40, 3) := by decide +kernel
theorem dX8_init_59 : decode cX8_init 59 = .ok (.return_, 1) := by decide +kernel
set_option maxRecDepth 20000 in
theorem ggX8_teach_X8_checkLink : GoodIn wsX8_teach wsX8_checkLink := goodIn_ca (goodIn_r _ [7, 8, 9] (by decide +kernel) (by decide +kernel)) (goodIn_sub (fun _ h => List.mem_cons_of_mem _ (List.mem_append_left _ (List.mem_append_right _ h))) (by decide +kernel))
set_option maxRecDepth 20000 in
theorem gX8_teach_X8_checkLink : GoodIn wsX8_teach (va_wsS RX8 44 yX8_checkLink wsX8_checkLink) := goodIn_app (goodIn_of _ (by decide +kernel)) ggX8_teach_X8_checkLink
set_option maxRecDepth 20000 in
theorem ggX8_teach_X8_checkRange : GoodIn wsX8_teach wsX8_checkRange := goodIn_ca (goodIn_r _ [12, 13, 14] (by decide +kernel) (by decide +kernel)) (goodIn_sub (fun _ h => List.mem_cons_of_mem _ (List.mem_append_right _ h)) (by decide +kernel))
set_option maxRecDepth 20000 in
theorem gX8_teach_X8_checkRange : GoodIn wsX8_teach (va_wsS RX8 48 yX8_checkRange wsX8_checkRange) := goodIn_app (goodIn_of _ (by decide +kernel)) ggX8_teach_X8_checkRange
set_option maxRecDepth 20000 in
theorem ggX8_teach_X1_save : GoodIn wsX8_teach wsX1_save := goodIn_r _ [19, 20, 21, 22, 23, 24, 25, 26, 27, 18, 28, 29, 30, 31, 32, 33, 34, 35, 36, 37, 38, 39, 40, 41, 42, 43, 44, 45, 46, 47, 48, 49, 50, 51, 52, 53, 54, 55, 56, 57, 58, 59, 60, 61, 62, 63, 64, 65, 66, 67, 68, 69, 70, 71, 72, 73, 74, 75, 76, 77, 78, 79, 80, 81, 82, 83, 84, 85, 86, 87, 88, 89, 90, 91, 92, 93, 94, 95, 96, 118, 119, 111, 112, 113, 114, 115, 116, 117, 120, 121, 122, 123, 124, 125, 126, 127, 128, 129, 130, 131, 132] (by decide +kernel) (by decide +kernel)
set_option maxRecDepth 20000 in
theorem gX8_teach_X1_save : GoodIn wsX8_teach (wsV RX8 52 RX1 yX1_save wsX1_save) := goodIn_app (goodIn_of _ (by decide +kernel)) ggX8_teach_X1_save
set_option maxRecDepth 20000 in
theorem ggX8_teach_X2_meaningOf : GoodIn wsX8_teach wsX2_meaningOf := goodIn_r _ [100, 54, 120, 121, 122, 123, 124, 125] (by decide +kernel) (by decide +kernel)
set_option maxRecDepth 20000 in
theorem gX8_teach_X2_meaningOf : GoodIn wsX8_teach (wsV RX8 60 RX2 yX2_meaningOf wsX2_meaningOf) := goodIn_app (goodIn_of _ (by decide +kernel)) ggX8_teach_X2_meaningOf
set_option maxRecDepth 20000 in
theorem ggX8_teach_X2_setMeaning : GoodIn wsX8_teach wsX2_setMeaning := goodIn_r _ [104, 54, 120, 121, 122, 123, 124, 125] (by decide +kernel) (by decide +kernel)
set_option maxRecDepth 20000 in
theorem gX8_teach_X2_setMeaning : GoodIn wsX8_teach (wsV RX8 66 RX2 yX2_setMeaning wsX2_setMeaning) := goodIn_app (goodIn_of _ (by decide +kernel)) ggX8_teach_X2_setMeaning
theorem dX8_teach_0 : decode cX8_teach 0 = .ok (.iload_n 1, 1) := by decide +kernel
theorem dX8_teach_1 : decode cX8_teach 1 = .ok (.invokestatic 44, 3) := by decide +kernel
theorem dX8_teach_4 : decode cX8_teach 4 = .ok (.iload_n 2, 1) := by decide +kernel
theorem dX8_teach_5 : decode cX8_teach 5 = .ok (.iconst 0, 1) := by decide +kernel
theorem dX8_teach_6 : decode cX8_teach 6 = .ok (.bipush 29, 2) := by decide +kernel
theorem dX8_teach_8 : decode cX8_teach 8 = .ok (.invokestatic 48, 3) := by decide +kernel
theorem dX8_teach_11 : decode cX8_teach 11 = .ok (.iload_n 3, 1) := by decide +kernel
theorem dX8_teach_12 : decode cX8_teach 12 = .ok (.iconst (-1), 1) := by decide +kernel
theorem dX8_teach_13 : decode cX8_teach 13 = .ok (.bipush 29, 2) := by decide +kernel
theorem dX8_teach_15 : decode cX8_teach 15 = .ok (.invokestatic 48, 3) := by decide +kernel
theorem dX8_teach_18 : decode cX8_teach 18 = .ok (.aload_n 0, 1) := by decide +kernel
theorem dX8_teach_19 : decode cX8_teach 19 = .ok (.getfield 19, 3) := by decide +kernel
theorem dX8_teach_22 : decode cX8_teach 22 = .ok (.aload_n 0, 1) := by decide +kernel
theorem dX8_teach_23 : decode cX8_teach 23 = .ok (.getfield 10, 3) := by decide +kernel
theorem dX8_teach_26 : decode cX8_teach 26 = .ok (.invokevirtual 52, 3) := by decide +kernel
theorem dX8_teach_29 : decode cX8_teach 29 = .ok (.aload_n 0, 1) := by decide +kernel
theorem dX8_teach_30 : decode cX8_teach 30 = .ok (.getfield 10, 3) := by decide +kernel
theorem dX8_teach_33 : decode cX8_teach 33 = .ok (.getfield 56, 3) := by decide +kernel
theorem dX8_teach_36 : decode cX8_teach 36 = .ok (.iload_n 1, 1) := by decide +kernel
theorem dX8_teach_37 : decode cX8_teach 37 = .ok (.iload_n 2, 1) := by decide +kernel
theorem dX8_teach_38 : decode cX8_teach 38 = .ok (.invokevirtual 60, 3) := by decide +kernel
theorem dX8_teach_41 : decode cX8_teach 41 = .ok (.istore 4, 2) := by decide +kernel
theorem dX8_teach_43 : decode cX8_teach 43 = .ok (.aload_n 0, 1) := by decide +kernel
theorem dX8_teach_44 : decode cX8_teach 44 = .ok (.getfield 10, 3) := by decide +kernel
theorem dX8_teach_47 : decode cX8_teach 47 = .ok (.getfield 56, 3) := by decide +kernel
theorem dX8_teach_50 : decode cX8_teach 50 = .ok (.iload_n 1, 1) := by decide +kernel
theorem dX8_teach_51 : decode cX8_teach 51 = .ok (.iload_n 2, 1) := by decide +kernel
theorem dX8_teach_52 : decode cX8_teach 52 = .ok (.iload_n 3, 1) := by decide +kernel
theorem dX8_teach_53 : decode cX8_teach 53 = .ok (.invokevirtual 66, 3) := by decide +kernel
theorem dX8_teach_56 : decode cX8_teach 56 = .ok (.iload 4, 2) := by decide +kernel
theorem dX8_teach_58 : decode cX8_teach 58 = .ok (.ireturn, 1) := by decide +kernel
set_option maxRecDepth 20000 in
theorem ggX8_ear_X8_checkLink : GoodIn wsX8_ear wsX8_checkLink := goodIn_ca (goodIn_r _ [8, 9, 10] (by decide +kernel) (by decide +kernel)) (goodIn_sub (fun _ h => List.mem_cons_of_mem _ (List.mem_append_left _ (List.mem_append_right _ h))) (by decide +kernel))
set_option maxRecDepth 20000 in
theorem gX8_ear_X8_checkLink : GoodIn wsX8_ear (va_wsS RX8 44 yX8_checkLink wsX8_checkLink) := goodIn_app (goodIn_of _ (by decide +kernel)) ggX8_ear_X8_checkLink
set_option maxRecDepth 20000 in
theorem ggX8_ear_X8_checkRange : GoodIn wsX8_ear wsX8_checkRange := goodIn_ca (goodIn_r _ [13, 14, 15] (by decide +kernel) (by decide +kernel)) (goodIn_sub (fun _ h => List.mem_cons_of_mem _ (List.mem_append_right _ h)) (by decide +kernel))
set_option maxRecDepth 20000 in
theorem gX8_ear_X8_checkRange : GoodIn wsX8_ear (va_wsS RX8 48 yX8_checkRange wsX8_checkRange) := goodIn_app (goodIn_of _ (by decide +kernel)) ggX8_ear_X8_checkRange
set_option maxRecDepth 20000 in
theorem ggX8_ear_X1_save : GoodIn wsX8_ear wsX1_save := goodIn_r _ [20, 21, 22, 23, 24, 25, 26, 27, 28, 19, 29, 30, 31, 32, 33, 34, 35, 36, 37, 38, 39, 40, 41, 42, 43, 44, 45, 46, 47, 48, 49, 50, 51, 52, 53, 54, 55, 56, 57, 58, 59, 60, 61, 62, 63, 64, 65, 66, 67, 68, 69, 70, 71, 72, 73, 74, 75, 76, 77, 78, 79, 80, 81, 82, 83, 84, 85, 86, 87, 88, 89, 90, 91, 92, 93, 94, 95, 96, 97, 117, 118, 104, 105, 106, 107, 108, 109, 110, 111, 112, 113, 114, 115, 116, 119, 120, 121, 122, 123, 124, 125] (by decide +kernel) (by decide +kernel)
set_option maxRecDepth 20000 in
theorem gX8_ear_X1_save : GoodIn wsX8_ear (wsV RX8 52 RX1 yX1_save wsX1_save) := goodIn_app (goodIn_of _ (by decide +kernel)) ggX8_ear_X1_save
theorem dX8_ear_0 : decode cX8_ear 0 = .ok (.iload_n 1, 1) := by decide +kernel
theorem dX8_ear_1 : decode cX8_ear 1 = .ok (.invokestatic 44, 3) := by decide +kernel
theorem dX8_ear_4 : decode cX8_ear 4 = .ok (.iload_n 2, 1) := by decide +kernel
theorem dX8_ear_5 : decode cX8_ear 5 = .ok (.iconst 0, 1) := by decide +kernel
theorem dX8_ear_6 : decode cX8_ear 6 = .ok (.bipush 9, 2) := by decide +kernel
theorem dX8_ear_8 : decode cX8_ear 8 = .ok (.invokestatic 48, 3) := by decide +kernel
theorem dX8_ear_11 : decode cX8_ear 11 = .ok (.aload_n 0, 1) := by decide +kernel
theorem dX8_ear_12 : decode cX8_ear 12 = .ok (.getfield 19, 3) := by decide +kernel
theorem dX8_ear_15 : decode cX8_ear 15 = .ok (.aload_n 0, 1) := by decide +kernel
theorem dX8_ear_16 : decode cX8_ear 16 = .ok (.getfield 10, 3) := by decide +kernel
theorem dX8_ear_19 : decode cX8_ear 19 = .ok (.invokevirtual 52, 3) := by decide +kernel
theorem dX8_ear_22 : decode cX8_ear 22 = .ok (.aload_n 0, 1) := by decide +kernel
theorem dX8_ear_23 : decode cX8_ear 23 = .ok (.getfield 10, 3) := by decide +kernel
theorem dX8_ear_26 : decode cX8_ear 26 = .ok (.getfield 56, 3) := by decide +kernel
theorem dX8_ear_29 : decode cX8_ear 29 = .ok (.getfield 69, 3) := by decide +kernel
theorem dX8_ear_32 : decode cX8_ear 32 = .ok (.iload_n 1, 1) := by decide +kernel
theorem dX8_ear_33 : decode cX8_ear 33 = .ok (.iaload, 1) := by decide +kernel
theorem dX8_ear_34 : decode cX8_ear 34 = .ok (.istore_n 3, 1) := by decide +kernel
theorem dX8_ear_35 : decode cX8_ear 35 = .ok (.aload_n 0, 1) := by decide +kernel
theorem dX8_ear_36 : decode cX8_ear 36 = .ok (.getfield 10, 3) := by decide +kernel
theorem dX8_ear_39 : decode cX8_ear 39 = .ok (.getfield 56, 3) := by decide +kernel
theorem dX8_ear_42 : decode cX8_ear 42 = .ok (.getfield 69, 3) := by decide +kernel
theorem dX8_ear_45 : decode cX8_ear 45 = .ok (.iload_n 1, 1) := by decide +kernel
theorem dX8_ear_46 : decode cX8_ear 46 = .ok (.iload_n 2, 1) := by decide +kernel
theorem dX8_ear_47 : decode cX8_ear 47 = .ok (.iastore, 1) := by decide +kernel
theorem dX8_ear_48 : decode cX8_ear 48 = .ok (.iload_n 3, 1) := by decide +kernel
theorem dX8_ear_49 : decode cX8_ear 49 = .ok (.ireturn, 1) := by decide +kernel
set_option maxRecDepth 20000 in
theorem ggX8_fee_X8_checkLink : GoodIn wsX8_fee wsX8_checkLink := goodIn_ca (goodIn_r _ [8, 9, 10] (by decide +kernel) (by decide +kernel)) (goodIn_sub (fun _ h => List.mem_cons_of_mem _ (List.mem_append_left _ (List.mem_append_right _ h))) (by decide +kernel))
set_option maxRecDepth 20000 in
theorem gX8_fee_X8_checkLink : GoodIn wsX8_fee (va_wsS RX8 44 yX8_checkLink wsX8_checkLink) := goodIn_app (goodIn_of _ (by decide +kernel)) ggX8_fee_X8_checkLink
set_option maxRecDepth 20000 in
theorem ggX8_fee_X8_checkRange : GoodIn wsX8_fee wsX8_checkRange := goodIn_ca (goodIn_r _ [13, 14, 15] (by decide +kernel) (by decide +kernel)) (goodIn_sub (fun _ h => List.mem_cons_of_mem _ (List.mem_append_right _ h)) (by decide +kernel))
set_option maxRecDepth 20000 in
theorem gX8_fee_X8_checkRange : GoodIn wsX8_fee (va_wsS RX8 48 yX8_checkRange wsX8_checkRange) := goodIn_app (goodIn_of _ (by decide +kernel)) ggX8_fee_X8_checkRange
set_option maxRecDepth 20000 in
theorem ggX8_fee_X1_save : GoodIn wsX8_fee wsX1_save := goodIn_r _ [20, 21, 22, 23, 24, 25, 26, 27, 28, 19, 29, 30, 31, 32, 33, 34, 35, 36, 37, 38, 39, 40, 41, 42, 43, 44, 45, 46, 47, 48, 49, 50, 51, 52, 53, 54, 55, 56, 57, 58, 59, 60, 61, 62, 63, 64, 65, 66, 67, 68, 69, 70, 71, 72, 73, 74, 75, 76, 77, 78, 79, 80, 81, 82, 83, 84, 85, 86, 87, 88, 89, 90, 91, 92, 93, 94, 95, 96, 97, 117, 118, 104, 105, 106, 107, 108, 109, 110, 111, 112, 113, 114, 115, 116, 119, 120, 121, 122, 123, 124, 125] (by decide +kernel) (by decide +kernel)
set_option maxRecDepth 20000 in
theorem gX8_fee_X1_save : GoodIn wsX8_fee (wsV RX8 52 RX1 yX1_save wsX1_save) := goodIn_app (goodIn_of _ (by decide +kernel)) ggX8_fee_X1_save
theorem dX8_fee_0 : decode cX8_fee 0 = .ok (.iload_n 1, 1) := by decide +kernel
theorem dX8_fee_1 : decode cX8_fee 1 = .ok (.invokestatic 44, 3) := by decide +kernel
theorem dX8_fee_4 : decode cX8_fee 4 = .ok (.iload_n 2, 1) := by decide +kernel
theorem dX8_fee_5 : decode cX8_fee 5 = .ok (.iconst 0, 1) := by decide +kernel
theorem dX8_fee_6 : decode cX8_fee 6 = .ok (.bipush 9, 2) := by decide +kernel
theorem dX8_fee_8 : decode cX8_fee 8 = .ok (.invokestatic 48, 3) := by decide +kernel
theorem dX8_fee_11 : decode cX8_fee 11 = .ok (.aload_n 0, 1) := by decide +kernel
theorem dX8_fee_12 : decode cX8_fee 12 = .ok (.getfield 19, 3) := by decide +kernel
theorem dX8_fee_15 : decode cX8_fee 15 = .ok (.aload_n 0, 1) := by decide +kernel
theorem dX8_fee_16 : decode cX8_fee 16 = .ok (.getfield 10, 3) := by decide +kernel
theorem dX8_fee_19 : decode cX8_fee 19 = .ok (.invokevirtual 52, 3) := by decide +kernel
theorem dX8_fee_22 : decode cX8_fee 22 = .ok (.aload_n 0, 1) := by decide +kernel
theorem dX8_fee_23 : decode cX8_fee 23 = .ok (.getfield 10, 3) := by decide +kernel
theorem dX8_fee_26 : decode cX8_fee 26 = .ok (.getfield 56, 3) := by decide +kernel
theorem dX8_fee_29 : decode cX8_fee 29 = .ok (.getfield 73, 3) := by decide +kernel
theorem dX8_fee_32 : decode cX8_fee 32 = .ok (.iload_n 1, 1) := by decide +kernel
theorem dX8_fee_33 : decode cX8_fee 33 = .ok (.iaload, 1) := by decide +kernel
theorem dX8_fee_34 : decode cX8_fee 34 = .ok (.istore_n 3, 1) := by decide +kernel
theorem dX8_fee_35 : decode cX8_fee 35 = .ok (.aload_n 0, 1) := by decide +kernel
theorem dX8_fee_36 : decode cX8_fee 36 = .ok (.getfield 10, 3) := by decide +kernel
theorem dX8_fee_39 : decode cX8_fee 39 = .ok (.getfield 56, 3) := by decide +kernel
theorem dX8_fee_42 : decode cX8_fee 42 = .ok (.getfield 73, 3) := by decide +kernel
theorem dX8_fee_45 : decode cX8_fee 45 = .ok (.iload_n 1, 1) := by decide +kernel
theorem dX8_fee_46 : decode cX8_fee 46 = .ok (.iload_n 2, 1) := by decide +kernel
theorem dX8_fee_47 : decode cX8_fee 47 = .ok (.iastore, 1) := by decide +kernel
theorem dX8_fee_48 : decode cX8_fee 48 = .ok (.iload_n 3, 1) := by decide +kernel
theorem dX8_fee_49 : decode cX8_fee 49 = .ok (.ireturn, 1) := by decide +kernel
set_option maxRecDepth 20000 in
theorem ggX8_go_X1_save : GoodIn wsX8_go wsX1_save := goodIn_r _ [11, 12, 13, 14, 15, 16, 17, 18, 19, 10, 20, 21, 22, 23, 24, 25, 26, 27, 28, 29, 30, 31, 32, 33, 34, 35, 36, 37, 38, 39, 40, 41, 42, 43, 44, 45, 46, 47, 48, 49, 50, 51, 52, 53, 54, 55, 56, 57, 58, 59, 60, 61, 62, 63, 64, 65, 66, 67, 68, 69, 70, 71, 72, 73, 74, 75, 76, 77, 78, 79, 80, 81, 82, 83, 84, 85, 86, 87, 88, 244, 245, 233, 234, 235, 236, 237, 238, 239, 246, 247, 248, 249, 250, 251, 240, 241, 242, 243, 252, 253, 254] (by decide +kernel) (by decide +kernel)
set_option maxRecDepth 20000 in
theorem gX8_go_X1_save : GoodIn wsX8_go (wsV RX8 52 RX1 yX1_save wsX1_save) := goodIn_app (goodIn_of _ (by decide +kernel)) ggX8_go_X1_save
set_option maxRecDepth 20000 in
theorem ggX8_go_X8_sendFirst : GoodIn wsX8_go wsX8_sendFirst := goodIn_r _ [93, 3, 4, 94, 95, 96, 97, 98, 99, 100, 101, 32, 102, 82, 55, 103, 81, 68, 69, 70, 56, 104, 57, 105, 106, 107, 108, 109, 110, 111, 112, 113, 114, 115, 116, 117, 118, 119, 120, 121, 122, 123, 124, 125, 126, 127, 128, 129, 130, 28, 131, 132, 133, 134, 135, 46, 136, 137, 138, 139, 140, 141, 142, 143, 144, 145, 146, 147, 148, 149, 150, 151, 152, 153, 154, 155, 156, 157, 158, 159, 49, 50, 51, 160, 161, 162, 163, 164, 165, 166, 167, 168, 16, 169, 29, 39, 170, 171, 172, 173, 174, 175, 176, 177, 178, 179, 180, 181, 182, 183, 184, 185, 36, 186, 88, 187, 188, 189, 190, 61, 62, 191, 192, 193, 194, 87, 195, 196, 197, 198, 199, 200, 201, 202, 203, 204, 205, 206, 207, 208, 209, 210, 211, 212, 213, 214, 215, 216, 217, 218, 219, 220, 221, 222, 223, 224, 225, 226, 227, 228, 229, 230, 231, 232, 233, 234, 235, 236, 237, 238, 239, 240, 241, 242, 243, 255, 256, 257, 258, 259, 260, 246, 247, 248, 249, 250, 251, 252, 253, 254] (by decide +kernel) (by decide +kernel)
set_option maxRecDepth 20000 in
theorem gX8_go_X8_sendFirst : GoodIn wsX8_go (wsV RX8 93 RX8 yX8_sendFirst wsX8_sendFirst) := goodIn_app (goodIn_of _ (by decide +kernel)) ggX8_go_X8_sendFirst
theorem dX8_go_0 : decode cX8_go 0 = .ok (.aload_n 0, 1) := by decide +kernel
theorem dX8_go_1 : decode cX8_go 1 = .ok (.getfield 10, 3) := by decide +kernel
theorem dX8_go_4 : decode cX8_go 4 = .ok (.getfield 76, 3) := by decide +kernel
theorem dX8_go_7 : decode cX8_go 7 = .ok (.getfield 80, 3) := by decide +kernel
theorem dX8_go_10 : decode cX8_go 10 = .ok (.ifCond .ne 13, 3) := by decide +kernel
theorem dX8_go_13 : decode cX8_go 13 = .ok (.new 86, 3) := by decide +kernel
theorem dX8_go_16 : decode cX8_go 16 = .ok (.dup, 1) := by decide +kernel
theorem dX8_go_17 : decode cX8_go 17 = .ok (.ldc 88, 2) := by decide +kernel
theorem dX8_go_19 : decode cX8_go 19 = .ok (.invokespecial 90, 3) := by decide +kernel
theorem dX8_go_22 : decode cX8_go 22 = .ok (.athrow, 1) := by decide +kernel
theorem dX8_go_23 : decode cX8_go 23 = .ok (.aload_n 0, 1) := by decide +kernel
theorem dX8_go_24 : decode cX8_go 24 = .ok (.getfield 19, 3) := by decide +kernel
theorem dX8_go_27 : decode cX8_go 27 = .ok (.aload_n 0, 1) := by decide +kernel
theorem dX8_go_28 : decode cX8_go 28 = .ok (.getfield 10, 3) := by decide +kernel
theorem dX8_go_31 : decode cX8_go 31 = .ok (.invokevirtual 52, 3) := by decide +kernel
theorem dX8_go_34 : decode cX8_go 34 = .ok (.aload_n 0, 1) := by decide +kernel
theorem dX8_go_35 : decode cX8_go 35 = .ok (.invokevirtual 93, 3) := by decide +kernel
theorem dX8_go_38 : decode cX8_go 38 = .ok (.ireturn, 1) := by decide +kernel
set_option maxRecDepth 20000 in
theorem ggX8_append_X8_checkRange : GoodIn wsX8_append wsX8_checkRange := goodIn_ca (goodIn_r _ [8, 9, 10] (by decide +kernel) (by decide +kernel)) (goodIn_sub (fun _ h => List.mem_cons_of_mem _ (List.mem_append_right _ h)) (by decide +kernel))
set_option maxRecDepth 20000 in
theorem gX8_append_X8_checkRange : GoodIn wsX8_append (va_wsS RX8 48 yX8_checkRange wsX8_checkRange) := goodIn_app (goodIn_of _ (by decide +kernel)) ggX8_append_X8_checkRange
set_option maxRecDepth 20000 in
theorem ggX8_append_X3_add : GoodIn wsX8_append wsX3_add := goodIn_r _ [15, 16, 17, 24, 25, 26, 27, 28, 29, 30, 31] (by decide +kernel) (by decide +kernel)
set_option maxRecDepth 20000 in
theorem gX8_append_X3_add : GoodIn wsX8_append (wsV RX8 102 RX3 yX3_add wsX3_add) := goodIn_app (goodIn_of _ (by decide +kernel)) ggX8_append_X3_add
theorem dX8_append_0 : decode cX8_append 0 = .ok (.iload_n 1, 1) := by decide +kernel
theorem dX8_append_1 : decode cX8_append 1 = .ok (.bipush 33, 2) := by decide +kernel
theorem dX8_append_3 : decode cX8_append 3 = .ok (.bipush 126, 2) := by decide +kernel
theorem dX8_append_5 : decode cX8_append 5 = .ok (.invokestatic 48, 3) := by decide +kernel
theorem dX8_append_8 : decode cX8_append 8 = .ok (.aload_n 0, 1) := by decide +kernel
theorem dX8_append_9 : decode cX8_append 9 = .ok (.getfield 26, 3) := by decide +kernel
theorem dX8_append_12 : decode cX8_append 12 = .ok (.getfield 97, 3) := by decide +kernel
theorem dX8_append_15 : decode cX8_append 15 = .ok (.bipush 60, 2) := by decide +kernel
theorem dX8_append_17 : decode cX8_append 17 = .ok (.if_icmp .lt 13, 3) := by decide +kernel
theorem dX8_append_20 : decode cX8_append 20 = .ok (.new 86, 3) := by decide +kernel
theorem dX8_append_23 : decode cX8_append 23 = .ok (.dup, 1) := by decide +kernel
theorem dX8_append_24 : decode cX8_append 24 = .ok (.ldc 100, 2) := by decide +kernel
theorem dX8_append_26 : decode cX8_append 26 = .ok (.invokespecial 90, 3) := by decide +kernel
theorem dX8_append_29 : decode cX8_append 29 = .ok (.athrow, 1) := by decide +kernel
theorem dX8_append_30 : decode cX8_append 30 = .ok (.aload_n 0, 1) := by decide +kernel
theorem dX8_append_31 : decode cX8_append 31 = .ok (.getfield 26, 3) := by decide +kernel
theorem dX8_append_34 : decode cX8_append 34 = .ok (.iload_n 1, 1) := by decide +kernel
theorem dX8_append_35 : decode cX8_append 35 = .ok (.invokevirtual 102, 3) := by decide +kernel
theorem dX8_append_38 : decode cX8_append 38 = .ok (.aload_n 0, 1) := by decide +kernel
theorem dX8_append_39 : decode cX8_append 39 = .ok (.getfield 26, 3) := by decide +kernel
theorem dX8_append_42 : decode cX8_append 42 = .ok (.getfield 97, 3) := by decide +kernel
theorem dX8_append_45 : decode cX8_append 45 = .ok (.ireturn, 1) := by decide +kernel
theorem dX8_clearBuffer_0 : decode cX8_clearBuffer 0 = .ok (.aload_n 0, 1) := by decide +kernel
theorem dX8_clearBuffer_1 : decode cX8_clearBuffer 1 = .ok (.getfield 26, 3) := by decide +kernel
theorem dX8_clearBuffer_4 : decode cX8_clearBuffer 4 = .ok (.getfield 97, 3) := by decide +kernel
theorem dX8_clearBuffer_7 : decode cX8_clearBuffer 7 = .ok (.istore_n 1, 1) := by decide +kernel
theorem dX8_clearBuffer_8 : decode cX8_clearBuffer 8 = .ok (.aload_n 0, 1) := by decide +kernel
theorem dX8_clearBuffer_9 : decode cX8_clearBuffer 9 = .ok (.getfield 26, 3) := by decide +kernel
theorem dX8_clearBuffer_12 : decode cX8_clearBuffer 12 = .ok (.iconst 0, 1) := by decide +kernel
theorem dX8_clearBuffer_13 : decode cX8_clearBuffer 13 = .ok (.putfield 97, 3) := by decide +kernel
theorem dX8_clearBuffer_16 : decode cX8_clearBuffer 16 = .ok (.iload_n 1, 1) := by decide +kernel
theorem dX8_clearBuffer_17 : decode cX8_clearBuffer 17 = .ok (.ireturn, 1) := by decide +kernel
set_option maxRecDepth 20000 in
theorem ggX8_firstError_X3_readAll : GoodIn wsX8_firstError wsX3_readAll := goodIn_r _ [7, 8, 9, 10, 11, 12, 6, 13, 14, 15, 16, 17, 18, 19, 20, 21, 22, 23, 24, 25, 26, 27, 28, 29, 30, 31, 32, 33, 34, 35, 36, 37, 38, 39, 40, 41, 42, 43, 44, 45, 46, 47, 48, 49, 50, 51, 52, 53, 54, 55, 56, 57, 58, 59, 60, 61, 62, 63, 64, 65, 66, 67, 68, 69, 70, 71, 72, 73, 74, 75, 76, 77, 78, 79, 80, 81, 82, 83, 84, 85, 86, 87, 88, 89, 90, 91, 92, 93, 94, 95, 96, 97, 98, 99, 100, 101, 102, 103, 104, 105, 106, 107, 108, 109, 110, 111, 112, 113, 114, 115, 116, 117, 124, 125, 126, 127, 128, 129, 130, 131, 132, 133, 134] (by decide +kernel) (by decide +kernel)
set_option maxRecDepth 20000 in
theorem gX8_firstError_X3_readAll : GoodIn wsX8_firstError (wsV RX8 105 RX3 yX3_readAll wsX3_readAll) := goodIn_app (goodIn_of _ (by decide +kernel)) ggX8_firstError_X3_readAll
theorem dX8_firstError_0 : decode cX8_firstError 0 = .ok (.aload_n 0, 1) := by decide +kernel
theorem dX8_firstError_1 : decode cX8_firstError 1 = .ok (.getfield 26, 3) := by decide +kernel
theorem dX8_firstError_4 : decode cX8_firstError 4 = .ok (.invokevirtual 105, 3) := by decide +kernel
theorem dX8_firstError_7 : decode cX8_firstError 7 = .ok (.pop, 1) := by decide +kernel
theorem dX8_firstError_8 : decode cX8_firstError 8 = .ok (.aload_n 0, 1) := by decide +kernel
theorem dX8_firstError_9 : decode cX8_firstError 9 = .ok (.getfield 26, 3) := by decide +kernel
theorem dX8_firstError_12 : decode cX8_firstError 12 = .ok (.getfield 109, 3) := by decide +kernel
theorem dX8_firstError_15 : decode cX8_firstError 15 = .ok (.ireturn, 1) := by decide +kernel
set_option maxRecDepth 20000 in
theorem ggX8_obey_X3_readAll : GoodIn wsX8_obey wsX3_readAll := goodIn_r _ [13, 14, 15, 16, 17, 18, 12, 19, 20, 21, 22, 23, 24, 25, 26, 27, 28, 29, 30, 31, 32, 33, 34, 35, 36, 37, 38, 39, 40, 41, 42, 43, 44, 45, 46, 47, 48, 49, 50, 51, 52, 53, 54, 55, 56, 57, 58, 59, 60, 61, 62, 63, 64, 65, 66, 67, 68, 69, 70, 71, 72, 73, 74, 75, 76, 77, 78, 79, 80, 81, 82, 83, 84, 85, 86, 87, 88, 89, 90, 91, 92, 93, 94, 95, 96, 97, 98, 99, 100, 101, 102, 103, 104, 105, 106, 107, 108, 109, 110, 111, 112, 113, 114, 115, 116, 117, 118, 119, 120, 121, 122, 123, 377, 378, 379, 380, 381, 382, 383, 384, 392, 393, 394] (by decide +kernel) (by decide +kernel)
set_option maxRecDepth 20000 in
theorem gX8_obey_X3_readAll : GoodIn wsX8_obey (wsV RX8 105 RX3 yX3_readAll wsX3_readAll) := goodIn_app (goodIn_of _ (by decide +kernel)) ggX8_obey_X3_readAll
set_option maxRecDepth 20000 in
theorem ggX8_obey_X1_save : GoodIn wsX8_obey wsX1_save := goodIn_r _ [128, 129, 130, 131, 132, 133, 134, 135, 136, 127, 137, 138, 139, 140, 141, 142, 143, 144, 145, 146, 147, 148, 149, 150, 151, 152, 153, 154, 155, 156, 157, 158, 159, 160, 161, 162, 163, 164, 165, 166, 167, 168, 169, 170, 171, 172, 173, 174, 175, 176, 177, 178, 179, 180, 181, 182, 183, 184, 185, 186, 187, 188, 189, 190, 191, 192, 193, 194, 195, 196, 197, 198, 199, 200, 201, 202, 203, 204, 205, 395, 396, 385, 386, 387, 388, 389, 390, 391, 397, 398, 399, 400, 401, 402, 403, 404, 405, 406, 407, 408, 409] (by decide +kernel) (by decide +kernel)
set_option maxRecDepth 20000 in
theorem gX8_obey_X1_save : GoodIn wsX8_obey (wsV RX8 52 RX1 yX1_save wsX1_save) := goodIn_app (goodIn_of _ (by decide +kernel)) ggX8_obey_X1_save
set_option maxRecDepth 20000 in
theorem ggX8_obey_X3_startReading : GoodIn wsX8_obey wsX3_startReading := goodIn_r _ [19, 14, 377, 378, 379, 380, 381, 382, 383, 384] (by decide +kernel) (by decide +kernel)
set_option maxRecDepth 20000 in
theorem gX8_obey_X3_startReading : GoodIn wsX8_obey (wsV RX8 117 RX3 yX3_startReading wsX3_startReading) := goodIn_app (goodIn_of _ (by decide +kernel)) ggX8_obey_X3_startReading
set_option maxRecDepth 20000 in
theorem ggX8_obey_X3_readNextPart : GoodIn wsX8_obey wsX3_readNextPart := goodIn_r _ [210, 14, 83, 84, 85, 12, 86, 25, 26, 27, 28, 15, 29, 20, 21, 22, 23, 24, 30, 31, 32, 33, 34, 35, 36, 37, 38, 39, 40, 41, 42, 43, 44, 45, 46, 47, 48, 49, 50, 51, 52, 53, 54, 55, 56, 57, 58, 59, 60, 61, 62, 63, 64, 65, 66, 67, 68, 69, 70, 71, 72, 73, 74, 75, 76, 77, 78, 79, 80, 81, 82, 87, 88, 89, 90, 91, 92, 93, 94, 95, 96, 97, 98, 99, 100, 101, 102, 103, 104, 105, 106, 107, 108, 109, 110, 111, 112, 113, 114, 115, 116, 117, 118, 119, 120, 121, 122, 123, 377, 378, 379, 380, 381, 382, 383, 384, 392, 393, 394] (by decide +kernel) (by decide +kernel)
set_option maxRecDepth 20000 in
theorem gX8_obey_X3_readNextPart : GoodIn wsX8_obey (wsV RX8 120 RX3 yX3_readNextPart wsX3_readNextPart) := goodIn_app (goodIn_of _ (by decide +kernel)) ggX8_obey_X3_readNextPart
set_option maxRecDepth 20000 in
theorem ggX8_obey_X8_obeyPart : GoodIn wsX8_obey wsX8_obeyPart := goodIn_r _ [215, 3, 216, 5, 217, 218, 219, 220, 221, 222, 149, 223, 199, 174, 224, 225, 172, 198, 185, 186, 187, 173, 226, 227, 228, 229, 230, 231, 232, 233, 214, 234, 235, 236, 237, 238, 239, 240, 241, 242, 243, 244, 245, 246, 247, 248, 249, 250, 251, 252, 253, 254, 255, 256, 257, 258, 259, 260, 261, 262, 263, 264, 145, 265, 266, 267, 268, 269, 163, 270, 271, 272, 273, 274, 275, 276, 277, 278, 279, 280, 281, 282, 283, 284, 285, 286, 287, 288, 289, 290, 291, 292, 293, 166, 167, 168, 294, 295, 296, 297, 298, 299, 300, 301, 302, 133, 303, 146, 156, 304, 305, 306, 96, 307, 98, 112, 308, 309, 310, 311, 312, 313, 314, 315, 316, 153, 317, 205, 318, 319, 320, 321, 178, 179, 322, 323, 324, 325, 204, 326, 327, 328, 329, 330, 331, 332, 333, 334, 335, 336, 337, 338, 339, 340, 341, 342, 343, 344, 345, 346, 347, 348, 349, 350, 351, 352, 353, 354, 355, 356, 357, 358, 359, 360, 361, 362, 363, 364, 365, 366, 367, 368, 369, 370, 371, 372, 373, 374, 375, 376, 377, 378, 379, 380, 381, 382, 383, 384, 385, 386, 387, 388, 389, 390, 391, 403, 404, 405, 406, 392, 393, 394, 410, 411, 412, 397, 398, 399, 400, 401, 402, 407, 408, 409] (by decide +kernel) (by decide +kernel)
set_option maxRecDepth 20000 in
theorem gX8_obey_X8_obeyPart : GoodIn wsX8_obey (wsV RX8 123 RX8 yX8_obeyPart wsX8_obeyPart) := goodIn_app (goodIn_of _ (by decide +kernel)) ggX8_obey_X8_obeyPart
theorem dX8_obey_0 : decode cX8_obey 0 = .ok (.aload_n 0, 1) := by decide +kernel
theorem dX8_obey_1 : decode cX8_obey 1 = .ok (.getfield 26, 3) := by decide +kernel
theorem dX8_obey_4 : decode cX8_obey 4 = .ok (.invokevirtual 105, 3) := by decide +kernel
theorem dX8_obey_7 : decode cX8_obey 7 = .ok (.ifCond .ne 13, 3) := by decide +kernel
theorem dX8_obey_10 : decode cX8_obey 10 = .ok (.new 112, 3) := by decide +kernel
theorem dX8_obey_13 : decode cX8_obey 13 = .ok (.dup, 1) := by decide +kernel
theorem dX8_obey_14 : decode cX8_obey 14 = .ok (.ldc 114, 2) := by decide +kernel
theorem dX8_obey_16 : decode cX8_obey 16 = .ok (.invokespecial 116, 3) := by decide +kernel
theorem dX8_obey_19 : decode cX8_obey 19 = .ok (.athrow, 1) := by decide +kernel
theorem dX8_obey_20 : decode cX8_obey 20 = .ok (.aload_n 0, 1) := by decide +kernel
theorem dX8_obey_21 : decode cX8_obey 21 = .ok (.getfield 19, 3) := by decide +kernel
theorem dX8_obey_24 : decode cX8_obey 24 = .ok (.aload_n 0, 1) := by decide +kernel
theorem dX8_obey_25 : decode cX8_obey 25 = .ok (.getfield 10, 3) := by decide +kernel
theorem dX8_obey_28 : decode cX8_obey 28 = .ok (.invokevirtual 52, 3) := by decide +kernel
theorem dX8_obey_31 : decode cX8_obey 31 = .ok (.iconst 0, 1) := by decide +kernel
theorem dX8_obey_32 : decode cX8_obey 32 = .ok (.istore_n 1, 1) := by decide +kernel
theorem dX8_obey_33 : decode cX8_obey 33 = .ok (.iconst (-1), 1) := by decide +kernel
theorem dX8_obey_34 : decode cX8_obey 34 = .ok (.istore_n 2, 1) := by decide +kernel
theorem dX8_obey_35 : decode cX8_obey 35 = .ok (.aload_n 0, 1) := by decide +kernel
theorem dX8_obey_36 : decode cX8_obey 36 = .ok (.getfield 26, 3) := by decide +kernel
theorem dX8_obey_39 : decode cX8_obey 39 = .ok (.invokevirtual 117, 3) := by decide +kernel
theorem dX8_obey_42 : decode cX8_obey 42 = .ok (.iconst 0, 1) := by decide +kernel
theorem dX8_obey_43 : decode cX8_obey 43 = .ok (.istore_n 3, 1) := by decide +kernel
theorem dX8_obey_44 : decode cX8_obey 44 = .ok (.iload_n 3, 1) := by decide +kernel
theorem dX8_obey_45 : decode cX8_obey 45 = .ok (.bipush 60, 2) := by decide +kernel
theorem dX8_obey_47 : decode cX8_obey 47 = .ok (.if_icmp .ge 37, 3) := by decide +kernel
theorem dX8_obey_50 : decode cX8_obey 50 = .ok (.iload_n 2, 1) := by decide +kernel
theorem dX8_obey_51 : decode cX8_obey 51 = .ok (.iconst (-1), 1) := by decide +kernel
theorem dX8_obey_52 : decode cX8_obey 52 = .ok (.if_icmp .ne 32, 3) := by decide +kernel
theorem dX8_obey_55 : decode cX8_obey 55 = .ok (.aload_n 0, 1) := by decide +kernel
theorem dX8_obey_56 : decode cX8_obey 56 = .ok (.getfield 26, 3) := by decide +kernel
theorem dX8_obey_59 : decode cX8_obey 59 = .ok (.invokevirtual 120, 3) := by decide +kernel
theorem dX8_obey_62 : decode cX8_obey 62 = .ok (.ifCond .eq 22, 3) := by decide +kernel
theorem dX8_obey_65 : decode cX8_obey 65 = .ok (.aload_n 0, 1) := by decide +kernel
theorem dX8_obey_66 : decode cX8_obey 66 = .ok (.invokevirtual 123, 3) := by decide +kernel
theorem dX8_obey_69 : decode cX8_obey 69 = .ok (.istore_n 2, 1) := by decide +kernel
theorem dX8_obey_70 : decode cX8_obey 70 = .ok (.iload_n 2, 1) := by decide +kernel
theorem dX8_obey_71 : decode cX8_obey 71 = .ok (.iconst (-1), 1) := by decide +kernel
theorem dX8_obey_72 : decode cX8_obey 72 = .ok (.if_icmp .ne 6, 3) := by decide +kernel
theorem dX8_obey_75 : decode cX8_obey 75 = .ok (.iinc 1 1, 3) := by decide +kernel
theorem dX8_obey_78 : decode cX8_obey 78 = .ok (.iinc 3 1, 3) := by decide +kernel
theorem dX8_obey_81 : decode cX8_obey 81 = .ok (.goto (-37), 3) := by decide +kernel
theorem dX8_obey_84 : decode cX8_obey 84 = .ok (.aload_n 0, 1) := by decide +kernel
theorem dX8_obey_85 : decode cX8_obey 85 = .ok (.getfield 26, 3) := by decide +kernel
theorem dX8_obey_88 : decode cX8_obey 88 = .ok (.iconst 0, 1) := by decide +kernel
theorem dX8_obey_89 : decode cX8_obey 89 = .ok (.putfield 97, 3) := by decide +kernel
theorem dX8_obey_92 : decode cX8_obey 92 = .ok (.aload_n 0, 1) := by decide +kernel
theorem dX8_obey_93 : decode cX8_obey 93 = .ok (.getfield 10, 3) := by decide +kernel
theorem dX8_obey_96 : decode cX8_obey 96 = .ok (.iload_n 2, 1) := by decide +kernel
theorem dX8_obey_97 : decode cX8_obey 97 = .ok (.iconst (-1), 1) := by decide +kernel
theorem dX8_obey_98 : decode cX8_obey 98 = .ok (.if_icmp .ne 7, 3) := by decide +kernel
theorem dX8_obey_101 : decode cX8_obey 101 = .ok (.iconst (-1), 1) := by decide +kernel
theorem dX8_obey_102 : decode cX8_obey 102 = .ok (.goto 4, 3) := by decide +kernel
theorem dX8_obey_105 : decode cX8_obey 105 = .ok (.iload_n 1, 1) := by decide +kernel
theorem dX8_obey_106 : decode cX8_obey 106 = .ok (.putfield 126, 3) := by decide +kernel
theorem dX8_obey_109 : decode cX8_obey 109 = .ok (.aload_n 0, 1) := by decide +kernel
theorem dX8_obey_110 : decode cX8_obey 110 = .ok (.getfield 10, 3) := by decide +kernel
theorem dX8_obey_113 : decode cX8_obey 113 = .ok (.iload_n 2, 1) := by decide +kernel
theorem dX8_obey_114 : decode cX8_obey 114 = .ok (.putfield 129, 3) := by decide +kernel
theorem dX8_obey_117 : decode cX8_obey 117 = .ok (.iload_n 1, 1) := by decide +kernel
theorem dX8_obey_118 : decode cX8_obey 118 = .ok (.ireturn, 1) := by decide +kernel
set_option maxRecDepth 20000 in
theorem ggX8_stopped_X8_checkRange : GoodIn wsX8_stopped wsX8_checkRange := goodIn_ca (goodIn_r _ [7, 8, 9] (by decide +kernel) (by decide +kernel)) (goodIn_sub (fun _ h => List.mem_cons_of_mem _ (List.mem_append_right _ h)) (by decide +kernel))
set_option maxRecDepth 20000 in
theorem gX8_stopped_X8_checkRange : GoodIn wsX8_stopped (va_wsS RX8 48 yX8_checkRange wsX8_checkRange) := goodIn_app (goodIn_of _ (by decide +kernel)) ggX8_stopped_X8_checkRange
theorem dX8_stopped_0 : decode cX8_stopped 0 = .ok (.iload_n 1, 1) := by decide +kernel
theorem dX8_stopped_1 : decode cX8_stopped 1 = .ok (.iconst 0, 1) := by decide +kernel
theorem dX8_stopped_2 : decode cX8_stopped 2 = .ok (.iconst 1, 1) := by decide +kernel
theorem dX8_stopped_3 : decode cX8_stopped 3 = .ok (.invokestatic 48, 3) := by decide +kernel
theorem dX8_stopped_6 : decode cX8_stopped 6 = .ok (.iload_n 1, 1) := by decide +kernel
theorem dX8_stopped_7 : decode cX8_stopped 7 = .ok (.ifCond .ne 13, 3) := by decide +kernel
theorem dX8_stopped_10 : decode cX8_stopped 10 = .ok (.aload_n 0, 1) := by decide +kernel
theorem dX8_stopped_11 : decode cX8_stopped 11 = .ok (.getfield 10, 3) := by decide +kernel
theorem dX8_stopped_14 : decode cX8_stopped 14 = .ok (.getfield 126, 3) := by decide +kernel
theorem dX8_stopped_17 : decode cX8_stopped 17 = .ok (.goto 10, 3) := by decide +kernel
theorem dX8_stopped_20 : decode cX8_stopped 20 = .ok (.aload_n 0, 1) := by decide +kernel
theorem dX8_stopped_21 : decode cX8_stopped 21 = .ok (.getfield 10, 3) := by decide +kernel
theorem dX8_stopped_24 : decode cX8_stopped 24 = .ok (.getfield 129, 3) := by decide +kernel
theorem dX8_stopped_27 : decode cX8_stopped 27 = .ok (.ireturn, 1) := by decide +kernel
set_option maxRecDepth 20000 in
theorem ggX8_told_X8_checkRange : GoodIn wsX8_told wsX8_checkRange := goodIn_ca (goodIn_r _ [6, 7, 8] (by decide +kernel) (by decide +kernel)) (goodIn_sub (fun _ h => List.mem_cons_of_mem _ (List.mem_append_right _ h)) (by decide +kernel))
set_option maxRecDepth 20000 in
theorem gX8_told_X8_checkRange : GoodIn wsX8_told (va_wsS RX8 48 yX8_checkRange wsX8_checkRange) := goodIn_app (goodIn_of _ (by decide +kernel)) ggX8_told_X8_checkRange
set_option maxRecDepth 20000 in
theorem ggX8_told_X8_checkNotNegative : GoodIn wsX8_told wsX8_checkNotNegative := goodIn_ca (goodIn_r _ [11, 7, 8] (by decide +kernel) (by decide +kernel)) (goodIn_sub (fun _ h => List.mem_cons_of_mem _ (List.mem_append_right _ h)) (by decide +kernel))
set_option maxRecDepth 20000 in
theorem gX8_told_X8_checkNotNegative : GoodIn wsX8_told (va_wsS RX8 132 yX8_checkNotNegative wsX8_checkNotNegative) := goodIn_app (goodIn_of _ (by decide +kernel)) ggX8_told_X8_checkNotNegative
set_option maxRecDepth 20000 in
theorem ggX8_told_X0_codeAt : GoodIn wsX8_told wsX0_codeAt := goodIn_r _ [16, 17, 18, 19, 15, 20, 21, 22, 23, 24, 25, 26, 27, 28, 29, 30, 31, 32, 33, 47, 48, 49] (by decide +kernel) (by decide +kernel)
set_option maxRecDepth 20000 in
theorem gX8_told_X0_codeAt : GoodIn wsX8_told (wsV RX8 139 RX0 yX0_codeAt wsX0_codeAt) := goodIn_app (goodIn_of _ (by decide +kernel)) ggX8_told_X0_codeAt
theorem dX8_told_0 : decode cX8_told 0 = .ok (.iload_n 1, 1) := by decide +kernel
theorem dX8_told_1 : decode cX8_told 1 = .ok (.iconst 0, 1) := by decide +kernel
theorem dX8_told_2 : decode cX8_told 2 = .ok (.iconst 5, 1) := by decide +kernel
theorem dX8_told_3 : decode cX8_told 3 = .ok (.invokestatic 48, 3) := by decide +kernel
theorem dX8_told_6 : decode cX8_told 6 = .ok (.iload_n 2, 1) := by decide +kernel
theorem dX8_told_7 : decode cX8_told 7 = .ok (.invokestatic 132, 3) := by decide +kernel
theorem dX8_told_10 : decode cX8_told 10 = .ok (.aload_n 0, 1) := by decide +kernel
theorem dX8_told_11 : decode cX8_told 11 = .ok (.getfield 10, 3) := by decide +kernel
theorem dX8_told_14 : decode cX8_told 14 = .ok (.getfield 135, 3) := by decide +kernel
theorem dX8_told_17 : decode cX8_told 17 = .ok (.iload_n 1, 1) := by decide +kernel
theorem dX8_told_18 : decode cX8_told 18 = .ok (.iload_n 2, 1) := by decide +kernel
theorem dX8_told_19 : decode cX8_told 19 = .ok (.invokevirtual 139, 3) := by decide +kernel
theorem dX8_told_22 : decode cX8_told 22 = .ok (.ireturn, 1) := by decide +kernel
set_option maxRecDepth 20000 in
theorem ggX8_undo_X1_latest : GoodIn wsX8_undo wsX1_latest := goodIn_r _ [10, 11, 12, 70, 71] (by decide +kernel) (by decide +kernel)
set_option maxRecDepth 20000 in
theorem gX8_undo_X1_latest : GoodIn wsX8_undo (wsV RX8 144 RX1 yX1_latest wsX1_latest) := goodIn_app (goodIn_of _ (by decide +kernel)) ggX8_undo_X1_latest
set_option maxRecDepth 20000 in
theorem ggX8_undo_X5_copyFrom : GoodIn wsX8_undo wsX5_copyFrom := goodIn_r _ [17, 18, 19, 20, 21, 22, 23, 24, 25, 26, 27, 28, 29, 30, 31, 32, 33, 34, 35, 36, 37, 38, 39, 40, 41, 42, 43, 44, 45, 46, 47, 48, 49, 50, 51, 52, 53, 54, 55, 56, 57, 58, 59, 72, 73, 74, 75, 76, 77, 78, 79, 80, 81, 82, 83, 84, 85, 86, 87, 88, 89, 90, 91] (by decide +kernel) (by decide +kernel)
set_option maxRecDepth 20000 in
theorem gX8_undo_X5_copyFrom : GoodIn wsX8_undo (wsV RX8 150 RX5 yX5_copyFrom wsX5_copyFrom) := goodIn_app (goodIn_of _ (by decide +kernel)) ggX8_undo_X5_copyFrom
set_option maxRecDepth 20000 in
theorem ggX8_undo_X1_dropLatest : GoodIn wsX8_undo wsX1_dropLatest := goodIn_r _ [63, 11, 70, 71] (by decide +kernel) (by decide +kernel)
set_option maxRecDepth 20000 in
theorem gX8_undo_X1_dropLatest : GoodIn wsX8_undo (wsV RX8 153 RX1 yX1_dropLatest wsX1_dropLatest) := goodIn_app (goodIn_of _ (by decide +kernel)) ggX8_undo_X1_dropLatest
theorem dX8_undo_0 : decode cX8_undo 0 = .ok (.aload_n 0, 1) := by decide +kernel
theorem dX8_undo_1 : decode cX8_undo 1 = .ok (.getfield 19, 3) := by decide +kernel
theorem dX8_undo_4 : decode cX8_undo 4 = .ok (.invokevirtual 144, 3) := by decide +kernel
theorem dX8_undo_7 : decode cX8_undo 7 = .ok (.astore_n 1, 1) := by decide +kernel
theorem dX8_undo_8 : decode cX8_undo 8 = .ok (.aload_n 1, 1) := by decide +kernel
theorem dX8_undo_9 : decode cX8_undo 9 = .ok (.ifnonnull 13, 3) := by decide +kernel
theorem dX8_undo_12 : decode cX8_undo 12 = .ok (.new 86, 3) := by decide +kernel
theorem dX8_undo_15 : decode cX8_undo 15 = .ok (.dup, 1) := by decide +kernel
theorem dX8_undo_16 : decode cX8_undo 16 = .ok (.ldc 148, 2) := by decide +kernel
theorem dX8_undo_18 : decode cX8_undo 18 = .ok (.invokespecial 90, 3) := by decide +kernel
theorem dX8_undo_21 : decode cX8_undo 21 = .ok (.athrow, 1) := by decide +kernel
theorem dX8_undo_22 : decode cX8_undo 22 = .ok (.aload_n 0, 1) := by decide +kernel
theorem dX8_undo_23 : decode cX8_undo 23 = .ok (.getfield 10, 3) := by decide +kernel
theorem dX8_undo_26 : decode cX8_undo 26 = .ok (.aload_n 1, 1) := by decide +kernel
theorem dX8_undo_27 : decode cX8_undo 27 = .ok (.invokevirtual 150, 3) := by decide +kernel
theorem dX8_undo_30 : decode cX8_undo 30 = .ok (.aload_n 0, 1) := by decide +kernel
theorem dX8_undo_31 : decode cX8_undo 31 = .ok (.getfield 19, 3) := by decide +kernel
theorem dX8_undo_34 : decode cX8_undo 34 = .ok (.invokevirtual 153, 3) := by decide +kernel
theorem dX8_undo_37 : decode cX8_undo 37 = .ok (.aload_n 0, 1) := by decide +kernel
theorem dX8_undo_38 : decode cX8_undo 38 = .ok (.getfield 19, 3) := by decide +kernel
theorem dX8_undo_41 : decode cX8_undo 41 = .ok (.getfield 156, 3) := by decide +kernel
theorem dX8_undo_44 : decode cX8_undo 44 = .ok (.ireturn, 1) := by decide +kernel
set_option maxRecDepth 20000 in
theorem ggX8_keep_X5_init : GoodIn wsX8_keep wsX5_init := goodIn_r _ [9, 10, 11, 12, 13, 14, 15, 16, 17, 18, 19, 20, 21, 22, 23, 24, 25, 26, 27, 28, 29, 30, 31, 32, 33, 34, 35, 36, 37, 38, 39, 40, 41, 42, 43, 44, 45, 46, 47, 48, 49, 93, 94, 95, 96, 97, 98, 82, 83, 84, 85, 86, 87, 88, 89, 90, 91, 92, 99, 100, 101] (by decide +kernel) (by decide +kernel)
set_option maxRecDepth 20000 in
theorem gX8_keep_X5_init_n9 : GoodIn wsX8_keep (wsX5_init) := ggX8_keep_X5_init
set_option maxRecDepth 20000 in
theorem ggX8_keep_X5_copyFrom : GoodIn wsX8_keep wsX5_copyFrom := goodIn_r _ [53, 16, 20, 24, 26, 54, 55, 56, 57, 58, 27, 28, 59, 60, 61, 15, 62, 33, 63, 34, 35, 36, 37, 38, 64, 65, 66, 19, 67, 42, 68, 43, 44, 69, 70, 71, 72, 23, 73, 48, 74, 49, 75, 82, 83, 84, 85, 86, 87, 88, 93, 94, 95, 96, 97, 98, 89, 90, 91, 92, 99, 100, 101] (by decide +kernel) (by decide +kernel)
set_option maxRecDepth 20000 in
theorem gX8_keep_X5_copyFrom : GoodIn wsX8_keep (wsV RX8 150 RX5 yX5_copyFrom wsX5_copyFrom) := goodIn_app (goodIn_of _ (by decide +kernel)) ggX8_keep_X5_copyFrom
theorem dX8_keep_0 : decode cX8_keep 0 = .ok (.aload_n 0, 1) := by decide +kernel
theorem dX8_keep_1 : decode cX8_keep 1 = .ok (.getfield 157, 3) := by decide +kernel
theorem dX8_keep_4 : decode cX8_keep 4 = .ok (.astore_n 1, 1) := by decide +kernel
theorem dX8_keep_5 : decode cX8_keep 5 = .ok (.aload_n 1, 1) := by decide +kernel
theorem dX8_keep_6 : decode cX8_keep 6 = .ok (.ifnonnull 16, 3) := by decide +kernel
theorem dX8_keep_9 : decode cX8_keep 9 = .ok (.new 7, 3) := by decide +kernel
theorem dX8_keep_12 : decode cX8_keep 12 = .ok (.dup, 1) := by decide +kernel
theorem dX8_keep_13 : decode cX8_keep 13 = .ok (.invokespecial 9, 3) := by decide +kernel
theorem dX8_keep_16 : decode cX8_keep 16 = .ok (.astore_n 1, 1) := by decide +kernel
theorem dX8_keep_17 : decode cX8_keep 17 = .ok (.aload_n 0, 1) := by decide +kernel
theorem dX8_keep_18 : decode cX8_keep 18 = .ok (.aload_n 1, 1) := by decide +kernel
theorem dX8_keep_19 : decode cX8_keep 19 = .ok (.putfield 157, 3) := by decide +kernel
theorem dX8_keep_22 : decode cX8_keep 22 = .ok (.aload_n 1, 1) := by decide +kernel
theorem dX8_keep_23 : decode cX8_keep 23 = .ok (.aload_n 0, 1) := by decide +kernel
theorem dX8_keep_24 : decode cX8_keep 24 = .ok (.getfield 10, 3) := by decide +kernel
theorem dX8_keep_27 : decode cX8_keep 27 = .ok (.invokevirtual 150, 3) := by decide +kernel
theorem dX8_keep_30 : decode cX8_keep 30 = .ok (.aload_n 0, 1) := by decide +kernel
theorem dX8_keep_31 : decode cX8_keep 31 = .ok (.getfield 10, 3) := by decide +kernel
theorem dX8_keep_34 : decode cX8_keep 34 = .ok (.getfield 76, 3) := by decide +kernel
theorem dX8_keep_37 : decode cX8_keep 37 = .ok (.getfield 80, 3) := by decide +kernel
theorem dX8_keep_40 : decode cX8_keep 40 = .ok (.ireturn, 1) := by decide +kernel
set_option maxRecDepth 20000 in
theorem ggX8_restore_X1_save : GoodIn wsX8_restore wsX1_save := goodIn_r _ [12, 13, 14, 15, 16, 17, 18, 19, 20, 11, 21, 22, 23, 24, 25, 26, 27, 28, 29, 30, 31, 32, 33, 34, 35, 36, 37, 38, 39, 40, 41, 42, 43, 44, 45, 46, 47, 48, 49, 50, 51, 52, 53, 54, 55, 56, 57, 58, 59, 60, 61, 62, 63, 64, 65, 66, 67, 68, 69, 70, 71, 72, 73, 74, 75, 76, 77, 78, 79, 80, 81, 82, 83, 84, 85, 86, 87, 88, 89, 108, 109, 97, 98, 99, 100, 101, 102, 103, 110, 111, 112, 113, 114, 115, 104, 105, 106, 107, 116, 117, 118] (by decide +kernel) (by decide +kernel)
set_option maxRecDepth 20000 in
theorem gX8_restore_X1_save : GoodIn wsX8_restore (wsV RX8 52 RX1 yX1_save wsX1_save) := goodIn_app (goodIn_of _ (by decide +kernel)) ggX8_restore_X1_save
set_option maxRecDepth 20000 in
theorem ggX8_restore_X5_copyFrom : GoodIn wsX8_restore wsX5_copyFrom := goodIn_r _ [67, 30, 34, 38, 40, 68, 69, 70, 71, 72, 41, 42, 73, 74, 75, 29, 76, 47, 77, 48, 49, 50, 51, 52, 78, 79, 80, 33, 81, 56, 82, 57, 58, 83, 84, 85, 86, 37, 87, 62, 88, 63, 89, 97, 98, 99, 100, 101, 102, 103, 110, 111, 112, 113, 114, 115, 104, 105, 106, 107, 116, 117, 118] (by decide +kernel) (by decide +kernel)
set_option maxRecDepth 20000 in
theorem gX8_restore_X5_copyFrom : GoodIn wsX8_restore (wsV RX8 150 RX5 yX5_copyFrom wsX5_copyFrom) := goodIn_app (goodIn_of _ (by decide +kernel)) ggX8_restore_X5_copyFrom
theorem dX8_restore_0 : decode cX8_restore 0 = .ok (.aload_n 0, 1) := by decide +kernel
theorem dX8_restore_1 : decode cX8_restore 1 = .ok (.getfield 157, 3) := by decide +kernel
theorem dX8_restore_4 : decode cX8_restore 4 = .ok (.astore_n 1, 1) := by decide +kernel
theorem dX8_restore_5 : decode cX8_restore 5 = .ok (.aload_n 1, 1) := by decide +kernel
theorem dX8_restore_6 : decode cX8_restore 6 = .ok (.ifnonnull 13, 3) := by decide +kernel
theorem dX8_restore_9 : decode cX8_restore 9 = .ok (.new 86, 3) := by decide +kernel
theorem dX8_restore_12 : decode cX8_restore 12 = .ok (.dup, 1) := by decide +kernel
theorem dX8_restore_13 : decode cX8_restore 13 = .ok (.ldc 160, 2) := by decide +kernel
theorem dX8_restore_15 : decode cX8_restore 15 = .ok (.invokespecial 90, 3) := by decide +kernel
theorem dX8_restore_18 : decode cX8_restore 18 = .ok (.athrow, 1) := by decide +kernel
theorem dX8_restore_19 : decode cX8_restore 19 = .ok (.aload_n 0, 1) := by decide +kernel
theorem dX8_restore_20 : decode cX8_restore 20 = .ok (.getfield 19, 3) := by decide +kernel
theorem dX8_restore_23 : decode cX8_restore 23 = .ok (.aload_n 0, 1) := by decide +kernel
theorem dX8_restore_24 : decode cX8_restore 24 = .ok (.getfield 10, 3) := by decide +kernel
theorem dX8_restore_27 : decode cX8_restore 27 = .ok (.invokevirtual 52, 3) := by decide +kernel
theorem dX8_restore_30 : decode cX8_restore 30 = .ok (.aload_n 0, 1) := by decide +kernel
theorem dX8_restore_31 : decode cX8_restore 31 = .ok (.getfield 10, 3) := by decide +kernel
theorem dX8_restore_34 : decode cX8_restore 34 = .ok (.aload_n 1, 1) := by decide +kernel
theorem dX8_restore_35 : decode cX8_restore 35 = .ok (.invokevirtual 150, 3) := by decide +kernel
theorem dX8_restore_38 : decode cX8_restore 38 = .ok (.aload_n 0, 1) := by decide +kernel
theorem dX8_restore_39 : decode cX8_restore 39 = .ok (.getfield 10, 3) := by decide +kernel
theorem dX8_restore_42 : decode cX8_restore 42 = .ok (.getfield 76, 3) := by decide +kernel
theorem dX8_restore_45 : decode cX8_restore 45 = .ok (.getfield 80, 3) := by decide +kernel
theorem dX8_restore_48 : decode cX8_restore 48 = .ok (.ireturn, 1) := by decide +kernel
set_option maxRecDepth 20000 in
theorem ggX8_meaning_X8_checkLink : GoodIn wsX8_meaning wsX8_checkLink := goodIn_ca (goodIn_r _ [6, 7, 8] (by decide +kernel) (by decide +kernel)) (goodIn_sub (fun _ h => List.mem_cons_of_mem _ (List.mem_append_left _ (List.mem_append_right _ h))) (by decide +kernel))
set_option maxRecDepth 20000 in
theorem gX8_meaning_X8_checkLink : GoodIn wsX8_meaning (va_wsS RX8 44 yX8_checkLink wsX8_checkLink) := goodIn_app (goodIn_of _ (by decide +kernel)) ggX8_meaning_X8_checkLink
set_option maxRecDepth 20000 in
theorem ggX8_meaning_X8_checkRange : GoodIn wsX8_meaning wsX8_checkRange := goodIn_ca (goodIn_r _ [11, 12, 13] (by decide +kernel) (by decide +kernel)) (goodIn_sub (fun _ h => List.mem_cons_of_mem _ (List.mem_append_right _ h)) (by decide +kernel))
set_option maxRecDepth 20000 in
theorem gX8_meaning_X8_checkRange : GoodIn wsX8_meaning (va_wsS RX8 48 yX8_checkRange wsX8_checkRange) := goodIn_app (goodIn_of _ (by decide +kernel)) ggX8_meaning_X8_checkRange
set_option maxRecDepth 20000 in
theorem ggX8_meaning_X2_meaningOf : GoodIn wsX8_meaning wsX2_meaningOf := goodIn_r _ [18, 19, 43, 44, 45, 46, 47, 48] (by decide +kernel) (by decide +kernel)
set_option maxRecDepth 20000 in
theorem gX8_meaning_X2_meaningOf : GoodIn wsX8_meaning (wsV RX8 60 RX2 yX2_meaningOf wsX2_meaningOf) := goodIn_app (goodIn_of _ (by decide +kernel)) ggX8_meaning_X2_meaningOf
set_option maxRecDepth 20000 in
theorem ggX8_meaning_X2_backFor : GoodIn wsX8_meaning wsX2_backFor := goodIn_r _ [23, 24, 15, 16, 17, 18, 19, 25, 26, 27, 28, 43, 44, 45, 46, 47, 48] (by decide +kernel) (by decide +kernel)
set_option maxRecDepth 20000 in
theorem gX8_meaning_X2_backFor : GoodIn wsX8_meaning (wsV RX8 162 RX2 yX2_backFor wsX2_backFor) := goodIn_app (goodIn_of _ (by decide +kernel)) ggX8_meaning_X2_backFor
set_option maxRecDepth 20000 in
theorem ggX8_meaning_X2_lowestWith : GoodIn wsX8_meaning wsX2_lowestWith := goodIn_r _ [28, 19, 43, 44, 45, 46, 47, 48] (by decide +kernel) (by decide +kernel)
set_option maxRecDepth 20000 in
theorem gX8_meaning_X2_lowestWith : GoodIn wsX8_meaning (wsV RX8 165 RX2 yX2_lowestWith wsX2_lowestWith) := goodIn_app (goodIn_of _ (by decide +kernel)) ggX8_meaning_X2_lowestWith
theorem dX8_meaning_0 : decode cX8_meaning 0 = .ok (.iload_n 1, 1) := by decide +kernel
theorem dX8_meaning_1 : decode cX8_meaning 1 = .ok (.invokestatic 44, 3) := by decide +kernel
theorem dX8_meaning_4 : decode cX8_meaning 4 = .ok (.iload_n 2, 1) := by decide +kernel
theorem dX8_meaning_5 : decode cX8_meaning 5 = .ok (.iconst 0, 1) := by decide +kernel
theorem dX8_meaning_6 : decode cX8_meaning 6 = .ok (.bipush 29, 2) := by decide +kernel
theorem dX8_meaning_8 : decode cX8_meaning 8 = .ok (.invokestatic 48, 3) := by decide +kernel
theorem dX8_meaning_11 : decode cX8_meaning 11 = .ok (.iload_n 3, 1) := by decide +kernel
theorem dX8_meaning_12 : decode cX8_meaning 12 = .ok (.iconst 0, 1) := by decide +kernel
theorem dX8_meaning_13 : decode cX8_meaning 13 = .ok (.iconst 2, 1) := by decide +kernel
theorem dX8_meaning_14 : decode cX8_meaning 14 = .ok (.invokestatic 48, 3) := by decide +kernel
theorem dX8_meaning_17 : decode cX8_meaning 17 = .ok (.iload_n 3, 1) := by decide +kernel
theorem dX8_meaning_18 : decode cX8_meaning 18 = .ok (.lookupswitch 52 #[(0, 26), (1, 39)], 26) := by decide +kernel
theorem dX8_meaning_44 : decode cX8_meaning 44 = .ok (.aload_n 0, 1) := by decide +kernel
theorem dX8_meaning_45 : decode cX8_meaning 45 = .ok (.getfield 10, 3) := by decide +kernel
theorem dX8_meaning_48 : decode cX8_meaning 48 = .ok (.getfield 56, 3) := by decide +kernel
theorem dX8_meaning_51 : decode cX8_meaning 51 = .ok (.iload_n 1, 1) := by decide +kernel
theorem dX8_meaning_52 : decode cX8_meaning 52 = .ok (.iload_n 2, 1) := by decide +kernel
theorem dX8_meaning_53 : decode cX8_meaning 53 = .ok (.invokevirtual 60, 3) := by decide +kernel
theorem dX8_meaning_56 : decode cX8_meaning 56 = .ok (.ireturn, 1) := by decide +kernel
theorem dX8_meaning_57 : decode cX8_meaning 57 = .ok (.aload_n 0, 1) := by decide +kernel
theorem dX8_meaning_58 : decode cX8_meaning 58 = .ok (.getfield 10, 3) := by decide +kernel
theorem dX8_meaning_61 : decode cX8_meaning 61 = .ok (.getfield 56, 3) := by decide +kernel
theorem dX8_meaning_64 : decode cX8_meaning 64 = .ok (.iload_n 1, 1) := by decide +kernel
theorem dX8_meaning_65 : decode cX8_meaning 65 = .ok (.iload_n 2, 1) := by decide +kernel
theorem dX8_meaning_66 : decode cX8_meaning 66 = .ok (.invokevirtual 162, 3) := by decide +kernel
theorem dX8_meaning_69 : decode cX8_meaning 69 = .ok (.ireturn, 1) := by decide +kernel
theorem dX8_meaning_70 : decode cX8_meaning 70 = .ok (.aload_n 0, 1) := by decide +kernel
theorem dX8_meaning_71 : decode cX8_meaning 71 = .ok (.getfield 10, 3) := by decide +kernel
theorem dX8_meaning_74 : decode cX8_meaning 74 = .ok (.getfield 56, 3) := by decide +kernel
theorem dX8_meaning_77 : decode cX8_meaning 77 = .ok (.iload_n 1, 1) := by decide +kernel
theorem dX8_meaning_78 : decode cX8_meaning 78 = .ok (.iload_n 2, 1) := by decide +kernel
theorem dX8_meaning_79 : decode cX8_meaning 79 = .ok (.invokevirtual 165, 3) := by decide +kernel
theorem dX8_meaning_82 : decode cX8_meaning 82 = .ok (.ireturn, 1) := by decide +kernel
set_option maxRecDepth 20000 in
theorem ggX8_link_X8_checkLink : GoodIn wsX8_link wsX8_checkLink := goodIn_ca (goodIn_r _ [11, 12, 13] (by decide +kernel) (by decide +kernel)) (goodIn_sub (fun _ h => List.mem_cons_of_mem _ (List.mem_append_left _ (List.mem_append_right _ h))) (by decide +kernel))
set_option maxRecDepth 20000 in
theorem gX8_link_X8_checkLink : GoodIn wsX8_link (va_wsS RX8 44 yX8_checkLink wsX8_checkLink) := goodIn_app (goodIn_of _ (by decide +kernel)) ggX8_link_X8_checkLink
set_option maxRecDepth 20000 in
theorem ggX8_link_X8_checkRange : GoodIn wsX8_link wsX8_checkRange := goodIn_ca (goodIn_r _ [16, 17, 18] (by decide +kernel) (by decide +kernel)) (goodIn_sub (fun _ h => List.mem_cons_of_mem _ (List.mem_append_right _ h)) (by decide +kernel))
set_option maxRecDepth 20000 in
theorem gX8_link_X8_checkRange : GoodIn wsX8_link (va_wsS RX8 48 yX8_checkRange wsX8_checkRange) := goodIn_app (goodIn_of _ (by decide +kernel)) ggX8_link_X8_checkRange
set_option maxRecDepth 20000 in
theorem ggX8_link_X2_wordsWithoutMeaning : GoodIn wsX8_link wsX2_wordsWithoutMeaning := goodIn_r _ [23, 24, 25, 26, 22, 27, 28, 54, 55, 56, 57, 58, 59] (by decide +kernel) (by decide +kernel)
set_option maxRecDepth 20000 in
theorem gX8_link_X2_wordsWithoutMeaning : GoodIn wsX8_link (wsV RX8 168 RX2 yX2_wordsWithoutMeaning wsX2_wordsWithoutMeaning) := goodIn_app (goodIn_of _ (by decide +kernel)) ggX8_link_X2_wordsWithoutMeaning
set_option maxRecDepth 20000 in
theorem ggX8_link_X2_wordsLikeLowerOnes : GoodIn wsX8_link wsX2_wordsLikeLowerOnes := goodIn_r _ [32, 33, 34, 35, 22, 36, 24, 25, 26, 27, 28, 37, 38, 39, 40, 54, 55, 56, 57, 58, 59] (by decide +kernel) (by decide +kernel)
set_option maxRecDepth 20000 in
theorem gX8_link_X2_wordsLikeLowerOnes : GoodIn wsX8_link (wsV RX8 172 RX2 yX2_wordsLikeLowerOnes wsX2_wordsLikeLowerOnes) := goodIn_app (goodIn_of _ (by decide +kernel)) ggX8_link_X2_wordsLikeLowerOnes
theorem dX8_link_0 : decode cX8_link 0 = .ok (.iload_n 1, 1) := by decide +kernel
theorem dX8_link_1 : decode cX8_link 1 = .ok (.invokestatic 44, 3) := by decide +kernel
theorem dX8_link_4 : decode cX8_link 4 = .ok (.iload_n 2, 1) := by decide +kernel
theorem dX8_link_5 : decode cX8_link 5 = .ok (.iconst 0, 1) := by decide +kernel
theorem dX8_link_6 : decode cX8_link 6 = .ok (.bipush 6, 2) := by decide +kernel
theorem dX8_link_8 : decode cX8_link 8 = .ok (.invokestatic 48, 3) := by decide +kernel
theorem dX8_link_11 : decode cX8_link 11 = .ok (.iload_n 2, 1) := by decide +kernel
theorem dX8_link_12 : decode cX8_link 12 = .ok (.tableswitch 116 0 5 #[40, 53, 66, 78, 90, 103], 40) := by decide +kernel
theorem dX8_link_52 : decode cX8_link 52 = .ok (.aload_n 0, 1) := by decide +kernel
theorem dX8_link_53 : decode cX8_link 53 = .ok (.getfield 10, 3) := by decide +kernel
theorem dX8_link_56 : decode cX8_link 56 = .ok (.getfield 56, 3) := by decide +kernel
theorem dX8_link_59 : decode cX8_link 59 = .ok (.getfield 69, 3) := by decide +kernel
theorem dX8_link_62 : decode cX8_link 62 = .ok (.iload_n 1, 1) := by decide +kernel
theorem dX8_link_63 : decode cX8_link 63 = .ok (.iaload, 1) := by decide +kernel
theorem dX8_link_64 : decode cX8_link 64 = .ok (.ireturn, 1) := by decide +kernel
theorem dX8_link_65 : decode cX8_link 65 = .ok (.aload_n 0, 1) := by decide +kernel
theorem dX8_link_66 : decode cX8_link 66 = .ok (.getfield 10, 3) := by decide +kernel
theorem dX8_link_69 : decode cX8_link 69 = .ok (.getfield 56, 3) := by decide +kernel
theorem dX8_link_72 : decode cX8_link 72 = .ok (.getfield 73, 3) := by decide +kernel
theorem dX8_link_75 : decode cX8_link 75 = .ok (.iload_n 1, 1) := by decide +kernel
theorem dX8_link_76 : decode cX8_link 76 = .ok (.iaload, 1) := by decide +kernel
theorem dX8_link_77 : decode cX8_link 77 = .ok (.ireturn, 1) := by decide +kernel
theorem dX8_link_78 : decode cX8_link 78 = .ok (.aload_n 0, 1) := by decide +kernel
theorem dX8_link_79 : decode cX8_link 79 = .ok (.getfield 10, 3) := by decide +kernel
theorem dX8_link_82 : decode cX8_link 82 = .ok (.getfield 56, 3) := by decide +kernel
theorem dX8_link_85 : decode cX8_link 85 = .ok (.iload_n 1, 1) := by decide +kernel
theorem dX8_link_86 : decode cX8_link 86 = .ok (.invokevirtual 168, 3) := by decide +kernel
theorem dX8_link_89 : decode cX8_link 89 = .ok (.ireturn, 1) := by decide +kernel
theorem dX8_link_90 : decode cX8_link 90 = .ok (.aload_n 0, 1) := by decide +kernel
theorem dX8_link_91 : decode cX8_link 91 = .ok (.getfield 10, 3) := by decide +kernel
theorem dX8_link_94 : decode cX8_link 94 = .ok (.getfield 56, 3) := by decide +kernel
theorem dX8_link_97 : decode cX8_link 97 = .ok (.iload_n 1, 1) := by decide +kernel
theorem dX8_link_98 : decode cX8_link 98 = .ok (.invokevirtual 172, 3) := by decide +kernel
theorem dX8_link_101 : decode cX8_link 101 = .ok (.ireturn, 1) := by decide +kernel
theorem dX8_link_102 : decode cX8_link 102 = .ok (.aload_n 0, 1) := by decide +kernel
theorem dX8_link_103 : decode cX8_link 103 = .ok (.getfield 10, 3) := by decide +kernel
theorem dX8_link_106 : decode cX8_link 106 = .ok (.getfield 56, 3) := by decide +kernel
theorem dX8_link_109 : decode cX8_link 109 = .ok (.getfield 175, 3) := by decide +kernel
theorem dX8_link_112 : decode cX8_link 112 = .ok (.iload_n 1, 1) := by decide +kernel
theorem dX8_link_113 : decode cX8_link 113 = .ok (.iaload, 1) := by decide +kernel
theorem dX8_link_114 : decode cX8_link 114 = .ok (.ireturn, 1) := by decide +kernel
theorem dX8_link_115 : decode cX8_link 115 = .ok (.aload_n 0, 1) := by decide +kernel
theorem dX8_link_116 : decode cX8_link 116 = .ok (.getfield 10, 3) := by decide +kernel
theorem dX8_link_119 : decode cX8_link 119 = .ok (.getfield 56, 3) := by decide +kernel
theorem dX8_link_122 : decode cX8_link 122 = .ok (.getfield 178, 3) := by decide +kernel
theorem dX8_link_125 : decode cX8_link 125 = .ok (.iload_n 1, 1) := by decide +kernel
theorem dX8_link_126 : decode cX8_link 126 = .ok (.iaload, 1) := by decide +kernel
theorem dX8_link_127 : decode cX8_link 127 = .ok (.ireturn, 1) := by decide +kernel
theorem dX8_link_128 : decode cX8_link 128 = .ok (.aload_n 0, 1) := by decide +kernel
theorem dX8_link_129 : decode cX8_link 129 = .ok (.getfield 10, 3) := by decide +kernel
theorem dX8_link_132 : decode cX8_link 132 = .ok (.getfield 56, 3) := by decide +kernel
theorem dX8_link_135 : decode cX8_link 135 = .ok (.getfield 181, 3) := by decide +kernel
theorem dX8_link_138 : decode cX8_link 138 = .ok (.iload_n 1, 1) := by decide +kernel
theorem dX8_link_139 : decode cX8_link 139 = .ok (.iaload, 1) := by decide +kernel
theorem dX8_link_140 : decode cX8_link 140 = .ok (.ireturn, 1) := by decide +kernel
set_option maxRecDepth 20000 in
theorem ggX8_waits_X8_checkNotNegative : GoodIn wsX8_waits wsX8_checkNotNegative := goodIn_ca (goodIn_r _ [11, 12, 13] (by decide +kernel) (by decide +kernel)) (goodIn_sub (fun _ h => List.mem_cons_of_mem _ (List.mem_append_right _ h)) (by decide +kernel))
set_option maxRecDepth 20000 in
theorem gX8_waits_X8_checkNotNegative : GoodIn wsX8_waits (va_wsS RX8 132 yX8_checkNotNegative wsX8_checkNotNegative) := goodIn_app (goodIn_of _ (by decide +kernel)) ggX8_waits_X8_checkNotNegative
set_option maxRecDepth 20000 in
theorem ggX8_waits_X8_checkRange : GoodIn wsX8_waits wsX8_checkRange := goodIn_ca (goodIn_r _ [16, 12, 13] (by decide +kernel) (by decide +kernel)) (goodIn_sub (fun _ h => List.mem_cons_of_mem _ (List.mem_append_right _ h)) (by decide +kernel))
set_option maxRecDepth 20000 in
theorem gX8_waits_X8_checkRange : GoodIn wsX8_waits (va_wsS RX8 48 yX8_checkRange wsX8_checkRange) := goodIn_app (goodIn_of _ (by decide +kernel)) ggX8_waits_X8_checkRange
set_option maxRecDepth 20000 in
theorem ggX8_waits_X7_readInto : GoodIn wsX8_waits wsX7_readInto := goodIn_r _ [21, 22, 23, 24, 25, 26, 27, 28, 29, 30, 31, 32, 46, 47, 48, 49, 50, 51, 52] (by decide +kernel) (by decide +kernel)
set_option maxRecDepth 20000 in
theorem gX8_waits_X7_readInto : GoodIn wsX8_waits (wsV RX8 184 RX7 yX7_readInto wsX7_readInto) := goodIn_app (goodIn_of _ (by decide +kernel)) ggX8_waits_X7_readInto
theorem dX8_waits_0 : decode cX8_waits 0 = .ok (.iload_n 1, 1) := by decide +kernel
theorem dX8_waits_1 : decode cX8_waits 1 = .ok (.invokestatic 132, 3) := by decide +kernel
theorem dX8_waits_4 : decode cX8_waits 4 = .ok (.iload_n 2, 1) := by decide +kernel
theorem dX8_waits_5 : decode cX8_waits 5 = .ok (.iconst 0, 1) := by decide +kernel
theorem dX8_waits_6 : decode cX8_waits 6 = .ok (.iconst 2, 1) := by decide +kernel
theorem dX8_waits_7 : decode cX8_waits 7 = .ok (.invokestatic 48, 3) := by decide +kernel
theorem dX8_waits_10 : decode cX8_waits 10 = .ok (.iload_n 1, 1) := by decide +kernel
theorem dX8_waits_11 : decode cX8_waits 11 = .ok (.aload_n 0, 1) := by decide +kernel
theorem dX8_waits_12 : decode cX8_waits 12 = .ok (.getfield 10, 3) := by decide +kernel
theorem dX8_waits_15 : decode cX8_waits 15 = .ok (.getfield 76, 3) := by decide +kernel
theorem dX8_waits_18 : decode cX8_waits 18 = .ok (.getfield 80, 3) := by decide +kernel
theorem dX8_waits_21 : decode cX8_waits 21 = .ok (.if_icmp .lt 5, 3) := by decide +kernel
theorem dX8_waits_24 : decode cX8_waits 24 = .ok (.iconst (-1), 1) := by decide +kernel
theorem dX8_waits_25 : decode cX8_waits 25 = .ok (.ireturn, 1) := by decide +kernel
theorem dX8_waits_26 : decode cX8_waits 26 = .ok (.aload_n 0, 1) := by decide +kernel
theorem dX8_waits_27 : decode cX8_waits 27 = .ok (.getfield 10, 3) := by decide +kernel
theorem dX8_waits_30 : decode cX8_waits 30 = .ok (.getfield 76, 3) := by decide +kernel
theorem dX8_waits_33 : decode cX8_waits 33 = .ok (.aload_n 0, 1) := by decide +kernel
theorem dX8_waits_34 : decode cX8_waits 34 = .ok (.getfield 33, 3) := by decide +kernel
theorem dX8_waits_37 : decode cX8_waits 37 = .ok (.iload_n 1, 1) := by decide +kernel
theorem dX8_waits_38 : decode cX8_waits 38 = .ok (.invokevirtual 184, 3) := by decide +kernel
theorem dX8_waits_41 : decode cX8_waits 41 = .ok (.iload_n 2, 1) := by decide +kernel
theorem dX8_waits_42 : decode cX8_waits 42 = .ok (.lookupswitch 42 #[(0, 26), (1, 34)], 26) := by decide +kernel
theorem dX8_waits_68 : decode cX8_waits 68 = .ok (.aload_n 0, 1) := by decide +kernel
theorem dX8_waits_69 : decode cX8_waits 69 = .ok (.getfield 33, 3) := by decide +kernel
theorem dX8_waits_72 : decode cX8_waits 72 = .ok (.getfield 188, 3) := by decide +kernel
theorem dX8_waits_75 : decode cX8_waits 75 = .ok (.ireturn, 1) := by decide +kernel
theorem dX8_waits_76 : decode cX8_waits 76 = .ok (.aload_n 0, 1) := by decide +kernel
theorem dX8_waits_77 : decode cX8_waits 77 = .ok (.getfield 33, 3) := by decide +kernel
theorem dX8_waits_80 : decode cX8_waits 80 = .ok (.getfield 189, 3) := by decide +kernel
theorem dX8_waits_83 : decode cX8_waits 83 = .ok (.ireturn, 1) := by decide +kernel
theorem dX8_waits_84 : decode cX8_waits 84 = .ok (.aload_n 0, 1) := by decide +kernel
theorem dX8_waits_85 : decode cX8_waits 85 = .ok (.getfield 33, 3) := by decide +kernel
theorem dX8_waits_88 : decode cX8_waits 88 = .ok (.getfield 192, 3) := by decide +kernel
theorem dX8_waits_91 : decode cX8_waits 91 = .ok (.iconst 0, 1) := by decide +kernel
theorem dX8_waits_92 : decode cX8_waits 92 = .ok (.iaload, 1) := by decide +kernel
theorem dX8_waits_93 : decode cX8_waits 93 = .ok (.ireturn, 1) := by decide +kernel
set_option maxRecDepth 20000 in
theorem ggX8_arrival_X8_checkRange : GoodIn wsX8_arrival wsX8_checkRange := goodIn_ca (goodIn_r _ [6, 7, 8] (by decide +kernel) (by decide +kernel)) (goodIn_sub (fun _ h => List.mem_cons_of_mem _ (List.mem_append_right _ h)) (by decide +kernel))
set_option maxRecDepth 20000 in
theorem gX8_arrival_X8_checkRange : GoodIn wsX8_arrival (va_wsS RX8 48 yX8_checkRange wsX8_checkRange) := goodIn_app (goodIn_of _ (by decide +kernel)) ggX8_arrival_X8_checkRange
set_option maxRecDepth 20000 in
theorem ggX8_arrival_X0_fact : GoodIn wsX8_arrival wsX0_fact := goodIn_r _ [13, 14, 15, 29, 30, 31] (by decide +kernel) (by decide +kernel)
set_option maxRecDepth 20000 in
theorem gX8_arrival_X0_fact : GoodIn wsX8_arrival (wsV RX8 195 RX0 yX0_fact wsX0_fact) := goodIn_app (goodIn_of _ (by decide +kernel)) ggX8_arrival_X0_fact
theorem dX8_arrival_0 : decode cX8_arrival 0 = .ok (.iload_n 1, 1) := by decide +kernel
theorem dX8_arrival_1 : decode cX8_arrival 1 = .ok (.iconst 0, 1) := by decide +kernel
theorem dX8_arrival_2 : decode cX8_arrival 2 = .ok (.iconst 5, 1) := by decide +kernel
theorem dX8_arrival_3 : decode cX8_arrival 3 = .ok (.invokestatic 48, 3) := by decide +kernel
theorem dX8_arrival_6 : decode cX8_arrival 6 = .ok (.iload_n 2, 1) := by decide +kernel
theorem dX8_arrival_7 : decode cX8_arrival 7 = .ok (.iconst 0, 1) := by decide +kernel
theorem dX8_arrival_8 : decode cX8_arrival 8 = .ok (.iconst 5, 1) := by decide +kernel
theorem dX8_arrival_9 : decode cX8_arrival 9 = .ok (.invokestatic 48, 3) := by decide +kernel
theorem dX8_arrival_12 : decode cX8_arrival 12 = .ok (.aload_n 0, 1) := by decide +kernel
theorem dX8_arrival_13 : decode cX8_arrival 13 = .ok (.getfield 10, 3) := by decide +kernel
theorem dX8_arrival_16 : decode cX8_arrival 16 = .ok (.getfield 135, 3) := by decide +kernel
theorem dX8_arrival_19 : decode cX8_arrival 19 = .ok (.iload_n 1, 1) := by decide +kernel
theorem dX8_arrival_20 : decode cX8_arrival 20 = .ok (.iload_n 2, 1) := by decide +kernel
theorem dX8_arrival_21 : decode cX8_arrival 21 = .ok (.invokevirtual 195, 3) := by decide +kernel
theorem dX8_arrival_24 : decode cX8_arrival 24 = .ok (.ireturn, 1) := by decide +kernel
set_option maxRecDepth 20000 in
theorem ggX8_count_X8_checkRange : GoodIn wsX8_count wsX8_checkRange := goodIn_ca (goodIn_r _ [16, 17, 18] (by decide +kernel) (by decide +kernel)) (goodIn_sub (fun _ h => List.mem_cons_of_mem _ (List.mem_append_right _ h)) (by decide +kernel))
set_option maxRecDepth 20000 in
theorem gX8_count_X8_checkRange : GoodIn wsX8_count (va_wsS RX8 48 yX8_checkRange wsX8_checkRange) := goodIn_app (goodIn_of _ (by decide +kernel)) ggX8_count_X8_checkRange
set_option maxRecDepth 20000 in
theorem ggX8_count_X8_sumOf : GoodIn wsX8_count wsX8_sumOf := goodIn_r _ [21] (by decide +kernel) (by decide +kernel)
set_option maxRecDepth 20000 in
theorem gX8_count_X8_sumOf : GoodIn wsX8_count (va_wsS RX8 202 yX8_sumOf wsX8_sumOf) := goodIn_app (goodIn_of _ (by decide +kernel)) ggX8_count_X8_sumOf
theorem dX8_count_0 : decode cX8_count 0 = .ok (.iload_n 1, 1) := by decide +kernel
theorem dX8_count_1 : decode cX8_count 1 = .ok (.iconst 0, 1) := by decide +kernel
theorem dX8_count_2 : decode cX8_count 2 = .ok (.bipush 6, 2) := by decide +kernel
theorem dX8_count_4 : decode cX8_count 4 = .ok (.invokestatic 48, 3) := by decide +kernel
theorem dX8_count_7 : decode cX8_count 7 = .ok (.iload_n 1, 1) := by decide +kernel
theorem dX8_count_8 : decode cX8_count 8 = .ok (.tableswitch 112 0 5 #[40, 51, 59, 70, 84, 98], 40) := by decide +kernel
theorem dX8_count_48 : decode cX8_count 48 = .ok (.aload_n 0, 1) := by decide +kernel
theorem dX8_count_49 : decode cX8_count 49 = .ok (.getfield 10, 3) := by decide +kernel
theorem dX8_count_52 : decode cX8_count 52 = .ok (.getfield 76, 3) := by decide +kernel
theorem dX8_count_55 : decode cX8_count 55 = .ok (.getfield 80, 3) := by decide +kernel
theorem dX8_count_58 : decode cX8_count 58 = .ok (.ireturn, 1) := by decide +kernel
theorem dX8_count_59 : decode cX8_count 59 = .ok (.aload_n 0, 1) := by decide +kernel
theorem dX8_count_60 : decode cX8_count 60 = .ok (.getfield 10, 3) := by decide +kernel
theorem dX8_count_63 : decode cX8_count 63 = .ok (.getfield 198, 3) := by decide +kernel
theorem dX8_count_66 : decode cX8_count 66 = .ok (.ireturn, 1) := by decide +kernel
theorem dX8_count_67 : decode cX8_count 67 = .ok (.aload_n 0, 1) := by decide +kernel
theorem dX8_count_68 : decode cX8_count 68 = .ok (.getfield 10, 3) := by decide +kernel
theorem dX8_count_71 : decode cX8_count 71 = .ok (.getfield 135, 3) := by decide +kernel
theorem dX8_count_74 : decode cX8_count 74 = .ok (.getfield 201, 3) := by decide +kernel
theorem dX8_count_77 : decode cX8_count 77 = .ok (.ireturn, 1) := by decide +kernel
theorem dX8_count_78 : decode cX8_count 78 = .ok (.aload_n 0, 1) := by decide +kernel
theorem dX8_count_79 : decode cX8_count 79 = .ok (.getfield 10, 3) := by decide +kernel
theorem dX8_count_82 : decode cX8_count 82 = .ok (.getfield 56, 3) := by decide +kernel
theorem dX8_count_85 : decode cX8_count 85 = .ok (.getfield 181, 3) := by decide +kernel
theorem dX8_count_88 : decode cX8_count 88 = .ok (.invokestatic 202, 3) := by decide +kernel
theorem dX8_count_91 : decode cX8_count 91 = .ok (.ireturn, 1) := by decide +kernel
theorem dX8_count_92 : decode cX8_count 92 = .ok (.aload_n 0, 1) := by decide +kernel
theorem dX8_count_93 : decode cX8_count 93 = .ok (.getfield 10, 3) := by decide +kernel
theorem dX8_count_96 : decode cX8_count 96 = .ok (.getfield 56, 3) := by decide +kernel
theorem dX8_count_99 : decode cX8_count 99 = .ok (.getfield 178, 3) := by decide +kernel
theorem dX8_count_102 : decode cX8_count 102 = .ok (.invokestatic 202, 3) := by decide +kernel
theorem dX8_count_105 : decode cX8_count 105 = .ok (.ireturn, 1) := by decide +kernel
theorem dX8_count_106 : decode cX8_count 106 = .ok (.aload_n 0, 1) := by decide +kernel
theorem dX8_count_107 : decode cX8_count 107 = .ok (.getfield 10, 3) := by decide +kernel
theorem dX8_count_110 : decode cX8_count 110 = .ok (.getfield 56, 3) := by decide +kernel
theorem dX8_count_113 : decode cX8_count 113 = .ok (.getfield 175, 3) := by decide +kernel
theorem dX8_count_116 : decode cX8_count 116 = .ok (.invokestatic 202, 3) := by decide +kernel
theorem dX8_count_119 : decode cX8_count 119 = .ok (.ireturn, 1) := by decide +kernel
theorem dX8_count_120 : decode cX8_count 120 = .ok (.aload_n 0, 1) := by decide +kernel
theorem dX8_count_121 : decode cX8_count 121 = .ok (.getfield 19, 3) := by decide +kernel
theorem dX8_count_124 : decode cX8_count 124 = .ok (.getfield 156, 3) := by decide +kernel
theorem dX8_count_127 : decode cX8_count 127 = .ok (.ireturn, 1) := by decide +kernel
set_option maxRecDepth 20000 in
theorem ggX8_lost_X8_checkRange : GoodIn wsX8_lost wsX8_checkRange := goodIn_ca (goodIn_r _ [6, 7, 8] (by decide +kernel) (by decide +kernel)) (goodIn_sub (fun _ h => List.mem_cons_of_mem _ (List.mem_append_right _ h)) (by decide +kernel))
set_option maxRecDepth 20000 in
theorem gX8_lost_X8_checkRange : GoodIn wsX8_lost (va_wsS RX8 48 yX8_checkRange wsX8_checkRange) := goodIn_app (goodIn_of _ (by decide +kernel)) ggX8_lost_X8_checkRange
set_option maxRecDepth 20000 in
theorem ggX8_lost_X5_wordLostAs : GoodIn wsX8_lost wsX5_wordLostAs := goodIn_r _ [13, 14, 15, 16, 12, 17, 18, 25, 26, 27, 28, 29, 30, 31] (by decide +kernel) (by decide +kernel)
set_option maxRecDepth 20000 in
theorem gX8_lost_X5_wordLostAs : GoodIn wsX8_lost (wsV RX8 206 RX5 yX5_wordLostAs wsX5_wordLostAs) := goodIn_app (goodIn_of _ (by decide +kernel)) ggX8_lost_X5_wordLostAs
theorem dX8_lost_0 : decode cX8_lost 0 = .ok (.iload_n 1, 1) := by decide +kernel
theorem dX8_lost_1 : decode cX8_lost 1 = .ok (.iconst 0, 1) := by decide +kernel
theorem dX8_lost_2 : decode cX8_lost 2 = .ok (.bipush 29, 2) := by decide +kernel
theorem dX8_lost_4 : decode cX8_lost 4 = .ok (.invokestatic 48, 3) := by decide +kernel
theorem dX8_lost_7 : decode cX8_lost 7 = .ok (.iload_n 2, 1) := by decide +kernel
theorem dX8_lost_8 : decode cX8_lost 8 = .ok (.iconst 0, 1) := by decide +kernel
theorem dX8_lost_9 : decode cX8_lost 9 = .ok (.iconst 1, 1) := by decide +kernel
theorem dX8_lost_10 : decode cX8_lost 10 = .ok (.invokestatic 48, 3) := by decide +kernel
theorem dX8_lost_13 : decode cX8_lost 13 = .ok (.aload_n 0, 1) := by decide +kernel
theorem dX8_lost_14 : decode cX8_lost 14 = .ok (.getfield 10, 3) := by decide +kernel
theorem dX8_lost_17 : decode cX8_lost 17 = .ok (.iload_n 1, 1) := by decide +kernel
theorem dX8_lost_18 : decode cX8_lost 18 = .ok (.invokevirtual 206, 3) := by decide +kernel
theorem dX8_lost_21 : decode cX8_lost 21 = .ok (.istore_n 3, 1) := by decide +kernel
theorem dX8_lost_22 : decode cX8_lost 22 = .ok (.iload_n 2, 1) := by decide +kernel
theorem dX8_lost_23 : decode cX8_lost 23 = .ok (.ifCond .ne 7, 3) := by decide +kernel
theorem dX8_lost_26 : decode cX8_lost 26 = .ok (.iload_n 3, 1) := by decide +kernel
theorem dX8_lost_27 : decode cX8_lost 27 = .ok (.goto 12, 3) := by decide +kernel
theorem dX8_lost_30 : decode cX8_lost 30 = .ok (.aload_n 0, 1) := by decide +kernel
theorem dX8_lost_31 : decode cX8_lost 31 = .ok (.getfield 10, 3) := by decide +kernel
theorem dX8_lost_34 : decode cX8_lost 34 = .ok (.getfield 209, 3) := by decide +kernel
theorem dX8_lost_37 : decode cX8_lost 37 = .ok (.iload_n 3, 1) := by decide +kernel
theorem dX8_lost_38 : decode cX8_lost 38 = .ok (.iaload, 1) := by decide +kernel
theorem dX8_lost_39 : decode cX8_lost 39 = .ok (.ireturn, 1) := by decide +kernel
set_option maxRecDepth 20000 in
theorem ggX8_ifGone_X8_checkLink : GoodIn wsX8_ifGone wsX8_checkLink := goodIn_ca (goodIn_r _ [9, 10, 11] (by decide +kernel) (by decide +kernel)) (goodIn_sub (fun _ h => List.mem_cons_of_mem _ (List.mem_append_left _ (List.mem_append_right _ h))) (by decide +kernel))
set_option maxRecDepth 20000 in
theorem gX8_ifGone_X8_checkLink : GoodIn wsX8_ifGone (va_wsS RX8 44 yX8_checkLink wsX8_checkLink) := goodIn_app (goodIn_of _ (by decide +kernel)) ggX8_ifGone_X8_checkLink
set_option maxRecDepth 20000 in
theorem ggX8_ifGone_X8_checkRange : GoodIn wsX8_ifGone wsX8_checkRange := goodIn_ca (goodIn_r _ [14, 15, 16] (by decide +kernel) (by decide +kernel)) (goodIn_sub (fun _ h => List.mem_cons_of_mem _ (List.mem_append_right _ h)) (by decide +kernel))
set_option maxRecDepth 20000 in
theorem gX8_ifGone_X8_checkRange : GoodIn wsX8_ifGone (va_wsS RX8 48 yX8_checkRange wsX8_checkRange) := goodIn_app (goodIn_of _ (by decide +kernel)) ggX8_ifGone_X8_checkRange
set_option maxRecDepth 20000 in
theorem ggX8_ifGone_X8_tryWaiting : GoodIn wsX8_ifGone wsX8_tryWaiting := goodIn_r _ [20, 1, 2, 21, 4, 5, 22, 23, 24, 25, 26, 27, 28, 29, 30, 31, 32, 33, 34, 35, 36, 37, 38, 39, 40, 41, 42, 43, 44, 45, 46, 47, 48, 49, 50, 51, 52, 53, 54, 55, 56, 57, 58, 59, 60, 61, 79, 80, 81, 82, 83, 84, 85, 86, 87, 88, 89, 90, 91, 92, 93, 94, 95, 96, 97, 98, 99, 100, 101, 102, 103, 104, 105, 106, 107] (by decide +kernel) (by decide +kernel)
set_option maxRecDepth 20000 in
theorem gX8_ifGone_X8_tryWaiting : GoodIn wsX8_ifGone (wsV RX8 212 RX8 yX8_tryWaiting wsX8_tryWaiting) := goodIn_app (goodIn_of _ (by decide +kernel)) ggX8_ifGone_X8_tryWaiting
set_option maxRecDepth 20000 in
theorem ggX8_ifGone_X6_wordsBehind : GoodIn wsX8_ifGone wsX6_wordsBehind := goodIn_r _ [65, 46, 99, 100, 101] (by decide +kernel) (by decide +kernel)
set_option maxRecDepth 20000 in
theorem gX8_ifGone_X6_wordsBehind : GoodIn wsX8_ifGone (wsV RX8 216 RX6 yX6_wordsBehind wsX6_wordsBehind) := goodIn_app (goodIn_of _ (by decide +kernel)) ggX8_ifGone_X6_wordsBehind
set_option maxRecDepth 20000 in
theorem ggX8_ifGone_X6_mumblesBehind : GoodIn wsX8_ifGone wsX6_mumblesBehind := goodIn_r _ [69, 46, 44, 99, 100, 101] (by decide +kernel) (by decide +kernel)
set_option maxRecDepth 20000 in
theorem gX8_ifGone_X6_mumblesBehind : GoodIn wsX8_ifGone (wsV RX8 219 RX6 yX6_mumblesBehind wsX6_mumblesBehind) := goodIn_app (goodIn_of _ (by decide +kernel)) ggX8_ifGone_X6_mumblesBehind
set_option maxRecDepth 20000 in
theorem ggX8_ifGone_X6_payOf : GoodIn wsX8_ifGone wsX6_payOf := goodIn_r _ [73, 46, 74, 99, 100, 101, 102, 103, 104, 105, 106, 107] (by decide +kernel) (by decide +kernel)
set_option maxRecDepth 20000 in
theorem gX8_ifGone_X6_payOf : GoodIn wsX8_ifGone (wsV RX8 222 RX6 yX6_payOf wsX6_payOf) := goodIn_app (goodIn_of _ (by decide +kernel)) ggX8_ifGone_X6_payOf
set_option maxRecDepth 20000 in
theorem ggX8_ifGone_X6_missedBy : GoodIn wsX8_ifGone wsX6_missedBy := goodIn_r _ [78, 46, 99, 100, 101] (by decide +kernel) (by decide +kernel)
set_option maxRecDepth 20000 in
theorem gX8_ifGone_X6_missedBy : GoodIn wsX8_ifGone (wsV RX8 226 RX6 yX6_missedBy wsX6_missedBy) := goodIn_app (goodIn_of _ (by decide +kernel)) ggX8_ifGone_X6_missedBy
theorem dX8_ifGone_0 : decode cX8_ifGone 0 = .ok (.iload_n 1, 1) := by decide +kernel
theorem dX8_ifGone_1 : decode cX8_ifGone 1 = .ok (.invokestatic 44, 3) := by decide +kernel
theorem dX8_ifGone_4 : decode cX8_ifGone 4 = .ok (.iload_n 2, 1) := by decide +kernel
theorem dX8_ifGone_5 : decode cX8_ifGone 5 = .ok (.iconst 0, 1) := by decide +kernel
theorem dX8_ifGone_6 : decode cX8_ifGone 6 = .ok (.iconst 3, 1) := by decide +kernel
theorem dX8_ifGone_7 : decode cX8_ifGone 7 = .ok (.invokestatic 48, 3) := by decide +kernel
theorem dX8_ifGone_10 : decode cX8_ifGone 10 = .ok (.aload_n 0, 1) := by decide +kernel
theorem dX8_ifGone_11 : decode cX8_ifGone 11 = .ok (.getfield 10, 3) := by decide +kernel
theorem dX8_ifGone_14 : decode cX8_ifGone 14 = .ok (.getfield 76, 3) := by decide +kernel
theorem dX8_ifGone_17 : decode cX8_ifGone 17 = .ok (.getfield 80, 3) := by decide +kernel
theorem dX8_ifGone_20 : decode cX8_ifGone 20 = .ok (.ifCond .ne 5, 3) := by decide +kernel
theorem dX8_ifGone_23 : decode cX8_ifGone 23 = .ok (.iconst (-1), 1) := by decide +kernel
theorem dX8_ifGone_24 : decode cX8_ifGone 24 = .ok (.ireturn, 1) := by decide +kernel
theorem dX8_ifGone_25 : decode cX8_ifGone 25 = .ok (.aload_n 0, 1) := by decide +kernel
theorem dX8_ifGone_26 : decode cX8_ifGone 26 = .ok (.iconst 0, 1) := by decide +kernel
theorem dX8_ifGone_27 : decode cX8_ifGone 27 = .ok (.iconst (-1), 1) := by decide +kernel
theorem dX8_ifGone_28 : decode cX8_ifGone 28 = .ok (.invokevirtual 212, 3) := by decide +kernel
theorem dX8_ifGone_31 : decode cX8_ifGone 31 = .ok (.iload_n 2, 1) := by decide +kernel
theorem dX8_ifGone_32 : decode cX8_ifGone 32 = .ok (.tableswitch 62 0 2 #[28, 37, 46], 28) := by decide +kernel
theorem dX8_ifGone_60 : decode cX8_ifGone 60 = .ok (.aload_n 0, 1) := by decide +kernel
theorem dX8_ifGone_61 : decode cX8_ifGone 61 = .ok (.getfield 40, 3) := by decide +kernel
theorem dX8_ifGone_64 : decode cX8_ifGone 64 = .ok (.iload_n 1, 1) := by decide +kernel
theorem dX8_ifGone_65 : decode cX8_ifGone 65 = .ok (.invokevirtual 216, 3) := by decide +kernel
theorem dX8_ifGone_68 : decode cX8_ifGone 68 = .ok (.ireturn, 1) := by decide +kernel
theorem dX8_ifGone_69 : decode cX8_ifGone 69 = .ok (.aload_n 0, 1) := by decide +kernel
theorem dX8_ifGone_70 : decode cX8_ifGone 70 = .ok (.getfield 40, 3) := by decide +kernel
theorem dX8_ifGone_73 : decode cX8_ifGone 73 = .ok (.iload_n 1, 1) := by decide +kernel
theorem dX8_ifGone_74 : decode cX8_ifGone 74 = .ok (.invokevirtual 219, 3) := by decide +kernel
theorem dX8_ifGone_77 : decode cX8_ifGone 77 = .ok (.ireturn, 1) := by decide +kernel
theorem dX8_ifGone_78 : decode cX8_ifGone 78 = .ok (.aload_n 0, 1) := by decide +kernel
theorem dX8_ifGone_79 : decode cX8_ifGone 79 = .ok (.getfield 40, 3) := by decide +kernel
theorem dX8_ifGone_82 : decode cX8_ifGone 82 = .ok (.iload_n 1, 1) := by decide +kernel
theorem dX8_ifGone_83 : decode cX8_ifGone 83 = .ok (.aload_n 0, 1) := by decide +kernel
theorem dX8_ifGone_84 : decode cX8_ifGone 84 = .ok (.getfield 10, 3) := by decide +kernel
theorem dX8_ifGone_87 : decode cX8_ifGone 87 = .ok (.getfield 56, 3) := by decide +kernel
theorem dX8_ifGone_90 : decode cX8_ifGone 90 = .ok (.invokevirtual 222, 3) := by decide +kernel
theorem dX8_ifGone_93 : decode cX8_ifGone 93 = .ok (.ireturn, 1) := by decide +kernel
theorem dX8_ifGone_94 : decode cX8_ifGone 94 = .ok (.aload_n 0, 1) := by decide +kernel
theorem dX8_ifGone_95 : decode cX8_ifGone 95 = .ok (.getfield 40, 3) := by decide +kernel
theorem dX8_ifGone_98 : decode cX8_ifGone 98 = .ok (.iload_n 1, 1) := by decide +kernel
theorem dX8_ifGone_99 : decode cX8_ifGone 99 = .ok (.invokevirtual 226, 3) := by decide +kernel
theorem dX8_ifGone_102 : decode cX8_ifGone 102 = .ok (.ireturn, 1) := by decide +kernel
set_option maxRecDepth 20000 in
theorem ggX8_lostAt_X8_checkRange : GoodIn wsX8_lostAt wsX8_checkRange := goodIn_ca (goodIn_r _ [6, 7, 8] (by decide +kernel) (by decide +kernel)) (goodIn_sub (fun _ h => List.mem_cons_of_mem _ (List.mem_append_right _ h)) (by decide +kernel))
set_option maxRecDepth 20000 in
theorem gX8_lostAt_X8_checkRange : GoodIn wsX8_lostAt (va_wsS RX8 48 yX8_checkRange wsX8_checkRange) := goodIn_app (goodIn_of _ (by decide +kernel)) ggX8_lostAt_X8_checkRange
set_option maxRecDepth 20000 in
theorem ggX8_lostAt_X2_lossOfWord : GoodIn wsX8_lostAt wsX2_lossOfWord := goodIn_r _ [13, 14, 15, 16, 12, 17, 18, 19, 20, 21, 22, 23, 24, 25, 26, 27, 28, 29, 30, 44, 45, 46, 47, 48, 49] (by decide +kernel) (by decide +kernel)
set_option maxRecDepth 20000 in
theorem gX8_lostAt_X2_lossOfWord : GoodIn wsX8_lostAt (wsV RX8 229 RX2 yX2_lossOfWord wsX2_lossOfWord) := goodIn_app (goodIn_of _ (by decide +kernel)) ggX8_lostAt_X2_lossOfWord
theorem dX8_lostAt_0 : decode cX8_lostAt 0 = .ok (.iload_n 1, 1) := by decide +kernel
theorem dX8_lostAt_1 : decode cX8_lostAt 1 = .ok (.iconst 0, 1) := by decide +kernel
theorem dX8_lostAt_2 : decode cX8_lostAt 2 = .ok (.bipush 29, 2) := by decide +kernel
theorem dX8_lostAt_4 : decode cX8_lostAt 4 = .ok (.invokestatic 48, 3) := by decide +kernel
theorem dX8_lostAt_7 : decode cX8_lostAt 7 = .ok (.aload_n 0, 1) := by decide +kernel
theorem dX8_lostAt_8 : decode cX8_lostAt 8 = .ok (.getfield 10, 3) := by decide +kernel
theorem dX8_lostAt_11 : decode cX8_lostAt 11 = .ok (.getfield 56, 3) := by decide +kernel
theorem dX8_lostAt_14 : decode cX8_lostAt 14 = .ok (.iload_n 1, 1) := by decide +kernel
theorem dX8_lostAt_15 : decode cX8_lostAt 15 = .ok (.invokevirtual 229, 3) := by decide +kernel
theorem dX8_lostAt_18 : decode cX8_lostAt 18 = .ok (.ireturn, 1) := by decide +kernel
set_option maxRecDepth 20000 in
theorem ggX8_worstEar_X8_tryWaiting : GoodIn wsX8_worstEar wsX8_tryWaiting := goodIn_r _ [9, 1, 2, 10, 4, 11, 12, 13, 14, 15, 16, 17, 18, 19, 20, 21, 22, 23, 24, 25, 26, 27, 28, 29, 30, 31, 32, 33, 34, 35, 36, 37, 38, 39, 40, 41, 42, 43, 44, 45, 46, 47, 48, 49, 50, 51, 56, 57, 58, 59, 60, 61, 62, 63, 64, 65, 66, 67, 68, 69, 70, 71, 72, 73, 74, 75, 76, 77, 78, 79, 80, 81, 82, 83, 84] (by decide +kernel) (by decide +kernel)
set_option maxRecDepth 20000 in
theorem gX8_worstEar_X8_tryWaiting : GoodIn wsX8_worstEar (wsV RX8 212 RX8 yX8_tryWaiting wsX8_tryWaiting) := goodIn_app (goodIn_of _ (by decide +kernel)) ggX8_worstEar_X8_tryWaiting
set_option maxRecDepth 20000 in
theorem ggX8_worstEar_X6_arrivedWords : GoodIn wsX8_worstEar wsX6_arrivedWords := goodIn_r _ [55, 36, 76, 77, 78] (by decide +kernel) (by decide +kernel)
set_option maxRecDepth 20000 in
theorem gX8_worstEar_X6_arrivedWords : GoodIn wsX8_worstEar (wsV RX8 232 RX6 yX6_arrivedWords wsX6_arrivedWords) := goodIn_app (goodIn_of _ (by decide +kernel)) ggX8_worstEar_X6_arrivedWords
theorem dX8_worstEar_0 : decode cX8_worstEar 0 = .ok (.aload_n 0, 1) := by decide +kernel
theorem dX8_worstEar_1 : decode cX8_worstEar 1 = .ok (.getfield 10, 3) := by decide +kernel
theorem dX8_worstEar_4 : decode cX8_worstEar 4 = .ok (.getfield 76, 3) := by decide +kernel
theorem dX8_worstEar_7 : decode cX8_worstEar 7 = .ok (.getfield 80, 3) := by decide +kernel
theorem dX8_worstEar_10 : decode cX8_worstEar 10 = .ok (.ifCond .ne 5, 3) := by decide +kernel
theorem dX8_worstEar_13 : decode cX8_worstEar 13 = .ok (.iconst (-1), 1) := by decide +kernel
theorem dX8_worstEar_14 : decode cX8_worstEar 14 = .ok (.ireturn, 1) := by decide +kernel
theorem dX8_worstEar_15 : decode cX8_worstEar 15 = .ok (.aload_n 0, 1) := by decide +kernel
theorem dX8_worstEar_16 : decode cX8_worstEar 16 = .ok (.iconst 0, 1) := by decide +kernel
theorem dX8_worstEar_17 : decode cX8_worstEar 17 = .ok (.iconst (-1), 1) := by decide +kernel
theorem dX8_worstEar_18 : decode cX8_worstEar 18 = .ok (.invokevirtual 212, 3) := by decide +kernel
theorem dX8_worstEar_21 : decode cX8_worstEar 21 = .ok (.aload_n 0, 1) := by decide +kernel
theorem dX8_worstEar_22 : decode cX8_worstEar 22 = .ok (.getfield 40, 3) := by decide +kernel
theorem dX8_worstEar_25 : decode cX8_worstEar 25 = .ok (.invokevirtual 232, 3) := by decide +kernel
theorem dX8_worstEar_28 : decode cX8_worstEar 28 = .ok (.istore_n 1, 1) := by decide +kernel
theorem dX8_worstEar_29 : decode cX8_worstEar 29 = .ok (.iconst (-1), 1) := by decide +kernel
theorem dX8_worstEar_30 : decode cX8_worstEar 30 = .ok (.istore_n 2, 1) := by decide +kernel
theorem dX8_worstEar_31 : decode cX8_worstEar 31 = .ok (.iconst 0, 1) := by decide +kernel
theorem dX8_worstEar_32 : decode cX8_worstEar 32 = .ok (.istore_n 3, 1) := by decide +kernel
theorem dX8_worstEar_33 : decode cX8_worstEar 33 = .ok (.iload_n 3, 1) := by decide +kernel
theorem dX8_worstEar_34 : decode cX8_worstEar 34 = .ok (.bipush 6, 2) := by decide +kernel
theorem dX8_worstEar_36 : decode cX8_worstEar 36 = .ok (.if_icmp .ge 36, 3) := by decide +kernel
theorem dX8_worstEar_39 : decode cX8_worstEar 39 = .ok (.aload_n 0, 1) := by decide +kernel
theorem dX8_worstEar_40 : decode cX8_worstEar 40 = .ok (.iconst 0, 1) := by decide +kernel
theorem dX8_worstEar_41 : decode cX8_worstEar 41 = .ok (.iload_n 3, 1) := by decide +kernel
theorem dX8_worstEar_42 : decode cX8_worstEar 42 = .ok (.invokevirtual 212, 3) := by decide +kernel
theorem dX8_worstEar_45 : decode cX8_worstEar 45 = .ok (.aload_n 0, 1) := by decide +kernel
theorem dX8_worstEar_46 : decode cX8_worstEar 46 = .ok (.getfield 40, 3) := by decide +kernel
theorem dX8_worstEar_49 : decode cX8_worstEar 49 = .ok (.invokevirtual 232, 3) := by decide +kernel
theorem dX8_worstEar_52 : decode cX8_worstEar 52 = .ok (.iload_n 1, 1) := by decide +kernel
theorem dX8_worstEar_53 : decode cX8_worstEar 53 = .ok (.if_icmp .le 13, 3) := by decide +kernel
theorem dX8_worstEar_56 : decode cX8_worstEar 56 = .ok (.aload_n 0, 1) := by decide +kernel
theorem dX8_worstEar_57 : decode cX8_worstEar 57 = .ok (.getfield 40, 3) := by decide +kernel
theorem dX8_worstEar_60 : decode cX8_worstEar 60 = .ok (.invokevirtual 232, 3) := by decide +kernel
theorem dX8_worstEar_63 : decode cX8_worstEar 63 = .ok (.istore_n 1, 1) := by decide +kernel
theorem dX8_worstEar_64 : decode cX8_worstEar 64 = .ok (.iload_n 3, 1) := by decide +kernel
theorem dX8_worstEar_65 : decode cX8_worstEar 65 = .ok (.istore_n 2, 1) := by decide +kernel
theorem dX8_worstEar_66 : decode cX8_worstEar 66 = .ok (.iinc 3 1, 3) := by decide +kernel
theorem dX8_worstEar_69 : decode cX8_worstEar 69 = .ok (.goto (-36), 3) := by decide +kernel
theorem dX8_worstEar_72 : decode cX8_worstEar 72 = .ok (.iload_n 2, 1) := by decide +kernel
theorem dX8_worstEar_73 : decode cX8_worstEar 73 = .ok (.ireturn, 1) := by decide +kernel
set_option maxRecDepth 20000 in
theorem ggX8_costs_X8_tryWaiting : GoodIn wsX8_costs wsX8_tryWaiting := goodIn_r _ [10, 1, 2, 11, 4, 5, 12, 13, 14, 15, 16, 17, 18, 19, 20, 21, 22, 23, 24, 25, 26, 27, 28, 29, 30, 31, 32, 33, 34, 35, 36, 37, 38, 39, 40, 41, 42, 43, 44, 45, 46, 47, 48, 49, 50, 51, 61, 62, 63, 64, 65, 66, 67, 68, 69, 70, 71, 72, 73, 74, 75, 76, 77, 78, 79, 80, 81, 82, 83, 84, 85, 86, 87, 88, 89] (by decide +kernel) (by decide +kernel)
set_option maxRecDepth 20000 in
theorem gX8_costs_X8_tryWaiting : GoodIn wsX8_costs (wsV RX8 212 RX8 yX8_tryWaiting wsX8_tryWaiting) := goodIn_app (goodIn_of _ (by decide +kernel)) ggX8_costs_X8_tryWaiting
set_option maxRecDepth 20000 in
theorem ggX8_costs_X6_payOfAll : GoodIn wsX8_costs wsX6_payOfAll := goodIn_r _ [55, 56, 57, 58, 31, 59, 36, 60, 81, 82, 83, 84, 85, 86, 87, 88, 89] (by decide +kernel) (by decide +kernel)
set_option maxRecDepth 20000 in
theorem gX8_costs_X6_payOfAll : GoodIn wsX8_costs (wsV RX8 235 RX6 yX6_payOfAll wsX6_payOfAll) := goodIn_app (goodIn_of _ (by decide +kernel)) ggX8_costs_X6_payOfAll
theorem dX8_costs_0 : decode cX8_costs 0 = .ok (.iconst 0, 1) := by decide +kernel
theorem dX8_costs_1 : decode cX8_costs 1 = .ok (.istore_n 1, 1) := by decide +kernel
theorem dX8_costs_2 : decode cX8_costs 2 = .ok (.iconst 0, 1) := by decide +kernel
theorem dX8_costs_3 : decode cX8_costs 3 = .ok (.istore_n 2, 1) := by decide +kernel
theorem dX8_costs_4 : decode cX8_costs 4 = .ok (.iload_n 2, 1) := by decide +kernel
theorem dX8_costs_5 : decode cX8_costs 5 = .ok (.aload_n 0, 1) := by decide +kernel
theorem dX8_costs_6 : decode cX8_costs 6 = .ok (.getfield 10, 3) := by decide +kernel
theorem dX8_costs_9 : decode cX8_costs 9 = .ok (.getfield 76, 3) := by decide +kernel
theorem dX8_costs_12 : decode cX8_costs 12 = .ok (.getfield 80, 3) := by decide +kernel
theorem dX8_costs_15 : decode cX8_costs 15 = .ok (.if_icmp .ge 32, 3) := by decide +kernel
theorem dX8_costs_18 : decode cX8_costs 18 = .ok (.aload_n 0, 1) := by decide +kernel
theorem dX8_costs_19 : decode cX8_costs 19 = .ok (.iload_n 2, 1) := by decide +kernel
theorem dX8_costs_20 : decode cX8_costs 20 = .ok (.iconst (-1), 1) := by decide +kernel
theorem dX8_costs_21 : decode cX8_costs 21 = .ok (.invokevirtual 212, 3) := by decide +kernel
theorem dX8_costs_24 : decode cX8_costs 24 = .ok (.iload_n 1, 1) := by decide +kernel
theorem dX8_costs_25 : decode cX8_costs 25 = .ok (.aload_n 0, 1) := by decide +kernel
theorem dX8_costs_26 : decode cX8_costs 26 = .ok (.getfield 40, 3) := by decide +kernel
theorem dX8_costs_29 : decode cX8_costs 29 = .ok (.aload_n 0, 1) := by decide +kernel
theorem dX8_costs_30 : decode cX8_costs 30 = .ok (.getfield 10, 3) := by decide +kernel
theorem dX8_costs_33 : decode cX8_costs 33 = .ok (.getfield 56, 3) := by decide +kernel
theorem dX8_costs_36 : decode cX8_costs 36 = .ok (.invokevirtual 235, 3) := by decide +kernel
theorem dX8_costs_39 : decode cX8_costs 39 = .ok (.iadd, 1) := by decide +kernel
theorem dX8_costs_40 : decode cX8_costs 40 = .ok (.istore_n 1, 1) := by decide +kernel
theorem dX8_costs_41 : decode cX8_costs 41 = .ok (.iinc 2 1, 3) := by decide +kernel
theorem dX8_costs_44 : decode cX8_costs 44 = .ok (.goto (-40), 3) := by decide +kernel
theorem dX8_costs_47 : decode cX8_costs 47 = .ok (.iload_n 1, 1) := by decide +kernel
theorem dX8_costs_48 : decode cX8_costs 48 = .ok (.ireturn, 1) := by decide +kernel
set_option maxRecDepth 20000 in
theorem ggX8_throughShare_X8_sumOf : GoodIn wsX8_throughShare wsX8_sumOf := goodIn_r _ [8] (by decide +kernel) (by decide +kernel)
set_option maxRecDepth 20000 in
theorem gX8_throughShare_X8_sumOf : GoodIn wsX8_throughShare (va_wsS RX8 202 yX8_sumOf wsX8_sumOf) := goodIn_app (goodIn_of _ (by decide +kernel)) ggX8_throughShare_X8_sumOf
theorem dX8_throughShare_0 : decode cX8_throughShare 0 = .ok (.aload_n 0, 1) := by decide +kernel
theorem dX8_throughShare_1 : decode cX8_throughShare 1 = .ok (.getfield 10, 3) := by decide +kernel
theorem dX8_throughShare_4 : decode cX8_throughShare 4 = .ok (.getfield 198, 3) := by decide +kernel
theorem dX8_throughShare_7 : decode cX8_throughShare 7 = .ok (.istore_n 1, 1) := by decide +kernel
theorem dX8_throughShare_8 : decode cX8_throughShare 8 = .ok (.iload_n 1, 1) := by decide +kernel
theorem dX8_throughShare_9 : decode cX8_throughShare 9 = .ok (.ifCond .ne 5, 3) := by decide +kernel
theorem dX8_throughShare_12 : decode cX8_throughShare 12 = .ok (.dconst 1, 1) := by decide +kernel
theorem dX8_throughShare_13 : decode cX8_throughShare 13 = .ok (.dreturn, 1) := by decide +kernel
theorem dX8_throughShare_14 : decode cX8_throughShare 14 = .ok (.iload_n 1, 1) := by decide +kernel
theorem dX8_throughShare_15 : decode cX8_throughShare 15 = .ok (.aload_n 0, 1) := by decide +kernel
theorem dX8_throughShare_16 : decode cX8_throughShare 16 = .ok (.getfield 10, 3) := by decide +kernel
theorem dX8_throughShare_19 : decode cX8_throughShare 19 = .ok (.getfield 56, 3) := by decide +kernel
theorem dX8_throughShare_22 : decode cX8_throughShare 22 = .ok (.getfield 181, 3) := by decide +kernel
theorem dX8_throughShare_25 : decode cX8_throughShare 25 = .ok (.invokestatic 202, 3) := by decide +kernel
theorem dX8_throughShare_28 : decode cX8_throughShare 28 = .ok (.isub, 1) := by decide +kernel
theorem dX8_throughShare_29 : decode cX8_throughShare 29 = .ok (.istore_n 2, 1) := by decide +kernel
theorem dX8_throughShare_30 : decode cX8_throughShare 30 = .ok (.iload_n 2, 1) := by decide +kernel
theorem dX8_throughShare_31 : decode cX8_throughShare 31 = .ok (.i2d, 1) := by decide +kernel
theorem dX8_throughShare_32 : decode cX8_throughShare 32 = .ok (.iload_n 1, 1) := by decide +kernel
theorem dX8_throughShare_33 : decode cX8_throughShare 33 = .ok (.i2d, 1) := by decide +kernel
theorem dX8_throughShare_34 : decode cX8_throughShare 34 = .ok (.ddiv, 1) := by decide +kernel
theorem dX8_throughShare_35 : decode cX8_throughShare 35 = .ok (.dreturn, 1) := by decide +kernel
set_option maxRecDepth 20000 in
theorem ggX8_digest_X8_count : GoodIn wsX8_digest wsX8_count := goodIn_ca (goodIn_r _ [6, 7, 8, 9, 10, 11, 12, 13, 14, 15, 16, 17, 18, 19, 20, 5, 21, 22, 23, 24, 25, 26, 267, 268, 269, 270, 271, 272, 273, 274, 275, 276, 277, 278, 279, 280, 281, 282, 283, 284, 285, 286, 287, 288, 289, 290, 291, 292, 293, 294] (by decide +kernel) (by decide +kernel)) (goodIn_sub (fun _ h => List.mem_cons_of_mem _ (List.mem_append_left _ (List.mem_append_right _ h))) (by decide +kernel))
set_option maxRecDepth 20000 in
theorem gX8_digest_X8_count : GoodIn wsX8_digest (wsV RX8 241 RX8 yX8_count wsX8_count) := goodIn_app (goodIn_of _ (by decide +kernel)) ggX8_digest_X8_count
set_option maxRecDepth 20000 in
theorem ggX8_digest_X8_hashed : GoodIn wsX8_digest wsX8_hashed := goodIn_r _ [29, 30] (by decide +kernel) (by decide +kernel)
set_option maxRecDepth 20000 in
theorem gX8_digest_X8_hashed : GoodIn wsX8_digest (va_wsS RX8 244 yX8_hashed wsX8_hashed) := goodIn_app (goodIn_of _ (by decide +kernel)) ggX8_digest_X8_hashed
set_option maxRecDepth 20000 in
theorem ggX8_digest_X8_hashedLink : GoodIn wsX8_digest wsX8_hashedLink := goodIn_ca (goodIn_ca (goodIn_r _ [34, 35, 36, 37, 5, 38, 7, 13, 39, 40, 16, 15, 14, 41, 42, 43, 44, 45, 19, 20, 21, 22, 23, 46, 47, 48, 49, 50, 51, 52, 53, 54, 55, 56, 57, 58, 59, 60, 61, 62, 63, 64, 65, 66, 67, 27, 28, 29, 30, 68, 69, 70, 71, 8, 9, 72, 73, 74, 75, 76, 77, 78, 79, 80, 81, 82, 83, 84, 85, 86, 87, 88, 89, 90, 91, 92, 93, 94, 95, 96, 97, 98, 99, 100, 101, 102, 103, 104, 105, 106, 107, 108, 109, 110, 111, 112, 113, 114, 115, 116, 117, 118, 119, 120, 121, 122, 123, 124, 125, 126, 127, 128, 129, 130, 131, 132, 133, 134, 135, 267, 268, 269, 270, 271, 272, 273, 274, 275, 276, 277, 278, 279, 287, 288, 289, 290, 291, 292, 280, 281, 282, 283, 295, 296, 297, 298, 299, 300] (by decide +kernel) (by decide +kernel)) (goodIn_sub (fun _ h => List.mem_cons_of_mem _ (List.mem_append_right _ h)) (by decide +kernel))) (goodIn_sub (fun _ h => List.mem_cons_of_mem _ (List.mem_append_left _ (List.mem_append_right _ h))) (by decide +kernel))
set_option maxRecDepth 20000 in
theorem gX8_digest_X8_hashedLink : GoodIn wsX8_digest (wsV RX8 248 RX8 yX8_hashedLink wsX8_hashedLink) := goodIn_app (goodIn_of _ (by decide +kernel)) ggX8_digest_X8_hashedLink
set_option maxRecDepth 20000 in
theorem ggX8_digest_X8_hashedWaiting : GoodIn wsX8_digest wsX8_hashedWaiting := goodIn_ca (goodIn_r _ [139, 7, 8, 9, 140, 141, 142, 5, 143, 77, 144, 145, 146, 147, 148, 149, 22, 23, 19, 20, 21, 78, 79, 80, 81, 82, 83, 84, 85, 86, 87, 88, 89, 90, 91, 92, 93, 27, 28, 29, 30, 267, 268, 269, 270, 271, 272, 273, 274, 275, 276, 277, 278, 279, 280, 281, 282, 283, 295, 296, 297] (by decide +kernel) (by decide +kernel)) (goodIn_sub (fun _ h => List.mem_cons_of_mem _ (List.mem_append_left _ (List.mem_append_right _ h))) (by decide +kernel))
set_option maxRecDepth 20000 in
theorem gX8_digest_X8_hashedWaiting : GoodIn wsX8_digest (wsV RX8 252 RX8 yX8_hashedWaiting wsX8_hashedWaiting) := goodIn_app (goodIn_of _ (by decide +kernel)) ggX8_digest_X8_hashedWaiting
set_option maxRecDepth 20000 in
theorem ggX8_digest_X8_hashedArrivals : GoodIn wsX8_digest wsX8_hashedArrivals := goodIn_ca (goodIn_r _ [153, 7, 11, 12, 154, 155, 156, 5, 157, 19, 20, 21, 22, 23, 158, 159, 160, 161, 162, 163, 164, 27, 28, 29, 30, 165, 166, 167, 168, 169, 170, 171, 172, 173, 174, 175, 176, 177, 178, 179, 180, 181, 182, 183, 184, 185, 147, 148, 149, 186, 187, 188, 189, 190, 191, 192, 267, 268, 269, 270, 271, 272, 273, 274, 275, 276, 277, 278, 279, 284, 285, 286] (by decide +kernel) (by decide +kernel)) (goodIn_sub (fun _ h => List.mem_cons_of_mem _ (List.mem_append_left _ (List.mem_append_right _ h))) (by decide +kernel))
set_option maxRecDepth 20000 in
theorem gX8_digest_X8_hashedArrivals : GoodIn wsX8_digest (wsV RX8 256 RX8 yX8_hashedArrivals wsX8_hashedArrivals) := goodIn_app (goodIn_of _ (by decide +kernel)) ggX8_digest_X8_hashedArrivals
set_option maxRecDepth 20000 in
theorem ggX8_digest_X8_hashedLosses : GoodIn wsX8_digest wsX8_hashedLosses := goodIn_ca (goodIn_r _ [196, 197, 198, 199, 5, 200, 7, 201, 19, 20, 21, 22, 23, 202, 203, 204, 205, 206, 207, 208, 209, 210, 211, 27, 28, 29, 30, 212, 213, 214, 215, 13, 216, 217, 218, 49, 219, 60, 61, 62, 63, 51, 52, 53, 54, 55, 64, 65, 66, 67, 220, 109, 110, 111, 267, 268, 269, 270, 271, 272, 273, 274, 275, 276, 277, 278, 279, 287, 288, 289, 290, 291, 292] (by decide +kernel) (by decide +kernel)) (goodIn_sub (fun _ h => List.mem_cons_of_mem _ (List.mem_append_left _ (List.mem_append_right _ h))) (by decide +kernel))
set_option maxRecDepth 20000 in
theorem gX8_digest_X8_hashedLosses : GoodIn wsX8_digest (wsV RX8 259 RX8 yX8_hashedLosses wsX8_hashedLosses) := goodIn_app (goodIn_of _ (by decide +kernel)) ggX8_digest_X8_hashedLosses
set_option maxRecDepth 20000 in
theorem ggX8_digest_X8_stopped : GoodIn wsX8_digest wsX8_stopped := goodIn_ca (goodIn_r _ [224, 7, 225, 226, 19, 20, 5, 21, 22, 23, 267, 268, 269, 270, 271, 272, 273, 274, 275, 276, 277, 278, 279] (by decide +kernel) (by decide +kernel)) (goodIn_sub (fun _ h => List.mem_cons_of_mem _ (List.mem_append_left _ (List.mem_append_right _ h))) (by decide +kernel))
set_option maxRecDepth 20000 in
theorem gX8_digest_X8_stopped : GoodIn wsX8_digest (wsV RX8 262 RX8 yX8_stopped wsX8_stopped) := goodIn_app (goodIn_of _ (by decide +kernel)) ggX8_digest_X8_stopped
set_option maxRecDepth 20000 in
theorem ggX8_digest_X8_worstEar : GoodIn wsX8_digest wsX8_worstEar := goodIn_r _ [230, 7, 8, 9, 72, 73, 74, 75, 5, 76, 77, 13, 78, 79, 80, 81, 82, 83, 84, 85, 86, 87, 88, 89, 90, 91, 92, 93, 94, 95, 96, 97, 98, 99, 100, 101, 102, 103, 104, 105, 106, 107, 108, 109, 110, 49, 111, 51, 52, 53, 54, 55, 231, 232, 233, 234, 267, 268, 269, 270, 271, 272, 273, 274, 275, 276, 277, 278, 279, 280, 281, 282, 283, 295, 296, 297, 298, 299, 300, 287, 288, 289, 290, 291, 292] (by decide +kernel) (by decide +kernel)
set_option maxRecDepth 20000 in
theorem gX8_digest_X8_worstEar : GoodIn wsX8_digest (wsV RX8 265 RX8 yX8_worstEar wsX8_worstEar) := goodIn_app (goodIn_of _ (by decide +kernel)) ggX8_digest_X8_worstEar
set_option maxRecDepth 20000 in
theorem ggX8_digest_X8_costs : GoodIn wsX8_digest wsX8_costs := goodIn_r _ [238, 7, 8, 9, 72, 13, 73, 74, 75, 5, 76, 77, 78, 79, 80, 81, 82, 83, 84, 85, 86, 87, 88, 89, 90, 91, 92, 93, 94, 95, 96, 97, 98, 99, 100, 101, 102, 103, 104, 105, 106, 107, 108, 109, 110, 49, 111, 51, 52, 53, 54, 55, 239, 240, 241, 242, 243, 121, 122, 123, 124, 267, 268, 269, 270, 271, 272, 273, 274, 275, 276, 277, 278, 279, 280, 281, 282, 283, 295, 296, 297, 298, 299, 300, 287, 288, 289, 290, 291, 292] (by decide +kernel) (by decide +kernel)
set_option maxRecDepth 20000 in
theorem gX8_digest_X8_costs : GoodIn wsX8_digest (wsV RX8 268 RX8 yX8_costs wsX8_costs) := goodIn_app (goodIn_of _ (by decide +kernel)) ggX8_digest_X8_costs
set_option maxRecDepth 20000 in
theorem ggX8_digest_X8_throughShare : GoodIn wsX8_digest wsX8_throughShare := goodIn_r _ [247, 7, 10, 13, 14, 24, 25, 5, 26, 267, 268, 269, 270, 271, 272, 273, 274, 275, 276, 277, 278, 279, 287, 288, 289, 290, 291, 292] (by decide +kernel) (by decide +kernel)
set_option maxRecDepth 20000 in
theorem gX8_digest_X8_throughShare : GoodIn wsX8_digest (wsV RX8 271 RX8 yX8_throughShare wsX8_throughShare) := goodIn_app (goodIn_of _ (by decide +kernel)) ggX8_digest_X8_throughShare
set_option maxRecDepth 20000 in
theorem ggX8_digest_X8_bitsOfShare : GoodIn wsX8_digest wsX8_bitsOfShare := goodIn_r _ [250, 251, 252, 253] (by decide +kernel) (by decide +kernel)
set_option maxRecDepth 20000 in
theorem gX8_digest_X8_bitsOfShare : GoodIn wsX8_digest (va_wsS RX8 275 yX8_bitsOfShare wsX8_bitsOfShare) := goodIn_app (goodIn_of _ (by decide +kernel)) ggX8_digest_X8_bitsOfShare
set_option maxRecDepth 20000 in
theorem ggX8_digest_X8_hashedBuffer : GoodIn wsX8_digest wsX8_hashedBuffer := goodIn_r _ [257, 258, 259, 27, 28, 5, 29, 30, 260, 261, 262, 263, 264, 265, 266, 267, 268, 269, 270, 271, 272, 301, 302, 303, 304, 305, 306, 307, 308] (by decide +kernel) (by decide +kernel)
set_option maxRecDepth 20000 in
theorem gX8_digest_X8_hashedBuffer : GoodIn wsX8_digest (wsV RX8 279 RX8 yX8_hashedBuffer wsX8_hashedBuffer) := goodIn_app (goodIn_of _ (by decide +kernel)) ggX8_digest_X8_hashedBuffer
theorem dX8_digest_0 : decode cX8_digest 0 = .ok (.ldc2_w 239, 3) := by decide +kernel
theorem dX8_digest_3 : decode cX8_digest 3 = .ok (.lstore_n 1, 1) := by decide +kernel
theorem dX8_digest_4 : decode cX8_digest 4 = .ok (.iconst 0, 1) := by decide +kernel
theorem dX8_digest_5 : decode cX8_digest 5 = .ok (.istore_n 3, 1) := by decide +kernel
theorem dX8_digest_6 : decode cX8_digest 6 = .ok (.iload_n 3, 1) := by decide +kernel
theorem dX8_digest_7 : decode cX8_digest 7 = .ok (.bipush 7, 2) := by decide +kernel
theorem dX8_digest_9 : decode cX8_digest 9 = .ok (.if_icmp .ge 20, 3) := by decide +kernel
theorem dX8_digest_12 : decode cX8_digest 12 = .ok (.lload_n 1, 1) := by decide +kernel
theorem dX8_digest_13 : decode cX8_digest 13 = .ok (.aload_n 0, 1) := by decide +kernel
theorem dX8_digest_14 : decode cX8_digest 14 = .ok (.iload_n 3, 1) := by decide +kernel
theorem dX8_digest_15 : decode cX8_digest 15 = .ok (.invokevirtual 241, 3) := by decide +kernel
theorem dX8_digest_18 : decode cX8_digest 18 = .ok (.i2l, 1) := by decide +kernel
theorem dX8_digest_19 : decode cX8_digest 19 = .ok (.invokestatic 244, 3) := by decide +kernel
theorem dX8_digest_22 : decode cX8_digest 22 = .ok (.lstore_n 1, 1) := by decide +kernel
theorem dX8_digest_23 : decode cX8_digest 23 = .ok (.iinc 3 1, 3) := by decide +kernel
theorem dX8_digest_26 : decode cX8_digest 26 = .ok (.goto (-20), 3) := by decide +kernel
theorem dX8_digest_29 : decode cX8_digest 29 = .ok (.iconst 0, 1) := by decide +kernel
theorem dX8_digest_30 : decode cX8_digest 30 = .ok (.istore_n 3, 1) := by decide +kernel
theorem dX8_digest_31 : decode cX8_digest 31 = .ok (.iload_n 3, 1) := by decide +kernel
theorem dX8_digest_32 : decode cX8_digest 32 = .ok (.bipush 6, 2) := by decide +kernel
theorem dX8_digest_34 : decode cX8_digest 34 = .ok (.if_icmp .ge 16, 3) := by decide +kernel
theorem dX8_digest_37 : decode cX8_digest 37 = .ok (.aload_n 0, 1) := by decide +kernel
theorem dX8_digest_38 : decode cX8_digest 38 = .ok (.lload_n 1, 1) := by decide +kernel
theorem dX8_digest_39 : decode cX8_digest 39 = .ok (.iload_n 3, 1) := by decide +kernel
theorem dX8_digest_40 : decode cX8_digest 40 = .ok (.invokevirtual 248, 3) := by decide +kernel
theorem dX8_digest_43 : decode cX8_digest 43 = .ok (.lstore_n 1, 1) := by decide +kernel
theorem dX8_digest_44 : decode cX8_digest 44 = .ok (.iinc 3 1, 3) := by decide +kernel
theorem dX8_digest_47 : decode cX8_digest 47 = .ok (.goto (-16), 3) := by decide +kernel
theorem dX8_digest_50 : decode cX8_digest 50 = .ok (.aload_n 0, 1) := by decide +kernel
theorem dX8_digest_51 : decode cX8_digest 51 = .ok (.lload_n 1, 1) := by decide +kernel
theorem dX8_digest_52 : decode cX8_digest 52 = .ok (.invokevirtual 252, 3) := by decide +kernel
theorem dX8_digest_55 : decode cX8_digest 55 = .ok (.lstore_n 1, 1) := by decide +kernel
theorem dX8_digest_56 : decode cX8_digest 56 = .ok (.aload_n 0, 1) := by decide +kernel
theorem dX8_digest_57 : decode cX8_digest 57 = .ok (.lload_n 1, 1) := by decide +kernel
theorem dX8_digest_58 : decode cX8_digest 58 = .ok (.invokevirtual 256, 3) := by decide +kernel
theorem dX8_digest_61 : decode cX8_digest 61 = .ok (.lstore_n 1, 1) := by decide +kernel
theorem dX8_digest_62 : decode cX8_digest 62 = .ok (.aload_n 0, 1) := by decide +kernel
theorem dX8_digest_63 : decode cX8_digest 63 = .ok (.lload_n 1, 1) := by decide +kernel
theorem dX8_digest_64 : decode cX8_digest 64 = .ok (.invokevirtual 259, 3) := by decide +kernel
theorem dX8_digest_67 : decode cX8_digest 67 = .ok (.lstore_n 1, 1) := by decide +kernel
theorem dX8_digest_68 : decode cX8_digest 68 = .ok (.lload_n 1, 1) := by decide +kernel
theorem dX8_digest_69 : decode cX8_digest 69 = .ok (.aload_n 0, 1) := by decide +kernel
theorem dX8_digest_70 : decode cX8_digest 70 = .ok (.iconst 0, 1) := by decide +kernel
theorem dX8_digest_71 : decode cX8_digest 71 = .ok (.invokevirtual 262, 3) := by decide +kernel
theorem dX8_digest_74 : decode cX8_digest 74 = .ok (.i2l, 1) := by decide +kernel
theorem dX8_digest_75 : decode cX8_digest 75 = .ok (.invokestatic 244, 3) := by decide +kernel
theorem dX8_digest_78 : decode cX8_digest 78 = .ok (.lstore_n 1, 1) := by decide +kernel
theorem dX8_digest_79 : decode cX8_digest 79 = .ok (.lload_n 1, 1) := by decide +kernel
theorem dX8_digest_80 : decode cX8_digest 80 = .ok (.aload_n 0, 1) := by decide +kernel
theorem dX8_digest_81 : decode cX8_digest 81 = .ok (.iconst 1, 1) := by decide +kernel
theorem dX8_digest_82 : decode cX8_digest 82 = .ok (.invokevirtual 262, 3) := by decide +kernel
theorem dX8_digest_85 : decode cX8_digest 85 = .ok (.i2l, 1) := by decide +kernel
theorem dX8_digest_86 : decode cX8_digest 86 = .ok (.invokestatic 244, 3) := by decide +kernel
theorem dX8_digest_89 : decode cX8_digest 89 = .ok (.lstore_n 1, 1) := by decide +kernel
theorem dX8_digest_90 : decode cX8_digest 90 = .ok (.lload_n 1, 1) := by decide +kernel
theorem dX8_digest_91 : decode cX8_digest 91 = .ok (.aload_n 0, 1) := by decide +kernel
theorem dX8_digest_92 : decode cX8_digest 92 = .ok (.invokevirtual 265, 3) := by decide +kernel
theorem dX8_digest_95 : decode cX8_digest 95 = .ok (.i2l, 1) := by decide +kernel
theorem dX8_digest_96 : decode cX8_digest 96 = .ok (.invokestatic 244, 3) := by decide +kernel
theorem dX8_digest_99 : decode cX8_digest 99 = .ok (.lstore_n 1, 1) := by decide +kernel
theorem dX8_digest_100 : decode cX8_digest 100 = .ok (.lload_n 1, 1) := by decide +kernel
theorem dX8_digest_101 : decode cX8_digest 101 = .ok (.aload_n 0, 1) := by decide +kernel
theorem dX8_digest_102 : decode cX8_digest 102 = .ok (.invokevirtual 268, 3) := by decide +kernel
theorem dX8_digest_105 : decode cX8_digest 105 = .ok (.i2l, 1) := by decide +kernel
theorem dX8_digest_106 : decode cX8_digest 106 = .ok (.invokestatic 244, 3) := by decide +kernel
theorem dX8_digest_109 : decode cX8_digest 109 = .ok (.lstore_n 1, 1) := by decide +kernel
theorem dX8_digest_110 : decode cX8_digest 110 = .ok (.lload_n 1, 1) := by decide +kernel
theorem dX8_digest_111 : decode cX8_digest 111 = .ok (.aload_n 0, 1) := by decide +kernel
theorem dX8_digest_112 : decode cX8_digest 112 = .ok (.invokevirtual 271, 3) := by decide +kernel
theorem dX8_digest_115 : decode cX8_digest 115 = .ok (.invokestatic 275, 3) := by decide +kernel
theorem dX8_digest_118 : decode cX8_digest 118 = .ok (.invokestatic 244, 3) := by decide +kernel
theorem dX8_digest_121 : decode cX8_digest 121 = .ok (.lstore_n 1, 1) := by decide +kernel
theorem dX8_digest_122 : decode cX8_digest 122 = .ok (.aload_n 0, 1) := by decide +kernel
theorem dX8_digest_123 : decode cX8_digest 123 = .ok (.lload_n 1, 1) := by decide +kernel
theorem dX8_digest_124 : decode cX8_digest 124 = .ok (.invokevirtual 279, 3) := by decide +kernel
theorem dX8_digest_127 : decode cX8_digest 127 = .ok (.lreturn, 1) := by decide +kernel
theorem dX8_checkLink_0 : decode cX8_checkLink 0 = .ok (.iload_n 0, 1) := by decide +kernel
theorem dX8_checkLink_1 : decode cX8_checkLink 1 = .ok (.ifCond .lt 9, 3) := by decide +kernel
theorem dX8_checkLink_4 : decode cX8_checkLink 4 = .ok (.iload_n 0, 1) := by decide +kernel
theorem dX8_checkLink_5 : decode cX8_checkLink 5 = .ok (.bipush 6, 2) := by decide +kernel
theorem dX8_checkLink_7 : decode cX8_checkLink 7 = .ok (.if_icmp .lt 14, 3) := by decide +kernel
theorem dX8_checkLink_10 : decode cX8_checkLink 10 = .ok (.new 282, 3) := by decide +kernel
theorem dX8_checkLink_13 : decode cX8_checkLink 13 = .ok (.dup, 1) := by decide +kernel
theorem dX8_checkLink_14 : decode cX8_checkLink 14 = .ok (.ldc_w 284, 3) := by decide +kernel
theorem dX8_checkLink_17 : decode cX8_checkLink 17 = .ok (.invokespecial 286, 3) := by decide +kernel
theorem dX8_checkLink_20 : decode cX8_checkLink 20 = .ok (.athrow, 1) := by decide +kernel
theorem dX8_checkLink_21 : decode cX8_checkLink 21 = .ok (.return_, 1) := by decide +kernel
theorem dX8_checkRange_0 : decode cX8_checkRange 0 = .ok (.iload_n 0, 1) := by decide +kernel
theorem dX8_checkRange_1 : decode cX8_checkRange 1 = .ok (.iload_n 1, 1) := by decide +kernel
theorem dX8_checkRange_2 : decode cX8_checkRange 2 = .ok (.if_icmp .lt 8, 3) := by decide +kernel
theorem dX8_checkRange_5 : decode cX8_checkRange 5 = .ok (.iload_n 0, 1) := by decide +kernel
theorem dX8_checkRange_6 : decode cX8_checkRange 6 = .ok (.iload_n 2, 1) := by decide +kernel
theorem dX8_checkRange_7 : decode cX8_checkRange 7 = .ok (.if_icmp .le 14, 3) := by decide +kernel
theorem dX8_checkRange_10 : decode cX8_checkRange 10 = .ok (.new 112, 3) := by decide +kernel
theorem dX8_checkRange_13 : decode cX8_checkRange 13 = .ok (.dup, 1) := by decide +kernel
theorem dX8_checkRange_14 : decode cX8_checkRange 14 = .ok (.ldc_w 287, 3) := by decide +kernel
theorem dX8_checkRange_17 : decode cX8_checkRange 17 = .ok (.invokespecial 116, 3) := by decide +kernel
theorem dX8_checkRange_20 : decode cX8_checkRange 20 = .ok (.athrow, 1) := by decide +kernel
theorem dX8_checkRange_21 : decode cX8_checkRange 21 = .ok (.return_, 1) := by decide +kernel
theorem dX8_checkNotNegative_0 : decode cX8_checkNotNegative 0 = .ok (.iload_n 0, 1) := by decide +kernel
theorem dX8_checkNotNegative_1 : decode cX8_checkNotNegative 1 = .ok (.ifCond .ge 14, 3) := by decide +kernel
theorem dX8_checkNotNegative_4 : decode cX8_checkNotNegative 4 = .ok (.new 112, 3) := by decide +kernel
theorem dX8_checkNotNegative_7 : decode cX8_checkNotNegative 7 = .ok (.dup, 1) := by decide +kernel
theorem dX8_checkNotNegative_8 : decode cX8_checkNotNegative 8 = .ok (.ldc_w 289, 3) := by decide +kernel
theorem dX8_checkNotNegative_11 : decode cX8_checkNotNegative 11 = .ok (.invokespecial 116, 3) := by decide +kernel
theorem dX8_checkNotNegative_14 : decode cX8_checkNotNegative 14 = .ok (.athrow, 1) := by decide +kernel
theorem dX8_checkNotNegative_15 : decode cX8_checkNotNegative 15 = .ok (.return_, 1) := by decide +kernel
theorem dX8_sumOf_0 : decode cX8_sumOf 0 = .ok (.iconst 0, 1) := by decide +kernel
theorem dX8_sumOf_1 : decode cX8_sumOf 1 = .ok (.istore_n 1, 1) := by decide +kernel
theorem dX8_sumOf_2 : decode cX8_sumOf 2 = .ok (.aload_n 0, 1) := by decide +kernel
theorem dX8_sumOf_3 : decode cX8_sumOf 3 = .ok (.astore_n 2, 1) := by decide +kernel
theorem dX8_sumOf_4 : decode cX8_sumOf 4 = .ok (.aload_n 2, 1) := by decide +kernel
theorem dX8_sumOf_5 : decode cX8_sumOf 5 = .ok (.arraylength, 1) := by decide +kernel
theorem dX8_sumOf_6 : decode cX8_sumOf 6 = .ok (.istore_n 3, 1) := by decide +kernel
theorem dX8_sumOf_7 : decode cX8_sumOf 7 = .ok (.iconst 0, 1) := by decide +kernel
theorem dX8_sumOf_8 : decode cX8_sumOf 8 = .ok (.istore 4, 2) := by decide +kernel
theorem dX8_sumOf_10 : decode cX8_sumOf 10 = .ok (.iload 4, 2) := by decide +kernel
theorem dX8_sumOf_12 : decode cX8_sumOf 12 = .ok (.iload_n 3, 1) := by decide +kernel
theorem dX8_sumOf_13 : decode cX8_sumOf 13 = .ok (.if_icmp .ge 20, 3) := by decide +kernel
theorem dX8_sumOf_16 : decode cX8_sumOf 16 = .ok (.aload_n 2, 1) := by decide +kernel
theorem dX8_sumOf_17 : decode cX8_sumOf 17 = .ok (.iload 4, 2) := by decide +kernel
theorem dX8_sumOf_19 : decode cX8_sumOf 19 = .ok (.iaload, 1) := by decide +kernel
theorem dX8_sumOf_20 : decode cX8_sumOf 20 = .ok (.istore 5, 2) := by decide +kernel
theorem dX8_sumOf_22 : decode cX8_sumOf 22 = .ok (.iload_n 1, 1) := by decide +kernel
theorem dX8_sumOf_23 : decode cX8_sumOf 23 = .ok (.iload 5, 2) := by decide +kernel
theorem dX8_sumOf_25 : decode cX8_sumOf 25 = .ok (.iadd, 1) := by decide +kernel
theorem dX8_sumOf_26 : decode cX8_sumOf 26 = .ok (.istore_n 1, 1) := by decide +kernel
theorem dX8_sumOf_27 : decode cX8_sumOf 27 = .ok (.iinc 4 1, 3) := by decide +kernel
theorem dX8_sumOf_30 : decode cX8_sumOf 30 = .ok (.goto (-20), 3) := by decide +kernel
theorem dX8_sumOf_33 : decode cX8_sumOf 33 = .ok (.iload_n 1, 1) := by decide +kernel
theorem dX8_sumOf_34 : decode cX8_sumOf 34 = .ok (.ireturn, 1) := by decide +kernel
set_option maxRecDepth 20000 in
theorem ggX8_tryWaiting_X7_readInto : GoodIn wsX8_tryWaiting wsX7_readInto := goodIn_r _ [10, 11, 12, 13, 14, 15, 16, 17, 18, 19, 20, 21, 59, 60, 61, 62, 63, 64, 65] (by decide +kernel) (by decide +kernel)
set_option maxRecDepth 20000 in
theorem gX8_tryWaiting_X7_readInto : GoodIn wsX8_tryWaiting (wsV RX8 184 RX7 yX7_readInto wsX7_readInto) := goodIn_app (goodIn_of _ (by decide +kernel)) ggX8_tryWaiting_X7_readInto
set_option maxRecDepth 20000 in
theorem ggX8_tryWaiting_X6_send : GoodIn wsX8_tryWaiting wsX6_send := goodIn_r _ [26, 27, 28, 29, 15, 16, 17, 30, 31, 32, 33, 34, 25, 35, 36, 37, 38, 39, 40, 41, 42, 43, 44, 45, 63, 64, 65, 66, 67, 68, 69, 70, 71, 72, 73, 74] (by decide +kernel) (by decide +kernel)
set_option maxRecDepth 20000 in
theorem gX8_tryWaiting_X6_send : GoodIn wsX8_tryWaiting (wsV RX8 291 RX6 yX6_send wsX6_send) := goodIn_app (goodIn_of _ (by decide +kernel)) ggX8_tryWaiting_X6_send
theorem dX8_tryWaiting_0 : decode cX8_tryWaiting 0 = .ok (.aload_n 0, 1) := by decide +kernel
theorem dX8_tryWaiting_1 : decode cX8_tryWaiting 1 = .ok (.getfield 10, 3) := by decide +kernel
theorem dX8_tryWaiting_4 : decode cX8_tryWaiting 4 = .ok (.getfield 76, 3) := by decide +kernel
theorem dX8_tryWaiting_7 : decode cX8_tryWaiting 7 = .ok (.aload_n 0, 1) := by decide +kernel
theorem dX8_tryWaiting_8 : decode cX8_tryWaiting 8 = .ok (.getfield 33, 3) := by decide +kernel
theorem dX8_tryWaiting_11 : decode cX8_tryWaiting 11 = .ok (.iload_n 1, 1) := by decide +kernel
theorem dX8_tryWaiting_12 : decode cX8_tryWaiting 12 = .ok (.invokevirtual 184, 3) := by decide +kernel
theorem dX8_tryWaiting_15 : decode cX8_tryWaiting 15 = .ok (.aload_n 0, 1) := by decide +kernel
theorem dX8_tryWaiting_16 : decode cX8_tryWaiting 16 = .ok (.getfield 40, 3) := by decide +kernel
theorem dX8_tryWaiting_19 : decode cX8_tryWaiting 19 = .ok (.aload_n 0, 1) := by decide +kernel
theorem dX8_tryWaiting_20 : decode cX8_tryWaiting 20 = .ok (.getfield 33, 3) := by decide +kernel
theorem dX8_tryWaiting_23 : decode cX8_tryWaiting 23 = .ok (.aload_n 0, 1) := by decide +kernel
theorem dX8_tryWaiting_24 : decode cX8_tryWaiting 24 = .ok (.getfield 10, 3) := by decide +kernel
theorem dX8_tryWaiting_27 : decode cX8_tryWaiting 27 = .ok (.getfield 56, 3) := by decide +kernel
theorem dX8_tryWaiting_30 : decode cX8_tryWaiting 30 = .ok (.iload_n 2, 1) := by decide +kernel
theorem dX8_tryWaiting_31 : decode cX8_tryWaiting 31 = .ok (.invokevirtual 291, 3) := by decide +kernel
theorem dX8_tryWaiting_34 : decode cX8_tryWaiting 34 = .ok (.return_, 1) := by decide +kernel
set_option maxRecDepth 20000 in
theorem ggX8_sendFirst_X7_readInto : GoodIn wsX8_sendFirst wsX7_readInto := goodIn_r _ [12, 13, 14, 15, 16, 17, 18, 19, 20, 21, 22, 23, 171, 172, 173, 174, 175, 176, 177] (by decide +kernel) (by decide +kernel)
set_option maxRecDepth 20000 in
theorem gX8_sendFirst_X7_readInto : GoodIn wsX8_sendFirst (wsV RX8 184 RX7 yX7_readInto wsX7_readInto) := goodIn_app (goodIn_of _ (by decide +kernel)) ggX8_sendFirst_X7_readInto
set_option maxRecDepth 20000 in
theorem ggX8_sendFirst_X7_removeFirst : GoodIn wsX8_sendFirst wsX7_removeFirst := goodIn_r _ [27, 13, 28, 29, 30, 11, 31, 14, 16, 17, 18, 19, 20, 22, 171, 172, 173, 174] (by decide +kernel) (by decide +kernel)
set_option maxRecDepth 20000 in
theorem gX8_sendFirst_X7_removeFirst : GoodIn wsX8_sendFirst (wsV RX8 295 RX7 yX7_removeFirst wsX7_removeFirst) := goodIn_app (goodIn_of _ (by decide +kernel)) ggX8_sendFirst_X7_removeFirst
set_option maxRecDepth 20000 in
theorem ggX8_sendFirst_X6_send : GoodIn wsX8_sendFirst wsX6_send := goodIn_r _ [36, 37, 38, 39, 17, 18, 19, 40, 41, 42, 43, 44, 35, 45, 46, 47, 48, 49, 50, 51, 52, 53, 54, 55, 175, 176, 177, 178, 179, 180, 181, 182, 183, 184, 185, 186] (by decide +kernel) (by decide +kernel)
set_option maxRecDepth 20000 in
theorem gX8_sendFirst_X6_send : GoodIn wsX8_sendFirst (wsV RX8 291 RX6 yX6_send wsX6_send) := goodIn_app (goodIn_of _ (by decide +kernel)) ggX8_sendFirst_X6_send
set_option maxRecDepth 20000 in
theorem ggX8_sendFirst_X6_lossByRules : GoodIn wsX8_sendFirst wsX6_lossByRules := goodIn_r _ [59, 60, 61, 62, 35, 63, 40, 64, 65, 66, 67, 38, 68, 69, 70, 49, 71, 51, 52, 53, 54, 55, 72, 73, 74, 75, 178, 179, 180, 181, 182, 183, 184, 185, 186] (by decide +kernel) (by decide +kernel)
set_option maxRecDepth 20000 in
theorem gX8_sendFirst_X6_lossByRules : GoodIn wsX8_sendFirst (wsV RX8 298 RX6 yX6_lossByRules wsX6_lossByRules) := goodIn_app (goodIn_of _ (by decide +kernel)) ggX8_sendFirst_X6_lossByRules
set_option maxRecDepth 20000 in
theorem ggX8_sendFirst_X2_account : GoodIn wsX8_sendFirst wsX2_account := goodIn_r _ [79, 80, 81, 82, 83, 61, 62, 35, 63, 40, 84, 85, 86, 87, 88, 181, 182, 183, 184, 185, 186, 178, 179, 180] (by decide +kernel) (by decide +kernel)
set_option maxRecDepth 20000 in
theorem gX8_sendFirst_X2_account : GoodIn wsX8_sendFirst (wsV RX8 301 RX2 yX2_account wsX2_account) := goodIn_app (goodIn_of _ (by decide +kernel)) ggX8_sendFirst_X2_account
set_option maxRecDepth 20000 in
theorem ggX8_sendFirst_X5_countLostWords : GoodIn wsX8_sendFirst wsX5_countLostWords := goodIn_r _ [93, 94, 95, 96, 97, 98, 99, 100, 101, 102, 103, 104, 105, 49, 106, 107, 69, 70, 71, 51, 52, 53, 54, 55, 72, 73, 74, 75, 108, 47, 48, 50, 164, 165, 166, 167, 168, 169, 170, 175, 176, 177, 181, 182, 183, 184, 185, 186] (by decide +kernel) (by decide +kernel)
set_option maxRecDepth 20000 in
theorem gX8_sendFirst_X5_countLostWords : GoodIn wsX8_sendFirst (wsV RX8 305 RX5 yX5_countLostWords wsX5_countLostWords) := goodIn_app (goodIn_of _ (by decide +kernel)) ggX8_sendFirst_X5_countLostWords
set_option maxRecDepth 20000 in
theorem ggX8_sendFirst_X0_add : GoodIn wsX8_sendFirst wsX0_add := goodIn_r _ [113, 114, 115, 116, 117, 118, 119, 120, 121, 122, 123, 112, 124, 125, 17, 18, 19, 126, 127, 128, 35, 129, 38, 39, 130, 131, 132, 133, 40, 134, 135, 136, 137, 138, 139, 140, 141, 142, 85, 86, 87, 88, 143, 144, 145, 146, 147, 148, 149, 150, 151, 152, 73, 74, 49, 75, 55, 153, 154, 155, 156, 187, 188, 189, 178, 179, 180, 181, 182, 183, 184, 185, 186] (by decide +kernel) (by decide +kernel)
set_option maxRecDepth 20000 in
theorem gX8_sendFirst_X0_add : GoodIn wsX8_sendFirst (wsV RX8 309 RX0 yX0_add wsX0_add) := goodIn_app (goodIn_of _ (by decide +kernel)) ggX8_sendFirst_X0_add
set_option maxRecDepth 20000 in
theorem ggX8_sendFirst_X6_arrivedWords : GoodIn wsX8_sendFirst wsX6_arrivedWords := goodIn_r _ [133, 40, 178, 179, 180] (by decide +kernel) (by decide +kernel)
set_option maxRecDepth 20000 in
theorem gX8_sendFirst_X6_arrivedWords : GoodIn wsX8_sendFirst (wsV RX8 232 RX6 yX6_arrivedWords wsX6_arrivedWords) := goodIn_app (goodIn_of _ (by decide +kernel)) ggX8_sendFirst_X6_arrivedWords
theorem dX8_sendFirst_0 : decode cX8_sendFirst 0 = .ok (.aload_n 0, 1) := by decide +kernel
theorem dX8_sendFirst_1 : decode cX8_sendFirst 1 = .ok (.getfield 10, 3) := by decide +kernel
theorem dX8_sendFirst_4 : decode cX8_sendFirst 4 = .ok (.getfield 76, 3) := by decide +kernel
theorem dX8_sendFirst_7 : decode cX8_sendFirst 7 = .ok (.aload_n 0, 1) := by decide +kernel
theorem dX8_sendFirst_8 : decode cX8_sendFirst 8 = .ok (.getfield 33, 3) := by decide +kernel
theorem dX8_sendFirst_11 : decode cX8_sendFirst 11 = .ok (.iconst 0, 1) := by decide +kernel
theorem dX8_sendFirst_12 : decode cX8_sendFirst 12 = .ok (.invokevirtual 184, 3) := by decide +kernel
theorem dX8_sendFirst_15 : decode cX8_sendFirst 15 = .ok (.aload_n 0, 1) := by decide +kernel
theorem dX8_sendFirst_16 : decode cX8_sendFirst 16 = .ok (.getfield 10, 3) := by decide +kernel
theorem dX8_sendFirst_19 : decode cX8_sendFirst 19 = .ok (.getfield 76, 3) := by decide +kernel
theorem dX8_sendFirst_22 : decode cX8_sendFirst 22 = .ok (.invokevirtual 295, 3) := by decide +kernel
theorem dX8_sendFirst_25 : decode cX8_sendFirst 25 = .ok (.aload_n 0, 1) := by decide +kernel
theorem dX8_sendFirst_26 : decode cX8_sendFirst 26 = .ok (.getfield 40, 3) := by decide +kernel
theorem dX8_sendFirst_29 : decode cX8_sendFirst 29 = .ok (.aload_n 0, 1) := by decide +kernel
theorem dX8_sendFirst_30 : decode cX8_sendFirst 30 = .ok (.getfield 33, 3) := by decide +kernel
theorem dX8_sendFirst_33 : decode cX8_sendFirst 33 = .ok (.aload_n 0, 1) := by decide +kernel
theorem dX8_sendFirst_34 : decode cX8_sendFirst 34 = .ok (.getfield 10, 3) := by decide +kernel
theorem dX8_sendFirst_37 : decode cX8_sendFirst 37 = .ok (.getfield 56, 3) := by decide +kernel
theorem dX8_sendFirst_40 : decode cX8_sendFirst 40 = .ok (.iconst (-1), 1) := by decide +kernel
theorem dX8_sendFirst_41 : decode cX8_sendFirst 41 = .ok (.invokevirtual 291, 3) := by decide +kernel
theorem dX8_sendFirst_44 : decode cX8_sendFirst 44 = .ok (.aload_n 0, 1) := by decide +kernel
theorem dX8_sendFirst_45 : decode cX8_sendFirst 45 = .ok (.getfield 40, 3) := by decide +kernel
theorem dX8_sendFirst_48 : decode cX8_sendFirst 48 = .ok (.aload_n 0, 1) := by decide +kernel
theorem dX8_sendFirst_49 : decode cX8_sendFirst 49 = .ok (.getfield 10, 3) := by decide +kernel
theorem dX8_sendFirst_52 : decode cX8_sendFirst 52 = .ok (.getfield 56, 3) := by decide +kernel
theorem dX8_sendFirst_55 : decode cX8_sendFirst 55 = .ok (.invokevirtual 298, 3) := by decide +kernel
theorem dX8_sendFirst_58 : decode cX8_sendFirst 58 = .ok (.istore_n 1, 1) := by decide +kernel
theorem dX8_sendFirst_59 : decode cX8_sendFirst 59 = .ok (.aload_n 0, 1) := by decide +kernel
theorem dX8_sendFirst_60 : decode cX8_sendFirst 60 = .ok (.getfield 10, 3) := by decide +kernel
theorem dX8_sendFirst_63 : decode cX8_sendFirst 63 = .ok (.getfield 56, 3) := by decide +kernel
theorem dX8_sendFirst_66 : decode cX8_sendFirst 66 = .ok (.aload_n 0, 1) := by decide +kernel
theorem dX8_sendFirst_67 : decode cX8_sendFirst 67 = .ok (.getfield 40, 3) := by decide +kernel
theorem dX8_sendFirst_70 : decode cX8_sendFirst 70 = .ok (.iload_n 1, 1) := by decide +kernel
theorem dX8_sendFirst_71 : decode cX8_sendFirst 71 = .ok (.invokevirtual 301, 3) := by decide +kernel
theorem dX8_sendFirst_74 : decode cX8_sendFirst 74 = .ok (.iload_n 1, 1) := by decide +kernel
theorem dX8_sendFirst_75 : decode cX8_sendFirst 75 = .ok (.iconst (-1), 1) := by decide +kernel
theorem dX8_sendFirst_76 : decode cX8_sendFirst 76 = .ok (.if_icmp .eq 14, 3) := by decide +kernel
theorem dX8_sendFirst_79 : decode cX8_sendFirst 79 = .ok (.aload_n 0, 1) := by decide +kernel
theorem dX8_sendFirst_80 : decode cX8_sendFirst 80 = .ok (.getfield 10, 3) := by decide +kernel
theorem dX8_sendFirst_83 : decode cX8_sendFirst 83 = .ok (.aload_n 0, 1) := by decide +kernel
theorem dX8_sendFirst_84 : decode cX8_sendFirst 84 = .ok (.getfield 33, 3) := by decide +kernel
theorem dX8_sendFirst_87 : decode cX8_sendFirst 87 = .ok (.invokevirtual 305, 3) := by decide +kernel
theorem dX8_sendFirst_90 : decode cX8_sendFirst 90 = .ok (.aload_n 0, 1) := by decide +kernel
theorem dX8_sendFirst_91 : decode cX8_sendFirst 91 = .ok (.getfield 10, 3) := by decide +kernel
theorem dX8_sendFirst_94 : decode cX8_sendFirst 94 = .ok (.getfield 135, 3) := by decide +kernel
theorem dX8_sendFirst_97 : decode cX8_sendFirst 97 = .ok (.aload_n 0, 1) := by decide +kernel
theorem dX8_sendFirst_98 : decode cX8_sendFirst 98 = .ok (.getfield 40, 3) := by decide +kernel
theorem dX8_sendFirst_101 : decode cX8_sendFirst 101 = .ok (.aload_n 0, 1) := by decide +kernel
theorem dX8_sendFirst_102 : decode cX8_sendFirst 102 = .ok (.getfield 10, 3) := by decide +kernel
theorem dX8_sendFirst_105 : decode cX8_sendFirst 105 = .ok (.getfield 56, 3) := by decide +kernel
theorem dX8_sendFirst_108 : decode cX8_sendFirst 108 = .ok (.iload_n 1, 1) := by decide +kernel
theorem dX8_sendFirst_109 : decode cX8_sendFirst 109 = .ok (.invokevirtual 309, 3) := by decide +kernel
theorem dX8_sendFirst_112 : decode cX8_sendFirst 112 = .ok (.aload_n 0, 1) := by decide +kernel
theorem dX8_sendFirst_113 : decode cX8_sendFirst 113 = .ok (.getfield 10, 3) := by decide +kernel
theorem dX8_sendFirst_116 : decode cX8_sendFirst 116 = .ok (.dup, 1) := by decide +kernel
theorem dX8_sendFirst_117 : decode cX8_sendFirst 117 = .ok (.getfield 198, 3) := by decide +kernel
theorem dX8_sendFirst_120 : decode cX8_sendFirst 120 = .ok (.iconst 1, 1) := by decide +kernel
theorem dX8_sendFirst_121 : decode cX8_sendFirst 121 = .ok (.iadd, 1) := by decide +kernel
theorem dX8_sendFirst_122 : decode cX8_sendFirst 122 = .ok (.putfield 198, 3) := by decide +kernel
theorem dX8_sendFirst_125 : decode cX8_sendFirst 125 = .ok (.aload_n 0, 1) := by decide +kernel
theorem dX8_sendFirst_126 : decode cX8_sendFirst 126 = .ok (.getfield 40, 3) := by decide +kernel
theorem dX8_sendFirst_129 : decode cX8_sendFirst 129 = .ok (.invokevirtual 232, 3) := by decide +kernel
theorem dX8_sendFirst_132 : decode cX8_sendFirst 132 = .ok (.ireturn, 1) := by decide +kernel
set_option maxRecDepth 20000 in
theorem ggX8_obeyPart_X7_add : GoodIn wsX8_obeyPart wsX7_add := goodIn_r _ [11, 12, 13, 14, 15, 16, 17, 18, 19, 20, 21, 22, 23, 24, 25, 10, 26, 205, 206, 207, 208, 209, 210, 211] (by decide +kernel) (by decide +kernel)
set_option maxRecDepth 20000 in
theorem gX8_obeyPart_X7_add : GoodIn wsX8_obeyPart (wsV RX8 316 RX7 yX7_add wsX7_add) := goodIn_app (goodIn_of _ (by decide +kernel)) ggX8_obeyPart_X7_add
set_option maxRecDepth 20000 in
theorem ggX8_obeyPart_X8_sendFirst : GoodIn wsX8_obeyPart wsX8_sendFirst := goodIn_r _ [31, 3, 4, 32, 33, 34, 35, 36, 37, 38, 39, 10, 40, 12, 16, 15, 17, 18, 19, 20, 21, 22, 13, 14, 41, 42, 43, 44, 23, 24, 25, 26, 45, 46, 47, 48, 49, 50, 51, 52, 53, 54, 55, 56, 57, 58, 59, 60, 61, 62, 63, 64, 65, 66, 67, 68, 69, 70, 71, 72, 73, 74, 75, 76, 77, 78, 79, 80, 81, 82, 83, 84, 85, 86, 87, 88, 89, 90, 91, 92, 93, 94, 95, 96, 97, 98, 99, 100, 101, 102, 103, 104, 105, 106, 107, 108, 109, 110, 111, 112, 113, 114, 115, 116, 117, 118, 119, 120, 121, 122, 123, 124, 125, 126, 127, 128, 129, 130, 131, 132, 133, 134, 135, 136, 137, 138, 139, 140, 141, 142, 143, 144, 145, 146, 147, 148, 149, 150, 151, 152, 153, 154, 155, 156, 157, 158, 159, 160, 161, 162, 163, 164, 165, 166, 167, 168, 169, 170, 184, 185, 186, 187, 188, 189, 198, 199, 200, 201, 202, 203, 204, 205, 206, 207, 208, 209, 210, 211, 212, 213, 214, 215, 216, 217, 218, 219, 220, 221, 222, 223] (by decide +kernel) (by decide +kernel)
set_option maxRecDepth 20000 in
theorem gX8_obeyPart_X8_sendFirst : GoodIn wsX8_obeyPart (wsV RX8 93 RX8 yX8_sendFirst wsX8_sendFirst) := goodIn_app (goodIn_of _ (by decide +kernel)) ggX8_obeyPart_X8_sendFirst
set_option maxRecDepth 20000 in
theorem ggX8_obeyPart_X8_changeLink : GoodIn wsX8_obeyPart wsX8_changeLink := goodIn_r _ [174, 1, 175, 2, 3, 34, 176, 177, 178, 179, 180, 181, 182, 62, 183, 68, 184, 185, 186, 187, 188, 189, 190, 191, 192, 193, 194, 195, 196, 197, 198, 199, 200, 201, 202, 203, 204, 215, 216, 217, 218, 219, 220] (by decide +kernel) (by decide +kernel)
set_option maxRecDepth 20000 in
theorem gX8_obeyPart_X8_changeLink : GoodIn wsX8_obeyPart (wsV RX8 319 RX8 yX8_changeLink wsX8_changeLink) := goodIn_app (goodIn_of _ (by decide +kernel)) ggX8_obeyPart_X8_changeLink
theorem dX8_obeyPart_0 : decode cX8_obeyPart 0 = .ok (.aload_n 0, 1) := by decide +kernel
theorem dX8_obeyPart_1 : decode cX8_obeyPart 1 = .ok (.getfield 26, 3) := by decide +kernel
theorem dX8_obeyPart_4 : decode cX8_obeyPart 4 = .ok (.getfield 312, 3) := by decide +kernel
theorem dX8_obeyPart_7 : decode cX8_obeyPart 7 = .ok (.lookupswitch 73 #[(0, 25), (1, 51)], 25) := by decide +kernel
theorem dX8_obeyPart_32 : decode cX8_obeyPart 32 = .ok (.aload_n 0, 1) := by decide +kernel
theorem dX8_obeyPart_33 : decode cX8_obeyPart 33 = .ok (.getfield 10, 3) := by decide +kernel
theorem dX8_obeyPart_36 : decode cX8_obeyPart 36 = .ok (.getfield 76, 3) := by decide +kernel
theorem dX8_obeyPart_39 : decode cX8_obeyPart 39 = .ok (.aload_n 0, 1) := by decide +kernel
theorem dX8_obeyPart_40 : decode cX8_obeyPart 40 = .ok (.getfield 26, 3) := by decide +kernel
theorem dX8_obeyPart_43 : decode cX8_obeyPart 43 = .ok (.getfield 315, 3) := by decide +kernel
theorem dX8_obeyPart_46 : decode cX8_obeyPart 46 = .ok (.invokevirtual 316, 3) := by decide +kernel
theorem dX8_obeyPart_49 : decode cX8_obeyPart 49 = .ok (.ifCond .eq 7, 3) := by decide +kernel
theorem dX8_obeyPart_52 : decode cX8_obeyPart 52 = .ok (.iconst (-1), 1) := by decide +kernel
theorem dX8_obeyPart_53 : decode cX8_obeyPart 53 = .ok (.goto 4, 3) := by decide +kernel
theorem dX8_obeyPart_56 : decode cX8_obeyPart 56 = .ok (.iconst 1, 1) := by decide +kernel
theorem dX8_obeyPart_57 : decode cX8_obeyPart 57 = .ok (.ireturn, 1) := by decide +kernel
theorem dX8_obeyPart_58 : decode cX8_obeyPart 58 = .ok (.aload_n 0, 1) := by decide +kernel
theorem dX8_obeyPart_59 : decode cX8_obeyPart 59 = .ok (.getfield 10, 3) := by decide +kernel
theorem dX8_obeyPart_62 : decode cX8_obeyPart 62 = .ok (.getfield 76, 3) := by decide +kernel
theorem dX8_obeyPart_65 : decode cX8_obeyPart 65 = .ok (.getfield 80, 3) := by decide +kernel
theorem dX8_obeyPart_68 : decode cX8_obeyPart 68 = .ok (.ifCond .ne 5, 3) := by decide +kernel
theorem dX8_obeyPart_71 : decode cX8_obeyPart 71 = .ok (.iconst 2, 1) := by decide +kernel
theorem dX8_obeyPart_72 : decode cX8_obeyPart 72 = .ok (.ireturn, 1) := by decide +kernel
theorem dX8_obeyPart_73 : decode cX8_obeyPart 73 = .ok (.aload_n 0, 1) := by decide +kernel
theorem dX8_obeyPart_74 : decode cX8_obeyPart 74 = .ok (.invokevirtual 93, 3) := by decide +kernel
theorem dX8_obeyPart_77 : decode cX8_obeyPart 77 = .ok (.pop, 1) := by decide +kernel
theorem dX8_obeyPart_78 : decode cX8_obeyPart 78 = .ok (.iconst (-1), 1) := by decide +kernel
theorem dX8_obeyPart_79 : decode cX8_obeyPart 79 = .ok (.ireturn, 1) := by decide +kernel
theorem dX8_obeyPart_80 : decode cX8_obeyPart 80 = .ok (.aload_n 0, 1) := by decide +kernel
theorem dX8_obeyPart_81 : decode cX8_obeyPart 81 = .ok (.invokevirtual 319, 3) := by decide +kernel
theorem dX8_obeyPart_84 : decode cX8_obeyPart 84 = .ok (.iconst (-1), 1) := by decide +kernel
theorem dX8_obeyPart_85 : decode cX8_obeyPart 85 = .ok (.ireturn, 1) := by decide +kernel
set_option maxRecDepth 20000 in
theorem ggX8_changeLink_X2_setMeaning : GoodIn wsX8_changeLink wsX2_setMeaning := goodIn_r _ [14, 15, 37, 38, 39, 40, 41, 42] (by decide +kernel) (by decide +kernel)
set_option maxRecDepth 20000 in
theorem gX8_changeLink_X2_setMeaning : GoodIn wsX8_changeLink (wsV RX8 66 RX2 yX2_setMeaning wsX2_setMeaning) := goodIn_app (goodIn_of _ (by decide +kernel)) ggX8_changeLink_X2_setMeaning
theorem dX8_changeLink_0 : decode cX8_changeLink 0 = .ok (.aload_n 0, 1) := by decide +kernel
theorem dX8_changeLink_1 : decode cX8_changeLink 1 = .ok (.getfield 26, 3) := by decide +kernel
theorem dX8_changeLink_4 : decode cX8_changeLink 4 = .ok (.getfield 322, 3) := by decide +kernel
theorem dX8_changeLink_7 : decode cX8_changeLink 7 = .ok (.istore_n 1, 1) := by decide +kernel
theorem dX8_changeLink_8 : decode cX8_changeLink 8 = .ok (.iload_n 1, 1) := by decide +kernel
theorem dX8_changeLink_9 : decode cX8_changeLink 9 = .ok (.ifCond .lt 9, 3) := by decide +kernel
theorem dX8_changeLink_12 : decode cX8_changeLink 12 = .ok (.iload_n 1, 1) := by decide +kernel
theorem dX8_changeLink_13 : decode cX8_changeLink 13 = .ok (.bipush 6, 2) := by decide +kernel
theorem dX8_changeLink_15 : decode cX8_changeLink 15 = .ok (.if_icmp .lt 4, 3) := by decide +kernel
theorem dX8_changeLink_18 : decode cX8_changeLink 18 = .ok (.return_, 1) := by decide +kernel
theorem dX8_changeLink_19 : decode cX8_changeLink 19 = .ok (.aload_n 0, 1) := by decide +kernel
theorem dX8_changeLink_20 : decode cX8_changeLink 20 = .ok (.getfield 26, 3) := by decide +kernel
theorem dX8_changeLink_23 : decode cX8_changeLink 23 = .ok (.getfield 312, 3) := by decide +kernel
theorem dX8_changeLink_26 : decode cX8_changeLink 26 = .ok (.iconst 2, 1) := by decide +kernel
theorem dX8_changeLink_27 : decode cX8_changeLink 27 = .ok (.if_icmp .ne 25, 3) := by decide +kernel
theorem dX8_changeLink_30 : decode cX8_changeLink 30 = .ok (.aload_n 0, 1) := by decide +kernel
theorem dX8_changeLink_31 : decode cX8_changeLink 31 = .ok (.getfield 10, 3) := by decide +kernel
theorem dX8_changeLink_34 : decode cX8_changeLink 34 = .ok (.getfield 56, 3) := by decide +kernel
theorem dX8_changeLink_37 : decode cX8_changeLink 37 = .ok (.getfield 69, 3) := by decide +kernel
theorem dX8_changeLink_40 : decode cX8_changeLink 40 = .ok (.iload_n 1, 1) := by decide +kernel
theorem dX8_changeLink_41 : decode cX8_changeLink 41 = .ok (.aload_n 0, 1) := by decide +kernel
theorem dX8_changeLink_42 : decode cX8_changeLink 42 = .ok (.getfield 26, 3) := by decide +kernel
theorem dX8_changeLink_45 : decode cX8_changeLink 45 = .ok (.getfield 325, 3) := by decide +kernel
theorem dX8_changeLink_48 : decode cX8_changeLink 48 = .ok (.iastore, 1) := by decide +kernel
theorem dX8_changeLink_49 : decode cX8_changeLink 49 = .ok (.goto 61, 3) := by decide +kernel
theorem dX8_changeLink_52 : decode cX8_changeLink 52 = .ok (.aload_n 0, 1) := by decide +kernel
theorem dX8_changeLink_53 : decode cX8_changeLink 53 = .ok (.getfield 26, 3) := by decide +kernel
theorem dX8_changeLink_56 : decode cX8_changeLink 56 = .ok (.getfield 312, 3) := by decide +kernel
theorem dX8_changeLink_59 : decode cX8_changeLink 59 = .ok (.iconst 3, 1) := by decide +kernel
theorem dX8_changeLink_60 : decode cX8_changeLink 60 = .ok (.if_icmp .ne 25, 3) := by decide +kernel
theorem dX8_changeLink_63 : decode cX8_changeLink 63 = .ok (.aload_n 0, 1) := by decide +kernel
theorem dX8_changeLink_64 : decode cX8_changeLink 64 = .ok (.getfield 10, 3) := by decide +kernel
theorem dX8_changeLink_67 : decode cX8_changeLink 67 = .ok (.getfield 56, 3) := by decide +kernel
theorem dX8_changeLink_70 : decode cX8_changeLink 70 = .ok (.getfield 73, 3) := by decide +kernel
theorem dX8_changeLink_73 : decode cX8_changeLink 73 = .ok (.iload_n 1, 1) := by decide +kernel
theorem dX8_changeLink_74 : decode cX8_changeLink 74 = .ok (.aload_n 0, 1) := by decide +kernel
theorem dX8_changeLink_75 : decode cX8_changeLink 75 = .ok (.getfield 26, 3) := by decide +kernel
theorem dX8_changeLink_78 : decode cX8_changeLink 78 = .ok (.getfield 325, 3) := by decide +kernel
theorem dX8_changeLink_81 : decode cX8_changeLink 81 = .ok (.iastore, 1) := by decide +kernel
theorem dX8_changeLink_82 : decode cX8_changeLink 82 = .ok (.goto 28, 3) := by decide +kernel
theorem dX8_changeLink_85 : decode cX8_changeLink 85 = .ok (.aload_n 0, 1) := by decide +kernel
theorem dX8_changeLink_86 : decode cX8_changeLink 86 = .ok (.getfield 10, 3) := by decide +kernel
theorem dX8_changeLink_89 : decode cX8_changeLink 89 = .ok (.getfield 56, 3) := by decide +kernel
theorem dX8_changeLink_92 : decode cX8_changeLink 92 = .ok (.iload_n 1, 1) := by decide +kernel
theorem dX8_changeLink_93 : decode cX8_changeLink 93 = .ok (.aload_n 0, 1) := by decide +kernel
theorem dX8_changeLink_94 : decode cX8_changeLink 94 = .ok (.getfield 26, 3) := by decide +kernel
theorem dX8_changeLink_97 : decode cX8_changeLink 97 = .ok (.getfield 328, 3) := by decide +kernel
theorem dX8_changeLink_100 : decode cX8_changeLink 100 = .ok (.aload_n 0, 1) := by decide +kernel
theorem dX8_changeLink_101 : decode cX8_changeLink 101 = .ok (.getfield 26, 3) := by decide +kernel
theorem dX8_changeLink_104 : decode cX8_changeLink 104 = .ok (.getfield 325, 3) := by decide +kernel
theorem dX8_changeLink_107 : decode cX8_changeLink 107 = .ok (.invokevirtual 66, 3) := by decide +kernel
theorem dX8_changeLink_110 : decode cX8_changeLink 110 = .ok (.return_, 1) := by decide +kernel
theorem dX8_hashed_0 : decode cX8_hashed 0 = .ok (.ldc2_w 331, 3) := by decide +kernel
theorem dX8_hashed_3 : decode cX8_hashed 3 = .ok (.lload_n 0, 1) := by decide +kernel
theorem dX8_hashed_4 : decode cX8_hashed 4 = .ok (.lmul, 1) := by decide +kernel
theorem dX8_hashed_5 : decode cX8_hashed 5 = .ok (.lload_n 2, 1) := by decide +kernel
theorem dX8_hashed_6 : decode cX8_hashed 6 = .ok (.ladd, 1) := by decide +kernel
theorem dX8_hashed_7 : decode cX8_hashed 7 = .ok (.lreturn, 1) := by decide +kernel
set_option maxRecDepth 20000 in
theorem ggX8_hashedLink_X8_link : GoodIn wsX8_hashedLink wsX8_link := goodIn_ca (goodIn_ca (goodIn_r _ [5, 6, 7, 8, 9, 10, 11, 12, 13, 14, 4, 15, 16, 17, 18, 19, 20, 21, 22, 23, 24, 25, 26, 27, 28, 29, 30, 31, 32, 33, 34, 35, 36, 37, 38, 39, 40, 41, 42, 43, 44, 119, 120, 121, 122, 123, 124, 125, 126, 127, 128, 129, 130, 131, 132, 133, 134, 135, 136, 137] (by decide +kernel) (by decide +kernel)) (goodIn_sub (fun _ h => List.mem_cons_of_mem _ (List.mem_append_left _ (List.mem_append_right _ h))) (by decide +kernel))) (goodIn_sub (fun _ h => List.mem_cons_of_mem _ (List.mem_append_right _ h)) (by decide +kernel))
set_option maxRecDepth 20000 in
theorem gX8_hashedLink_X8_link : GoodIn wsX8_hashedLink (wsV RX8 333 RX8 yX8_link wsX8_link) := goodIn_app (goodIn_of _ (by decide +kernel)) ggX8_hashedLink_X8_link
set_option maxRecDepth 20000 in
theorem ggX8_hashedLink_X8_hashed : GoodIn wsX8_hashedLink wsX8_hashed := goodIn_r _ [47, 48] (by decide +kernel) (by decide +kernel)
set_option maxRecDepth 20000 in
theorem gX8_hashedLink_X8_hashed : GoodIn wsX8_hashedLink (va_wsS RX8 244 yX8_hashed wsX8_hashed) := goodIn_app (goodIn_of _ (by decide +kernel)) ggX8_hashedLink_X8_hashed
set_option maxRecDepth 20000 in
theorem ggX8_hashedLink_X8_ifGone : GoodIn wsX8_hashedLink wsX8_ifGone := goodIn_ca (goodIn_ca (goodIn_r _ [52, 6, 53, 54, 55, 7, 13, 14, 4, 15, 16, 17, 18, 19, 20, 21, 22, 56, 57, 58, 59, 60, 61, 62, 63, 64, 65, 66, 67, 68, 69, 70, 71, 72, 73, 74, 75, 76, 77, 78, 79, 80, 81, 82, 83, 84, 85, 86, 87, 88, 89, 90, 91, 92, 93, 26, 94, 28, 29, 30, 31, 32, 95, 96, 97, 98, 99, 100, 101, 102, 103, 104, 105, 106, 107, 108, 109, 110, 111, 119, 120, 121, 122, 123, 124, 125, 126, 127, 128, 129, 130, 131, 138, 139, 140, 141, 142, 143, 144, 145, 146, 147, 132, 133, 134, 135, 136, 137] (by decide +kernel) (by decide +kernel)) (goodIn_sub (fun _ h => List.mem_cons_of_mem _ (List.mem_append_left _ (List.mem_append_right _ h))) (by decide +kernel))) (goodIn_sub (fun _ h => List.mem_cons_of_mem _ (List.mem_append_right _ h)) (by decide +kernel))
set_option maxRecDepth 20000 in
theorem gX8_hashedLink_X8_ifGone : GoodIn wsX8_hashedLink (wsV RX8 335 RX8 yX8_ifGone wsX8_ifGone) := goodIn_app (goodIn_of _ (by decide +kernel)) ggX8_hashedLink_X8_ifGone
set_option maxRecDepth 20000 in
theorem ggX8_hashedLink_X8_meaning : GoodIn wsX8_hashedLink wsX8_meaning := goodIn_ca (goodIn_ca (goodIn_r _ [115, 6, 7, 13, 14, 4, 15, 16, 17, 18, 19, 20, 21, 22, 116, 29, 30, 26, 31, 32, 117, 38, 39, 40, 28, 41, 42, 43, 44, 118, 119, 120, 121, 122, 123, 124, 125, 126, 127, 128, 129, 130, 131, 132, 133, 134, 135, 136, 137] (by decide +kernel) (by decide +kernel)) (goodIn_sub (fun _ h => List.mem_cons_of_mem _ (List.mem_append_left _ (List.mem_append_right _ h))) (by decide +kernel))) (goodIn_sub (fun _ h => List.mem_cons_of_mem _ (List.mem_append_right _ h)) (by decide +kernel))
set_option maxRecDepth 20000 in
theorem gX8_hashedLink_X8_meaning : GoodIn wsX8_hashedLink (wsV RX8 338 RX8 yX8_meaning wsX8_meaning) := goodIn_app (goodIn_of _ (by decide +kernel)) ggX8_hashedLink_X8_meaning
theorem dX8_hashedLink_0 : decode cX8_hashedLink 0 = .ok (.lload_n 1, 1) := by decide +kernel
theorem dX8_hashedLink_1 : decode cX8_hashedLink 1 = .ok (.lstore 4, 2) := by decide +kernel
theorem dX8_hashedLink_3 : decode cX8_hashedLink 3 = .ok (.iconst 0, 1) := by decide +kernel
theorem dX8_hashedLink_4 : decode cX8_hashedLink 4 = .ok (.istore 6, 2) := by decide +kernel
theorem dX8_hashedLink_6 : decode cX8_hashedLink 6 = .ok (.iload 6, 2) := by decide +kernel
theorem dX8_hashedLink_8 : decode cX8_hashedLink 8 = .ok (.bipush 7, 2) := by decide +kernel
theorem dX8_hashedLink_10 : decode cX8_hashedLink 10 = .ok (.if_icmp .ge 24, 3) := by decide +kernel
theorem dX8_hashedLink_13 : decode cX8_hashedLink 13 = .ok (.lload 4, 2) := by decide +kernel
theorem dX8_hashedLink_15 : decode cX8_hashedLink 15 = .ok (.aload_n 0, 1) := by decide +kernel
theorem dX8_hashedLink_16 : decode cX8_hashedLink 16 = .ok (.iload_n 3, 1) := by decide +kernel
theorem dX8_hashedLink_17 : decode cX8_hashedLink 17 = .ok (.iload 6, 2) := by decide +kernel
theorem dX8_hashedLink_19 : decode cX8_hashedLink 19 = .ok (.invokevirtual 333, 3) := by decide +kernel
theorem dX8_hashedLink_22 : decode cX8_hashedLink 22 = .ok (.i2l, 1) := by decide +kernel
theorem dX8_hashedLink_23 : decode cX8_hashedLink 23 = .ok (.invokestatic 244, 3) := by decide +kernel
theorem dX8_hashedLink_26 : decode cX8_hashedLink 26 = .ok (.lstore 4, 2) := by decide +kernel
theorem dX8_hashedLink_28 : decode cX8_hashedLink 28 = .ok (.iinc 6 1, 3) := by decide +kernel
theorem dX8_hashedLink_31 : decode cX8_hashedLink 31 = .ok (.goto (-25), 3) := by decide +kernel
theorem dX8_hashedLink_34 : decode cX8_hashedLink 34 = .ok (.iconst 0, 1) := by decide +kernel
theorem dX8_hashedLink_35 : decode cX8_hashedLink 35 = .ok (.istore 6, 2) := by decide +kernel
theorem dX8_hashedLink_37 : decode cX8_hashedLink 37 = .ok (.iload 6, 2) := by decide +kernel
theorem dX8_hashedLink_39 : decode cX8_hashedLink 39 = .ok (.iconst 4, 1) := by decide +kernel
theorem dX8_hashedLink_40 : decode cX8_hashedLink 40 = .ok (.if_icmp .ge 24, 3) := by decide +kernel
theorem dX8_hashedLink_43 : decode cX8_hashedLink 43 = .ok (.lload 4, 2) := by decide +kernel
theorem dX8_hashedLink_45 : decode cX8_hashedLink 45 = .ok (.aload_n 0, 1) := by decide +kernel
theorem dX8_hashedLink_46 : decode cX8_hashedLink 46 = .ok (.iload_n 3, 1) := by decide +kernel
theorem dX8_hashedLink_47 : decode cX8_hashedLink 47 = .ok (.iload 6, 2) := by decide +kernel
theorem dX8_hashedLink_49 : decode cX8_hashedLink 49 = .ok (.invokevirtual 335, 3) := by decide +kernel
theorem dX8_hashedLink_52 : decode cX8_hashedLink 52 = .ok (.i2l, 1) := by decide +kernel
theorem dX8_hashedLink_53 : decode cX8_hashedLink 53 = .ok (.invokestatic 244, 3) := by decide +kernel
theorem dX8_hashedLink_56 : decode cX8_hashedLink 56 = .ok (.lstore 4, 2) := by decide +kernel
theorem dX8_hashedLink_58 : decode cX8_hashedLink 58 = .ok (.iinc 6 1, 3) := by decide +kernel
theorem dX8_hashedLink_61 : decode cX8_hashedLink 61 = .ok (.goto (-24), 3) := by decide +kernel
theorem dX8_hashedLink_64 : decode cX8_hashedLink 64 = .ok (.iconst 0, 1) := by decide +kernel
theorem dX8_hashedLink_65 : decode cX8_hashedLink 65 = .ok (.istore 6, 2) := by decide +kernel
theorem dX8_hashedLink_67 : decode cX8_hashedLink 67 = .ok (.iload 6, 2) := by decide +kernel
theorem dX8_hashedLink_69 : decode cX8_hashedLink 69 = .ok (.bipush 30, 2) := by decide +kernel
theorem dX8_hashedLink_71 : decode cX8_hashedLink 71 = .ok (.if_icmp .ge 41, 3) := by decide +kernel
theorem dX8_hashedLink_74 : decode cX8_hashedLink 74 = .ok (.iconst 0, 1) := by decide +kernel
theorem dX8_hashedLink_75 : decode cX8_hashedLink 75 = .ok (.istore 7, 2) := by decide +kernel
theorem dX8_hashedLink_77 : decode cX8_hashedLink 77 = .ok (.iload 7, 2) := by decide +kernel
theorem dX8_hashedLink_79 : decode cX8_hashedLink 79 = .ok (.iconst 3, 1) := by decide +kernel
theorem dX8_hashedLink_80 : decode cX8_hashedLink 80 = .ok (.if_icmp .ge 26, 3) := by decide +kernel
theorem dX8_hashedLink_83 : decode cX8_hashedLink 83 = .ok (.lload 4, 2) := by decide +kernel
theorem dX8_hashedLink_85 : decode cX8_hashedLink 85 = .ok (.aload_n 0, 1) := by decide +kernel
theorem dX8_hashedLink_86 : decode cX8_hashedLink 86 = .ok (.iload_n 3, 1) := by decide +kernel
theorem dX8_hashedLink_87 : decode cX8_hashedLink 87 = .ok (.iload 6, 2) := by decide +kernel
theorem dX8_hashedLink_89 : decode cX8_hashedLink 89 = .ok (.iload 7, 2) := by decide +kernel
theorem dX8_hashedLink_91 : decode cX8_hashedLink 91 = .ok (.invokevirtual 338, 3) := by decide +kernel
theorem dX8_hashedLink_94 : decode cX8_hashedLink 94 = .ok (.i2l, 1) := by decide +kernel
theorem dX8_hashedLink_95 : decode cX8_hashedLink 95 = .ok (.invokestatic 244, 3) := by decide +kernel
theorem dX8_hashedLink_98 : decode cX8_hashedLink 98 = .ok (.lstore 4, 2) := by decide +kernel
theorem dX8_hashedLink_100 : decode cX8_hashedLink 100 = .ok (.iinc 7 1, 3) := by decide +kernel
theorem dX8_hashedLink_103 : decode cX8_hashedLink 103 = .ok (.goto (-26), 3) := by decide +kernel
theorem dX8_hashedLink_106 : decode cX8_hashedLink 106 = .ok (.iinc 6 1, 3) := by decide +kernel
theorem dX8_hashedLink_109 : decode cX8_hashedLink 109 = .ok (.goto (-42), 3) := by decide +kernel
theorem dX8_hashedLink_112 : decode cX8_hashedLink 112 = .ok (.lload 4, 2) := by decide +kernel
theorem dX8_hashedLink_114 : decode cX8_hashedLink 114 = .ok (.lreturn, 1) := by decide +kernel
set_option maxRecDepth 20000 in
theorem ggX8_hashedWaiting_X8_waits : GoodIn wsX8_hashedWaiting wsX8_waits := goodIn_ca (goodIn_r _ [8, 1, 2, 3, 9, 10, 11, 12, 13, 14, 7, 15, 16, 17, 18, 19, 20, 21, 22, 23, 24, 25, 26, 27, 28, 29, 30, 31, 32, 33, 34, 35, 36, 41, 42, 43, 44, 45, 46, 47, 48, 49, 50, 51, 52, 53, 54, 55, 56, 57, 58, 59, 60] (by decide +kernel) (by decide +kernel)) (goodIn_sub (fun _ h => List.mem_cons_of_mem _ (List.mem_append_right _ h)) (by decide +kernel))
set_option maxRecDepth 20000 in
theorem gX8_hashedWaiting_X8_waits : GoodIn wsX8_hashedWaiting (wsV RX8 342 RX8 yX8_waits wsX8_waits) := goodIn_app (goodIn_of _ (by decide +kernel)) ggX8_hashedWaiting_X8_waits
set_option maxRecDepth 20000 in
theorem ggX8_hashedWaiting_X8_hashed : GoodIn wsX8_hashedWaiting wsX8_hashed := goodIn_r _ [39, 40] (by decide +kernel) (by decide +kernel)
set_option maxRecDepth 20000 in
theorem gX8_hashedWaiting_X8_hashed : GoodIn wsX8_hashedWaiting (va_wsS RX8 244 yX8_hashed wsX8_hashed) := goodIn_app (goodIn_of _ (by decide +kernel)) ggX8_hashedWaiting_X8_hashed
theorem dX8_hashedWaiting_0 : decode cX8_hashedWaiting 0 = .ok (.lload_n 1, 1) := by decide +kernel
theorem dX8_hashedWaiting_1 : decode cX8_hashedWaiting 1 = .ok (.lstore_n 3, 1) := by decide +kernel
theorem dX8_hashedWaiting_2 : decode cX8_hashedWaiting 2 = .ok (.iconst 0, 1) := by decide +kernel
theorem dX8_hashedWaiting_3 : decode cX8_hashedWaiting 3 = .ok (.istore 5, 2) := by decide +kernel
theorem dX8_hashedWaiting_5 : decode cX8_hashedWaiting 5 = .ok (.iload 5, 2) := by decide +kernel
theorem dX8_hashedWaiting_7 : decode cX8_hashedWaiting 7 = .ok (.aload_n 0, 1) := by decide +kernel
theorem dX8_hashedWaiting_8 : decode cX8_hashedWaiting 8 = .ok (.getfield 10, 3) := by decide +kernel
theorem dX8_hashedWaiting_11 : decode cX8_hashedWaiting 11 = .ok (.getfield 76, 3) := by decide +kernel
theorem dX8_hashedWaiting_14 : decode cX8_hashedWaiting 14 = .ok (.getfield 80, 3) := by decide +kernel
theorem dX8_hashedWaiting_17 : decode cX8_hashedWaiting 17 = .ok (.if_icmp .ge 38, 3) := by decide +kernel
theorem dX8_hashedWaiting_20 : decode cX8_hashedWaiting 20 = .ok (.iconst 0, 1) := by decide +kernel
theorem dX8_hashedWaiting_21 : decode cX8_hashedWaiting 21 = .ok (.istore 6, 2) := by decide +kernel
theorem dX8_hashedWaiting_23 : decode cX8_hashedWaiting 23 = .ok (.iload 6, 2) := by decide +kernel
theorem dX8_hashedWaiting_25 : decode cX8_hashedWaiting 25 = .ok (.iconst 3, 1) := by decide +kernel
theorem dX8_hashedWaiting_26 : decode cX8_hashedWaiting 26 = .ok (.if_icmp .ge 23, 3) := by decide +kernel
theorem dX8_hashedWaiting_29 : decode cX8_hashedWaiting 29 = .ok (.lload_n 3, 1) := by decide +kernel
theorem dX8_hashedWaiting_30 : decode cX8_hashedWaiting 30 = .ok (.aload_n 0, 1) := by decide +kernel
theorem dX8_hashedWaiting_31 : decode cX8_hashedWaiting 31 = .ok (.iload 5, 2) := by decide +kernel
theorem dX8_hashedWaiting_33 : decode cX8_hashedWaiting 33 = .ok (.iload 6, 2) := by decide +kernel
theorem dX8_hashedWaiting_35 : decode cX8_hashedWaiting 35 = .ok (.invokevirtual 342, 3) := by decide +kernel
theorem dX8_hashedWaiting_38 : decode cX8_hashedWaiting 38 = .ok (.i2l, 1) := by decide +kernel
theorem dX8_hashedWaiting_39 : decode cX8_hashedWaiting 39 = .ok (.invokestatic 244, 3) := by decide +kernel
theorem dX8_hashedWaiting_42 : decode cX8_hashedWaiting 42 = .ok (.lstore_n 3, 1) := by decide +kernel
theorem dX8_hashedWaiting_43 : decode cX8_hashedWaiting 43 = .ok (.iinc 6 1, 3) := by decide +kernel
theorem dX8_hashedWaiting_46 : decode cX8_hashedWaiting 46 = .ok (.goto (-23), 3) := by decide +kernel
theorem dX8_hashedWaiting_49 : decode cX8_hashedWaiting 49 = .ok (.iinc 5 1, 3) := by decide +kernel
theorem dX8_hashedWaiting_52 : decode cX8_hashedWaiting 52 = .ok (.goto (-47), 3) := by decide +kernel
theorem dX8_hashedWaiting_55 : decode cX8_hashedWaiting 55 = .ok (.lload_n 3, 1) := by decide +kernel
theorem dX8_hashedWaiting_56 : decode cX8_hashedWaiting 56 = .ok (.lreturn, 1) := by decide +kernel
set_option maxRecDepth 20000 in
theorem ggX8_hashedArrivals_X8_arrival : GoodIn wsX8_hashedArrivals wsX8_arrival := goodIn_ca (goodIn_r _ [8, 1, 2, 9, 10, 7, 11, 12, 13, 14, 15, 16, 17, 18, 19, 20, 56, 57, 58, 59, 60, 61, 62, 63, 64, 65, 66, 67, 68, 69, 70, 71] (by decide +kernel) (by decide +kernel)) (goodIn_sub (fun _ h => List.mem_cons_of_mem _ (List.mem_append_right _ h)) (by decide +kernel))
set_option maxRecDepth 20000 in
theorem gX8_hashedArrivals_X8_arrival : GoodIn wsX8_hashedArrivals (wsV RX8 345 RX8 yX8_arrival wsX8_arrival) := goodIn_app (goodIn_of _ (by decide +kernel)) ggX8_hashedArrivals_X8_arrival
set_option maxRecDepth 20000 in
theorem ggX8_hashedArrivals_X8_hashed : GoodIn wsX8_hashedArrivals wsX8_hashed := goodIn_r _ [23, 24] (by decide +kernel) (by decide +kernel)
set_option maxRecDepth 20000 in
theorem gX8_hashedArrivals_X8_hashed : GoodIn wsX8_hashedArrivals (va_wsS RX8 244 yX8_hashed wsX8_hashed) := goodIn_app (goodIn_of _ (by decide +kernel)) ggX8_hashedArrivals_X8_hashed
set_option maxRecDepth 20000 in
theorem ggX8_hashedArrivals_X0_textLength : GoodIn wsX8_hashedArrivals wsX0_textLength := goodIn_r _ [28, 29, 30, 31, 32, 33, 15, 16, 17, 18, 19, 20, 34, 35, 36, 37, 38, 39, 40, 41, 69, 70, 71] (by decide +kernel) (by decide +kernel)
set_option maxRecDepth 20000 in
theorem gX8_hashedArrivals_X0_textLength : GoodIn wsX8_hashedArrivals (wsV RX8 348 RX0 yX0_textLength wsX0_textLength) := goodIn_app (goodIn_of _ (by decide +kernel)) ggX8_hashedArrivals_X0_textLength
set_option maxRecDepth 20000 in
theorem ggX8_hashedArrivals_X8_told : GoodIn wsX8_hashedArrivals wsX8_told := goodIn_ca (goodIn_r _ [45, 1, 2, 9, 10, 7, 11, 12, 13, 46, 47, 48, 49, 50, 51, 17, 52, 33, 15, 16, 18, 19, 20, 34, 35, 36, 37, 38, 39, 40, 41, 53, 54, 55, 56, 57, 58, 59, 60, 61, 62, 63, 64, 65, 66, 67, 68, 69, 70, 71] (by decide +kernel) (by decide +kernel)) (goodIn_sub (fun _ h => List.mem_cons_of_mem _ (List.mem_append_right _ h)) (by decide +kernel))
set_option maxRecDepth 20000 in
theorem gX8_hashedArrivals_X8_told : GoodIn wsX8_hashedArrivals (wsV RX8 351 RX8 yX8_told wsX8_told) := goodIn_app (goodIn_of _ (by decide +kernel)) ggX8_hashedArrivals_X8_told
theorem dX8_hashedArrivals_0 : decode cX8_hashedArrivals 0 = .ok (.lload_n 1, 1) := by decide +kernel
theorem dX8_hashedArrivals_1 : decode cX8_hashedArrivals 1 = .ok (.lstore_n 3, 1) := by decide +kernel
theorem dX8_hashedArrivals_2 : decode cX8_hashedArrivals 2 = .ok (.iconst 0, 1) := by decide +kernel
theorem dX8_hashedArrivals_3 : decode cX8_hashedArrivals 3 = .ok (.istore 5, 2) := by decide +kernel
theorem dX8_hashedArrivals_5 : decode cX8_hashedArrivals 5 = .ok (.iload 5, 2) := by decide +kernel
theorem dX8_hashedArrivals_7 : decode cX8_hashedArrivals 7 = .ok (.aload_n 0, 1) := by decide +kernel
theorem dX8_hashedArrivals_8 : decode cX8_hashedArrivals 8 = .ok (.getfield 10, 3) := by decide +kernel
theorem dX8_hashedArrivals_11 : decode cX8_hashedArrivals 11 = .ok (.getfield 135, 3) := by decide +kernel
theorem dX8_hashedArrivals_14 : decode cX8_hashedArrivals 14 = .ok (.getfield 201, 3) := by decide +kernel
theorem dX8_hashedArrivals_17 : decode cX8_hashedArrivals 17 = .ok (.if_icmp .ge 83, 3) := by decide +kernel
theorem dX8_hashedArrivals_20 : decode cX8_hashedArrivals 20 = .ok (.iconst 0, 1) := by decide +kernel
theorem dX8_hashedArrivals_21 : decode cX8_hashedArrivals 21 = .ok (.istore 6, 2) := by decide +kernel
theorem dX8_hashedArrivals_23 : decode cX8_hashedArrivals 23 = .ok (.iload 6, 2) := by decide +kernel
theorem dX8_hashedArrivals_25 : decode cX8_hashedArrivals 25 = .ok (.bipush 6, 2) := by decide +kernel
theorem dX8_hashedArrivals_27 : decode cX8_hashedArrivals 27 = .ok (.if_icmp .ge 23, 3) := by decide +kernel
theorem dX8_hashedArrivals_30 : decode cX8_hashedArrivals 30 = .ok (.lload_n 3, 1) := by decide +kernel
theorem dX8_hashedArrivals_31 : decode cX8_hashedArrivals 31 = .ok (.aload_n 0, 1) := by decide +kernel
theorem dX8_hashedArrivals_32 : decode cX8_hashedArrivals 32 = .ok (.iload 5, 2) := by decide +kernel
theorem dX8_hashedArrivals_34 : decode cX8_hashedArrivals 34 = .ok (.iload 6, 2) := by decide +kernel
theorem dX8_hashedArrivals_36 : decode cX8_hashedArrivals 36 = .ok (.invokevirtual 345, 3) := by decide +kernel
theorem dX8_hashedArrivals_39 : decode cX8_hashedArrivals 39 = .ok (.i2l, 1) := by decide +kernel
theorem dX8_hashedArrivals_40 : decode cX8_hashedArrivals 40 = .ok (.invokestatic 244, 3) := by decide +kernel
theorem dX8_hashedArrivals_43 : decode cX8_hashedArrivals 43 = .ok (.lstore_n 3, 1) := by decide +kernel
theorem dX8_hashedArrivals_44 : decode cX8_hashedArrivals 44 = .ok (.iinc 6 1, 3) := by decide +kernel
theorem dX8_hashedArrivals_47 : decode cX8_hashedArrivals 47 = .ok (.goto (-24), 3) := by decide +kernel
theorem dX8_hashedArrivals_50 : decode cX8_hashedArrivals 50 = .ok (.aload_n 0, 1) := by decide +kernel
theorem dX8_hashedArrivals_51 : decode cX8_hashedArrivals 51 = .ok (.getfield 10, 3) := by decide +kernel
theorem dX8_hashedArrivals_54 : decode cX8_hashedArrivals 54 = .ok (.getfield 135, 3) := by decide +kernel
theorem dX8_hashedArrivals_57 : decode cX8_hashedArrivals 57 = .ok (.iload 5, 2) := by decide +kernel
theorem dX8_hashedArrivals_59 : decode cX8_hashedArrivals 59 = .ok (.invokevirtual 348, 3) := by decide +kernel
theorem dX8_hashedArrivals_62 : decode cX8_hashedArrivals 62 = .ok (.istore 6, 2) := by decide +kernel
theorem dX8_hashedArrivals_64 : decode cX8_hashedArrivals 64 = .ok (.iconst 0, 1) := by decide +kernel
theorem dX8_hashedArrivals_65 : decode cX8_hashedArrivals 65 = .ok (.istore 7, 2) := by decide +kernel
theorem dX8_hashedArrivals_67 : decode cX8_hashedArrivals 67 = .ok (.iload 7, 2) := by decide +kernel
theorem dX8_hashedArrivals_69 : decode cX8_hashedArrivals 69 = .ok (.iload 6, 2) := by decide +kernel
theorem dX8_hashedArrivals_71 : decode cX8_hashedArrivals 71 = .ok (.if_icmp .ge 23, 3) := by decide +kernel
theorem dX8_hashedArrivals_74 : decode cX8_hashedArrivals 74 = .ok (.lload_n 3, 1) := by decide +kernel
theorem dX8_hashedArrivals_75 : decode cX8_hashedArrivals 75 = .ok (.aload_n 0, 1) := by decide +kernel
theorem dX8_hashedArrivals_76 : decode cX8_hashedArrivals 76 = .ok (.iload 5, 2) := by decide +kernel
theorem dX8_hashedArrivals_78 : decode cX8_hashedArrivals 78 = .ok (.iload 7, 2) := by decide +kernel
theorem dX8_hashedArrivals_80 : decode cX8_hashedArrivals 80 = .ok (.invokevirtual 351, 3) := by decide +kernel
theorem dX8_hashedArrivals_83 : decode cX8_hashedArrivals 83 = .ok (.i2l, 1) := by decide +kernel
theorem dX8_hashedArrivals_84 : decode cX8_hashedArrivals 84 = .ok (.invokestatic 244, 3) := by decide +kernel
theorem dX8_hashedArrivals_87 : decode cX8_hashedArrivals 87 = .ok (.lstore_n 3, 1) := by decide +kernel
theorem dX8_hashedArrivals_88 : decode cX8_hashedArrivals 88 = .ok (.iinc 7 1, 3) := by decide +kernel
theorem dX8_hashedArrivals_91 : decode cX8_hashedArrivals 91 = .ok (.goto (-24), 3) := by decide +kernel
theorem dX8_hashedArrivals_94 : decode cX8_hashedArrivals 94 = .ok (.iinc 5 1, 3) := by decide +kernel
theorem dX8_hashedArrivals_97 : decode cX8_hashedArrivals 97 = .ok (.goto (-92), 3) := by decide +kernel
theorem dX8_hashedArrivals_100 : decode cX8_hashedArrivals 100 = .ok (.lload_n 3, 1) := by decide +kernel
theorem dX8_hashedArrivals_101 : decode cX8_hashedArrivals 101 = .ok (.lreturn, 1) := by decide +kernel
set_option maxRecDepth 20000 in
theorem ggX8_hashedLosses_X8_lost : GoodIn wsX8_hashedLosses wsX8_lost := goodIn_ca (goodIn_r _ [5, 6, 7, 8, 9, 4, 10, 11, 12, 13, 14, 15, 16, 17, 18, 19, 20, 21, 22, 54, 55, 56, 57, 58, 59, 60, 61, 62, 63, 64, 65, 66] (by decide +kernel) (by decide +kernel)) (goodIn_sub (fun _ h => List.mem_cons_of_mem _ (List.mem_append_right _ h)) (by decide +kernel))
set_option maxRecDepth 20000 in
theorem gX8_hashedLosses_X8_lost : GoodIn wsX8_hashedLosses (wsV RX8 354 RX8 yX8_lost wsX8_lost) := goodIn_app (goodIn_of _ (by decide +kernel)) ggX8_hashedLosses_X8_lost
set_option maxRecDepth 20000 in
theorem ggX8_hashedLosses_X8_hashed : GoodIn wsX8_hashedLosses wsX8_hashed := goodIn_r _ [25, 26] (by decide +kernel) (by decide +kernel)
set_option maxRecDepth 20000 in
theorem gX8_hashedLosses_X8_hashed : GoodIn wsX8_hashedLosses (va_wsS RX8 244 yX8_hashed wsX8_hashed) := goodIn_app (goodIn_of _ (by decide +kernel)) ggX8_hashedLosses_X8_hashed
set_option maxRecDepth 20000 in
theorem ggX8_hashedLosses_X8_lostAt : GoodIn wsX8_hashedLosses wsX8_lostAt := goodIn_ca (goodIn_r _ [30, 6, 31, 8, 9, 4, 10, 11, 12, 32, 33, 34, 35, 36, 37, 38, 39, 40, 41, 42, 43, 44, 45, 46, 47, 48, 49, 50, 51, 52, 53, 54, 55, 56, 57, 58, 59, 60, 61, 62, 63, 64, 65, 66, 67, 68, 69, 70, 71, 72] (by decide +kernel) (by decide +kernel)) (goodIn_sub (fun _ h => List.mem_cons_of_mem _ (List.mem_append_right _ h)) (by decide +kernel))
set_option maxRecDepth 20000 in
theorem gX8_hashedLosses_X8_lostAt : GoodIn wsX8_hashedLosses (wsV RX8 357 RX8 yX8_lostAt wsX8_lostAt) := goodIn_app (goodIn_of _ (by decide +kernel)) ggX8_hashedLosses_X8_lostAt
theorem dX8_hashedLosses_0 : decode cX8_hashedLosses 0 = .ok (.lload_n 1, 1) := by decide +kernel
theorem dX8_hashedLosses_1 : decode cX8_hashedLosses 1 = .ok (.lstore_n 3, 1) := by decide +kernel
theorem dX8_hashedLosses_2 : decode cX8_hashedLosses 2 = .ok (.iconst 0, 1) := by decide +kernel
theorem dX8_hashedLosses_3 : decode cX8_hashedLosses 3 = .ok (.istore 5, 2) := by decide +kernel
theorem dX8_hashedLosses_5 : decode cX8_hashedLosses 5 = .ok (.iload 5, 2) := by decide +kernel
theorem dX8_hashedLosses_7 : decode cX8_hashedLosses 7 = .ok (.iconst 5, 1) := by decide +kernel
theorem dX8_hashedLosses_8 : decode cX8_hashedLosses 8 = .ok (.if_icmp .ge 35, 3) := by decide +kernel
theorem dX8_hashedLosses_11 : decode cX8_hashedLosses 11 = .ok (.lload_n 3, 1) := by decide +kernel
theorem dX8_hashedLosses_12 : decode cX8_hashedLosses 12 = .ok (.aload_n 0, 1) := by decide +kernel
theorem dX8_hashedLosses_13 : decode cX8_hashedLosses 13 = .ok (.iload 5, 2) := by decide +kernel
theorem dX8_hashedLosses_15 : decode cX8_hashedLosses 15 = .ok (.iconst 0, 1) := by decide +kernel
theorem dX8_hashedLosses_16 : decode cX8_hashedLosses 16 = .ok (.invokevirtual 354, 3) := by decide +kernel
theorem dX8_hashedLosses_19 : decode cX8_hashedLosses 19 = .ok (.i2l, 1) := by decide +kernel
theorem dX8_hashedLosses_20 : decode cX8_hashedLosses 20 = .ok (.invokestatic 244, 3) := by decide +kernel
theorem dX8_hashedLosses_23 : decode cX8_hashedLosses 23 = .ok (.lstore_n 3, 1) := by decide +kernel
theorem dX8_hashedLosses_24 : decode cX8_hashedLosses 24 = .ok (.lload_n 3, 1) := by decide +kernel
theorem dX8_hashedLosses_25 : decode cX8_hashedLosses 25 = .ok (.aload_n 0, 1) := by decide +kernel
theorem dX8_hashedLosses_26 : decode cX8_hashedLosses 26 = .ok (.iload 5, 2) := by decide +kernel
theorem dX8_hashedLosses_28 : decode cX8_hashedLosses 28 = .ok (.iconst 1, 1) := by decide +kernel
theorem dX8_hashedLosses_29 : decode cX8_hashedLosses 29 = .ok (.invokevirtual 354, 3) := by decide +kernel
theorem dX8_hashedLosses_32 : decode cX8_hashedLosses 32 = .ok (.i2l, 1) := by decide +kernel
theorem dX8_hashedLosses_33 : decode cX8_hashedLosses 33 = .ok (.invokestatic 244, 3) := by decide +kernel
theorem dX8_hashedLosses_36 : decode cX8_hashedLosses 36 = .ok (.lstore_n 3, 1) := by decide +kernel
theorem dX8_hashedLosses_37 : decode cX8_hashedLosses 37 = .ok (.iinc 5 1, 3) := by decide +kernel
theorem dX8_hashedLosses_40 : decode cX8_hashedLosses 40 = .ok (.goto (-35), 3) := by decide +kernel
theorem dX8_hashedLosses_43 : decode cX8_hashedLosses 43 = .ok (.iconst 0, 1) := by decide +kernel
theorem dX8_hashedLosses_44 : decode cX8_hashedLosses 44 = .ok (.istore 5, 2) := by decide +kernel
theorem dX8_hashedLosses_46 : decode cX8_hashedLosses 46 = .ok (.iload 5, 2) := by decide +kernel
theorem dX8_hashedLosses_48 : decode cX8_hashedLosses 48 = .ok (.bipush 30, 2) := by decide +kernel
theorem dX8_hashedLosses_50 : decode cX8_hashedLosses 50 = .ok (.if_icmp .ge 21, 3) := by decide +kernel
theorem dX8_hashedLosses_53 : decode cX8_hashedLosses 53 = .ok (.lload_n 3, 1) := by decide +kernel
theorem dX8_hashedLosses_54 : decode cX8_hashedLosses 54 = .ok (.aload_n 0, 1) := by decide +kernel
theorem dX8_hashedLosses_55 : decode cX8_hashedLosses 55 = .ok (.iload 5, 2) := by decide +kernel
theorem dX8_hashedLosses_57 : decode cX8_hashedLosses 57 = .ok (.invokevirtual 357, 3) := by decide +kernel
theorem dX8_hashedLosses_60 : decode cX8_hashedLosses 60 = .ok (.i2l, 1) := by decide +kernel
theorem dX8_hashedLosses_61 : decode cX8_hashedLosses 61 = .ok (.invokestatic 244, 3) := by decide +kernel
theorem dX8_hashedLosses_64 : decode cX8_hashedLosses 64 = .ok (.lstore_n 3, 1) := by decide +kernel
theorem dX8_hashedLosses_65 : decode cX8_hashedLosses 65 = .ok (.iinc 5 1, 3) := by decide +kernel
theorem dX8_hashedLosses_68 : decode cX8_hashedLosses 68 = .ok (.goto (-22), 3) := by decide +kernel
theorem dX8_hashedLosses_71 : decode cX8_hashedLosses 71 = .ok (.lload_n 3, 1) := by decide +kernel
theorem dX8_hashedLosses_72 : decode cX8_hashedLosses 72 = .ok (.lreturn, 1) := by decide +kernel
set_option maxRecDepth 20000 in
theorem ggX8_hashedBuffer_X8_hashed : GoodIn wsX8_hashedBuffer wsX8_hashed := goodIn_r _ [6, 7] (by decide +kernel) (by decide +kernel)
set_option maxRecDepth 20000 in
theorem gX8_hashedBuffer_X8_hashed : GoodIn wsX8_hashedBuffer (va_wsS RX8 244 yX8_hashed wsX8_hashed) := goodIn_app (goodIn_of _ (by decide +kernel)) ggX8_hashedBuffer_X8_hashed
set_option maxRecDepth 20000 in
theorem ggX8_hashedBuffer_X3_codeAt : GoodIn wsX8_hashedBuffer wsX3_codeAt := goodIn_r _ [12, 13, 14, 21, 22, 23, 24, 25, 26, 27, 28] (by decide +kernel) (by decide +kernel)
set_option maxRecDepth 20000 in
theorem gX8_hashedBuffer_X3_codeAt : GoodIn wsX8_hashedBuffer (wsV RX8 360 RX3 yX3_codeAt wsX3_codeAt) := goodIn_app (goodIn_of _ (by decide +kernel)) ggX8_hashedBuffer_X3_codeAt
theorem dX8_hashedBuffer_0 : decode cX8_hashedBuffer 0 = .ok (.lload_n 1, 1) := by decide +kernel
theorem dX8_hashedBuffer_1 : decode cX8_hashedBuffer 1 = .ok (.aload_n 0, 1) := by decide +kernel
theorem dX8_hashedBuffer_2 : decode cX8_hashedBuffer 2 = .ok (.getfield 26, 3) := by decide +kernel
theorem dX8_hashedBuffer_5 : decode cX8_hashedBuffer 5 = .ok (.getfield 97, 3) := by decide +kernel
theorem dX8_hashedBuffer_8 : decode cX8_hashedBuffer 8 = .ok (.i2l, 1) := by decide +kernel
theorem dX8_hashedBuffer_9 : decode cX8_hashedBuffer 9 = .ok (.invokestatic 244, 3) := by decide +kernel
theorem dX8_hashedBuffer_12 : decode cX8_hashedBuffer 12 = .ok (.lstore_n 3, 1) := by decide +kernel
theorem dX8_hashedBuffer_13 : decode cX8_hashedBuffer 13 = .ok (.iconst 0, 1) := by decide +kernel
theorem dX8_hashedBuffer_14 : decode cX8_hashedBuffer 14 = .ok (.istore 5, 2) := by decide +kernel
theorem dX8_hashedBuffer_16 : decode cX8_hashedBuffer 16 = .ok (.iload 5, 2) := by decide +kernel
theorem dX8_hashedBuffer_18 : decode cX8_hashedBuffer 18 = .ok (.aload_n 0, 1) := by decide +kernel
theorem dX8_hashedBuffer_19 : decode cX8_hashedBuffer 19 = .ok (.getfield 26, 3) := by decide +kernel
theorem dX8_hashedBuffer_22 : decode cX8_hashedBuffer 22 = .ok (.getfield 97, 3) := by decide +kernel
theorem dX8_hashedBuffer_25 : decode cX8_hashedBuffer 25 = .ok (.if_icmp .ge 24, 3) := by decide +kernel
theorem dX8_hashedBuffer_28 : decode cX8_hashedBuffer 28 = .ok (.lload_n 3, 1) := by decide +kernel
theorem dX8_hashedBuffer_29 : decode cX8_hashedBuffer 29 = .ok (.aload_n 0, 1) := by decide +kernel
theorem dX8_hashedBuffer_30 : decode cX8_hashedBuffer 30 = .ok (.getfield 26, 3) := by decide +kernel
theorem dX8_hashedBuffer_33 : decode cX8_hashedBuffer 33 = .ok (.iload 5, 2) := by decide +kernel
theorem dX8_hashedBuffer_35 : decode cX8_hashedBuffer 35 = .ok (.invokevirtual 360, 3) := by decide +kernel
theorem dX8_hashedBuffer_38 : decode cX8_hashedBuffer 38 = .ok (.i2l, 1) := by decide +kernel
theorem dX8_hashedBuffer_39 : decode cX8_hashedBuffer 39 = .ok (.invokestatic 244, 3) := by decide +kernel
theorem dX8_hashedBuffer_42 : decode cX8_hashedBuffer 42 = .ok (.lstore_n 3, 1) := by decide +kernel
theorem dX8_hashedBuffer_43 : decode cX8_hashedBuffer 43 = .ok (.iinc 5 1, 3) := by decide +kernel
theorem dX8_hashedBuffer_46 : decode cX8_hashedBuffer 46 = .ok (.goto (-30), 3) := by decide +kernel
theorem dX8_hashedBuffer_49 : decode cX8_hashedBuffer 49 = .ok (.lload_n 3, 1) := by decide +kernel
theorem dX8_hashedBuffer_50 : decode cX8_hashedBuffer 50 = .ok (.lreturn, 1) := by decide +kernel
theorem dX8_bitsOfShare_0 : decode cX8_bitsOfShare 0 = .ok (.dload_n 0, 1) := by decide +kernel
theorem dX8_bitsOfShare_1 : decode cX8_bitsOfShare 1 = .ok (.dconst 0, 1) := by decide +kernel
theorem dX8_bitsOfShare_2 : decode cX8_bitsOfShare 2 = .ok (.dcmp .g, 1) := by decide +kernel
theorem dX8_bitsOfShare_3 : decode cX8_bitsOfShare 3 = .ok (.ifCond .gt 5, 3) := by decide +kernel
theorem dX8_bitsOfShare_6 : decode cX8_bitsOfShare 6 = .ok (.lconst 0, 1) := by decide +kernel
theorem dX8_bitsOfShare_7 : decode cX8_bitsOfShare 7 = .ok (.lreturn, 1) := by decide +kernel
theorem dX8_bitsOfShare_8 : decode cX8_bitsOfShare 8 = .ok (.dload_n 0, 1) := by decide +kernel
theorem dX8_bitsOfShare_9 : decode cX8_bitsOfShare 9 = .ok (.dstore_n 2, 1) := by decide +kernel
theorem dX8_bitsOfShare_10 : decode cX8_bitsOfShare 10 = .ok (.ldc2_w 362, 3) := by decide +kernel
theorem dX8_bitsOfShare_13 : decode cX8_bitsOfShare 13 = .ok (.lstore 4, 2) := by decide +kernel
theorem dX8_bitsOfShare_15 : decode cX8_bitsOfShare 15 = .ok (.iconst 1, 1) := by decide +kernel
theorem dX8_bitsOfShare_16 : decode cX8_bitsOfShare 16 = .ok (.istore 6, 2) := by decide +kernel
theorem dX8_bitsOfShare_18 : decode cX8_bitsOfShare 18 = .ok (.iload 6, 2) := by decide +kernel
theorem dX8_bitsOfShare_20 : decode cX8_bitsOfShare 20 = .ok (.sipush 1023, 3) := by decide +kernel
theorem dX8_bitsOfShare_23 : decode cX8_bitsOfShare 23 = .ok (.if_icmp .ge 27, 3) := by decide +kernel
theorem dX8_bitsOfShare_26 : decode cX8_bitsOfShare 26 = .ok (.dload_n 2, 1) := by decide +kernel
theorem dX8_bitsOfShare_27 : decode cX8_bitsOfShare 27 = .ok (.dconst 1, 1) := by decide +kernel
theorem dX8_bitsOfShare_28 : decode cX8_bitsOfShare 28 = .ok (.dcmp .g, 1) := by decide +kernel
theorem dX8_bitsOfShare_29 : decode cX8_bitsOfShare 29 = .ok (.ifCond .ge 21, 3) := by decide +kernel
theorem dX8_bitsOfShare_32 : decode cX8_bitsOfShare 32 = .ok (.dload_n 2, 1) := by decide +kernel
theorem dX8_bitsOfShare_33 : decode cX8_bitsOfShare 33 = .ok (.ldc2_w 364, 3) := by decide +kernel
theorem dX8_bitsOfShare_36 : decode cX8_bitsOfShare 36 = .ok (.dmul, 1) := by decide +kernel
theorem dX8_bitsOfShare_37 : decode cX8_bitsOfShare 37 = .ok (.dstore_n 2, 1) := by decide +kernel
theorem dX8_bitsOfShare_38 : decode cX8_bitsOfShare 38 = .ok (.lload 4, 2) := by decide +kernel
theorem dX8_bitsOfShare_40 : decode cX8_bitsOfShare 40 = .ok (.lconst 1, 1) := by decide +kernel
theorem dX8_bitsOfShare_41 : decode cX8_bitsOfShare 41 = .ok (.lsub, 1) := by decide +kernel
theorem dX8_bitsOfShare_42 : decode cX8_bitsOfShare 42 = .ok (.lstore 4, 2) := by decide +kernel
theorem dX8_bitsOfShare_44 : decode cX8_bitsOfShare 44 = .ok (.iinc 6 1, 3) := by decide +kernel
theorem dX8_bitsOfShare_47 : decode cX8_bitsOfShare 47 = .ok (.goto (-29), 3) := by decide +kernel
theorem dX8_bitsOfShare_50 : decode cX8_bitsOfShare 50 = .ok (.dload_n 2, 1) := by decide +kernel
theorem dX8_bitsOfShare_51 : decode cX8_bitsOfShare 51 = .ok (.dconst 1, 1) := by decide +kernel
theorem dX8_bitsOfShare_52 : decode cX8_bitsOfShare 52 = .ok (.dsub, 1) := by decide +kernel
theorem dX8_bitsOfShare_53 : decode cX8_bitsOfShare 53 = .ok (.ldc2_w 366, 3) := by decide +kernel
theorem dX8_bitsOfShare_56 : decode cX8_bitsOfShare 56 = .ok (.dmul, 1) := by decide +kernel
theorem dX8_bitsOfShare_57 : decode cX8_bitsOfShare 57 = .ok (.dstore 6, 2) := by decide +kernel
theorem dX8_bitsOfShare_59 : decode cX8_bitsOfShare 59 = .ok (.lload 4, 2) := by decide +kernel
theorem dX8_bitsOfShare_61 : decode cX8_bitsOfShare 61 = .ok (.bipush 52, 2) := by decide +kernel
theorem dX8_bitsOfShare_63 : decode cX8_bitsOfShare 63 = .ok (.lshl, 1) := by decide +kernel
theorem dX8_bitsOfShare_64 : decode cX8_bitsOfShare 64 = .ok (.dload 6, 2) := by decide +kernel
theorem dX8_bitsOfShare_66 : decode cX8_bitsOfShare 66 = .ok (.d2l, 1) := by decide +kernel
theorem dX8_bitsOfShare_67 : decode cX8_bitsOfShare 67 = .ok (.ladd, 1) := by decide +kernel
theorem dX8_bitsOfShare_68 : decode cX8_bitsOfShare 68 = .ok (.lreturn, 1) := by decide +kernel
