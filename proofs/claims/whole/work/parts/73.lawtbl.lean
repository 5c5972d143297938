-- the law's words are words of the tables, row by row
set_option maxRecDepth 100000 in
theorem lt__r1 : ∀ w ∈ wsL_law0_r1, w ∈ lw_tbl := fun w h => (goodIn_p wsL_law0_r1 [90, 93] rfl (by decide +kernel) w h).1
set_option maxRecDepth 100000 in
theorem lt__r2 : ∀ w ∈ wsL_law0_r2, w ∈ lw_tbl := fun w h => (goodIn_p wsL_law0_r2 [98] rfl (by decide +kernel) w h).1
set_option maxRecDepth 100000 in
theorem lt__r3 : ∀ w ∈ wsL_law0_r3, w ∈ lw_tbl := fun w h => (goodIn_p wsL_law0_r3 [104, 137, 157] rfl (by decide +kernel) w h).1
set_option maxRecDepth 100000 in
theorem lt__r4 : ∀ w ∈ wsL_law0_r4, w ∈ lw_tbl := fun w h => (goodIn_p wsL_law0_r4 [203, 219, 225, 284] rfl (by decide +kernel) w h).1
set_option maxRecDepth 100000 in
theorem lt__r5 : ∀ w ∈ wsL_law0_r5, w ∈ lw_tbl := fun w h => (goodIn_p wsL_law0_r5 [983, 757, 599] rfl (by decide +kernel) w h).1
set_option maxRecDepth 100000 in
theorem lt__r6 : ∀ w ∈ wsL_law0_r6, w ∈ lw_tbl := fun w h => (goodIn_p wsL_law0_r6 [517, 761, 765, 436] rfl (by decide +kernel) w h).1
set_option maxRecDepth 100000 in
theorem lt__r7 : ∀ w ∈ wsL_law0_r7, w ∈ lw_tbl := fun w h => (goodIn_p wsL_law0_r7 [440, 447, 452, 482] rfl (by decide +kernel) w h).1
set_option maxRecDepth 100000 in
theorem lt__r8 : ∀ w ∈ wsL_law0_r8, w ∈ lw_tbl := fun w h => (goodIn_p wsL_law0_r8 [771, 1059, 1062, 1065, 1068, 1072, 1076] rfl (by decide +kernel) w h).1
set_option maxRecDepth 100000 in
theorem lt__r9 : ∀ w ∈ wsL_law0_r9, w ∈ lw_tbl := fun w h => (goodIn_p wsL_law0_r9 [1080, 1055, 778, 1084] rfl (by decide +kernel) w h).1
set_option maxRecDepth 100000 in
theorem lt__r10 : ∀ w ∈ wsL_law0_r10, w ∈ lw_tbl := fun w h => (goodIn_p wsL_law0_r10 [1088, 785, 1092, 793] rfl (by decide +kernel) w h).1
set_option maxRecDepth 100000 in
theorem lt__r11 : ∀ w ∈ wsL_law0_r11, w ∈ lw_tbl := fun w h => (goodIn_p wsL_law0_r11 [813, 466, 817, 821] rfl (by decide +kernel) w h).1
set_option maxRecDepth 100000 in
theorem lt__r12 : ∀ w ∈ wsL_law0_r12, w ∈ lw_tbl := fun w h => (goodIn_p wsL_law0_r12 [470, 474, 478, 825, 648] rfl (by decide +kernel) w h).1
set_option maxRecDepth 100000 in
theorem lt__r13 : ∀ w ∈ wsL_law0_r13, w ∈ lw_tbl := fun w h => (goodIn_p wsL_law0_r13 [830, 627, 631, 835, 498, 841] rfl (by decide +kernel) w h).1
set_option maxRecDepth 100000 in
theorem lt__r14 : ∀ w ∈ wsL_law0_r14, w ∈ lw_tbl := fun w h => (goodIn_p wsL_law0_r14 [845, 729, 850, 857, 854] rfl (by decide +kernel) w h).1
set_option maxRecDepth 100000 in
theorem lt__r15 : ∀ w ∈ wsL_law0_r15, w ∈ lw_tbl := fun w h => (goodIn_p wsL_law0_r15 [861, 486, 643, 494, 868, 872] rfl (by decide +kernel) w h).1
set_option maxRecDepth 100000 in
theorem lt__r16 : ∀ w ∈ wsL_law0_r16, w ∈ lw_tbl := fun w h => (goodIn_p wsL_law0_r16 [877, 1096, 1100, 1104] rfl (by decide +kernel) w h).1
set_option maxRecDepth 100000 in
theorem lt__r17 : ∀ w ∈ wsL_law0_r17, w ∈ lw_tbl := fun w h => (goodIn_p wsL_law0_r17 [1108, 1112, 1116, 1120, 1124] rfl (by decide +kernel) w h).1
set_option maxRecDepth 100000 in
theorem lt__r18 : ∀ w ∈ wsL_law0_r18, w ∈ lw_tbl := fun w h => (goodIn_p wsL_law0_r18 [884, 889, 1128, 318, 1132, 322] rfl (by decide +kernel) w h).1
set_option maxRecDepth 100000 in
theorem lt__r19 : ∀ w ∈ wsL_law0_r19, w ∈ lw_tbl := fun w h => (goodIn_p wsL_law0_r19 [326, 330, 334, 338, 343] rfl (by decide +kernel) w h).1
set_option maxRecDepth 100000 in
theorem lt__r20 : ∀ w ∈ wsL_law0_r20, w ∈ lw_tbl := fun w h => (goodIn_p wsL_law0_r20 [347, 351, 357, 361, 364] rfl (by decide +kernel) w h).1
set_option maxRecDepth 100000 in
theorem lt__r21 : ∀ w ∈ wsL_law0_r21, w ∈ lw_tbl := fun w h => (goodIn_p wsL_law0_r21 [367, 372, 375, 378, 381, 385] rfl (by decide +kernel) w h).1
set_option maxRecDepth 100000 in
theorem lt__r22 : ∀ w ∈ wsL_law0_r22, w ∈ lw_tbl := fun w h => (goodIn_p wsL_law0_r22 [395, 399, 403, 407, 411] rfl (by decide +kernel) w h).1
set_option maxRecDepth 100000 in
theorem lt__r23 : ∀ w ∈ wsL_law0_r23, w ∈ lw_tbl := fun w h => (goodIn_p wsL_law0_r23 [415, 421, 427, 1136, 1140] rfl (by decide +kernel) w h).1
set_option maxRecDepth 100000 in
theorem lt__r24 : ∀ w ∈ wsL_law0_r24, w ∈ lw_tbl := fun w h => (goodIn_p wsL_law0_r24 [1144, 1148, 1152, 1156, 1160] rfl (by decide +kernel) w h).1
set_option maxRecDepth 100000 in
theorem lt__r25 : ∀ w ∈ wsL_law0_r25, w ∈ lw_tbl := fun w h => (goodIn_p wsL_law0_r25 [1164, 896, 902, 906] rfl (by decide +kernel) w h).1
set_option maxRecDepth 100000 in
theorem lt__r26 : ∀ w ∈ wsL_law0_r26, w ∈ lw_tbl := fun w h => (goodIn_p wsL_law0_r26 [910, 914, 1168, 1172] rfl (by decide +kernel) w h).1
set_option maxRecDepth 100000 in
theorem lt__r27 : ∀ w ∈ wsL_law0_r27, w ∈ lw_tbl := fun w h => (goodIn_p wsL_law0_r27 [734, 1176, 1180, 698, 666, 702] rfl (by decide +kernel) w h).1
set_option maxRecDepth 100000 in
theorem lt__r28 : ∀ w ∈ wsL_law0_r28, w ∈ lw_tbl := fun w h => (goodIn_p wsL_law0_r28 [679, 688, 691, 705, 1184, 1188] rfl (by decide +kernel) w h).1
set_option maxRecDepth 100000 in
theorem lt__r29 : ∀ w ∈ wsL_law0_r29, w ∈ lw_tbl := fun w h => (goodIn_p wsL_law0_r29 [1192, 929, 933, 938, 1196] rfl (by decide +kernel) w h).1
set_option maxRecDepth 100000 in
theorem lt__r30 : ∀ w ∈ wsL_law0_r30, w ∈ lw_tbl := fun w h => (goodIn_p wsL_law0_r30 [432, 1200, 945, 1204] rfl (by decide +kernel) w h).1
set_option maxRecDepth 100000 in
theorem lt__r31 : ∀ w ∈ wsL_law0_r31, w ∈ lw_tbl := fun w h => (goodIn_p wsL_law0_r31 [652, 1208, 1212, 596] rfl (by decide +kernel) w h).1
set_option maxRecDepth 100000 in
theorem lt__r32 : ∀ w ∈ wsL_law0_r32, w ∈ lw_tbl := fun w h => (goodIn_p wsL_law0_r32 [619, 623, 1216, 1220, 1224, 1228] rfl (by decide +kernel) w h).1
set_option maxRecDepth 100000 in
theorem lt__r33 : ∀ w ∈ wsL_law0_r33, w ∈ lw_tbl := fun w h => (goodIn_p wsL_law0_r33 [663, 1232, 1236, 675] rfl (by decide +kernel) w h).1
set_option maxRecDepth 100000 in
theorem lt__r34 : ∀ w ∈ wsL_law0_r34, w ∈ lw_tbl := fun w h => (goodIn_p wsL_law0_r34 [1240, 1244, 514, 505, 1248] rfl (by decide +kernel) w h).1
set_option maxRecDepth 100000 in
theorem lt__r35 : ∀ w ∈ wsL_law0_r35, w ∈ lw_tbl := fun w h => (goodIn_p wsL_law0_r35 [1252, 1256, 713, 717, 721] rfl (by decide +kernel) w h).1
set_option maxRecDepth 100000 in
theorem lt__r36 : ∀ w ∈ wsL_law0_r36, w ∈ lw_tbl := fun w h => (goodIn_p wsL_law0_r36 [1260, 1264, 635, 462, 639] rfl (by decide +kernel) w h).1
set_option maxRecDepth 100000 in
theorem lt__r37 : ∀ w ∈ wsL_law0_r37, w ∈ lw_tbl := fun w h => (goodIn_p wsL_law0_r37 [1268, 1272, 1276, 725] rfl (by decide +kernel) w h).1
set_option maxRecDepth 100000 in
theorem lt__r38 : ∀ w ∈ wsL_law0_r38, w ∈ lw_tbl := fun w h => (goodIn_p wsL_law0_r38 [1280, 458, 1284, 1288, 1292, 490] rfl (by decide +kernel) w h).1
set_option maxRecDepth 100000 in
theorem lt__r39 : ∀ w ∈ wsL_law0_r39, w ∈ lw_tbl := fun w h => (goodIn_p wsL_law0_r39 [1296, 1300, 502, 1304, 1308, 509] rfl (by decide +kernel) w h).1
set_option maxRecDepth 100000 in
theorem lt__r40 : ∀ w ∈ wsL_law0_r40, w ∈ lw_tbl := fun w h => (goodIn_p wsL_law0_r40 [587, 592, 659, 671] rfl (by decide +kernel) w h).1
set_option maxRecDepth 100000 in
theorem lt__r41 : ∀ w ∈ wsL_law0_r41, w ∈ lw_tbl := fun w h => (goodIn_p wsL_law0_r41 [683, 694, 709, 740] rfl (by decide +kernel) w h).1
set_option maxRecDepth 100000 in
theorem lt__r42 : ∀ w ∈ wsL_law0_r42, w ∈ lw_tbl := fun w h => (goodIn_p wsL_law0_r42 [747, 1312, 1317, 1320] rfl (by decide +kernel) w h).1
theorem lt_wsX80 : ∀ w ∈ wsX80, w ∈ lw_tbl := by decide +kernel
theorem lt_wsX90 : ∀ w ∈ wsX90, w ∈ lw_tbl := by decide +kernel
theorem lt_wsX50 : ∀ w ∈ wsX50, w ∈ lw_tbl := by decide +kernel
theorem lt_wsX10 : ∀ w ∈ wsX10, w ∈ lw_tbl := by decide +kernel
theorem lt_wsX30 : ∀ w ∈ wsX30, w ∈ lw_tbl := by decide +kernel
theorem lt_wsX40 : ∀ w ∈ wsX40, w ∈ lw_tbl := by decide +kernel
theorem lt_wsX60 : ∀ w ∈ wsX60, w ∈ lw_tbl := by decide +kernel
theorem lt_wsX20 : ∀ w ∈ wsX20, w ∈ lw_tbl := by decide +kernel
theorem lt_wsX70 : ∀ w ∈ wsX70, w ∈ lw_tbl := by decide +kernel
theorem lt_wsX00 : ∀ w ∈ wsX00, w ∈ lw_tbl := by decide +kernel
set_option maxRecDepth 20000 in
theorem wsL_law_in0 : ∀ w ∈ wsL_law0, w ∈ lw_tbl := List.forall_mem_append.mpr ⟨List.forall_mem_append.mpr ⟨List.forall_mem_append.mpr ⟨List.forall_mem_append.mpr ⟨List.forall_mem_append.mpr ⟨List.forall_mem_append.mpr ⟨List.forall_mem_append.mpr ⟨List.forall_mem_append.mpr ⟨List.forall_mem_append.mpr ⟨List.forall_mem_append.mpr ⟨List.forall_mem_append.mpr ⟨List.forall_mem_append.mpr ⟨lt__r1, List.forall_mem_append.mpr ⟨lt__r2, List.forall_mem_append.mpr ⟨lt__r3, List.forall_mem_append.mpr ⟨lt__r4, List.forall_mem_append.mpr ⟨lt__r5, List.forall_mem_append.mpr ⟨lt__r6, List.forall_mem_append.mpr ⟨lt__r7, List.forall_mem_append.mpr ⟨lt__r8, List.forall_mem_append.mpr ⟨lt__r9, List.forall_mem_append.mpr ⟨lt__r10, List.forall_mem_append.mpr ⟨lt__r11, List.forall_mem_append.mpr ⟨lt__r12, List.forall_mem_append.mpr ⟨lt__r13, List.forall_mem_append.mpr ⟨lt__r14, List.forall_mem_append.mpr ⟨lt__r15, List.forall_mem_append.mpr ⟨lt__r16, List.forall_mem_append.mpr ⟨lt__r17, List.forall_mem_append.mpr ⟨lt__r18, List.forall_mem_append.mpr ⟨lt__r19, List.forall_mem_append.mpr ⟨lt__r20, List.forall_mem_append.mpr ⟨lt__r21, List.forall_mem_append.mpr ⟨lt__r22, List.forall_mem_append.mpr ⟨lt__r23, List.forall_mem_append.mpr ⟨lt__r24, List.forall_mem_append.mpr ⟨lt__r25, List.forall_mem_append.mpr ⟨lt__r26, List.forall_mem_append.mpr ⟨lt__r27, List.forall_mem_append.mpr ⟨lt__r28, List.forall_mem_append.mpr ⟨lt__r29, List.forall_mem_append.mpr ⟨lt__r30, List.forall_mem_append.mpr ⟨lt__r31, List.forall_mem_append.mpr ⟨lt__r32, List.forall_mem_append.mpr ⟨lt__r33, List.forall_mem_append.mpr ⟨lt__r34, List.forall_mem_append.mpr ⟨lt__r35, List.forall_mem_append.mpr ⟨lt__r36, List.forall_mem_append.mpr ⟨lt__r37, List.forall_mem_append.mpr ⟨lt__r38, List.forall_mem_append.mpr ⟨lt__r39, List.forall_mem_append.mpr ⟨lt__r40, List.forall_mem_append.mpr ⟨lt__r41, lt__r42⟩⟩⟩⟩⟩⟩⟩⟩⟩⟩⟩⟩⟩⟩⟩⟩⟩⟩⟩⟩⟩⟩⟩⟩⟩⟩⟩⟩⟩⟩⟩⟩⟩⟩⟩⟩⟩⟩⟩⟩⟩, lt_wsX80⟩, lt_wsX90⟩, lt_wsX50⟩, lt_wsX10⟩, lt_wsX30⟩, lt_wsX40⟩, lt_wsX60⟩, lt_wsX20⟩, lt_wsX70⟩, lt_wsX00⟩, fun _ h => absurd h List.not_mem_nil⟩
theorem wsL_law_x0 : ∀ w ∈ (vx_atS RX8 286 "java/lang/IndexOutOfBoundsException" ["java/lang/RuntimeException", "java/lang/Exception"]).filter goodWord, w ∈ lw_tbl := by decide +kernel
theorem wsL_law_x1 : ∀ w ∈ (vx_atS RX8 116 "java/lang/IllegalArgumentException" ["java/lang/RuntimeException", "java/lang/Exception"]).filter goodWord, w ∈ lw_tbl := by decide +kernel
theorem wsL_law_x2 : ∀ w ∈ (vx_atS RX8 90 "java/lang/IllegalStateException" ["java/lang/RuntimeException", "java/lang/Exception"]).filter goodWord, w ∈ lw_tbl := by decide +kernel
theorem wsL_law_in : ∀ w ∈ wsL_law, w ∈ lw_tbl := fun w h => (List.mem_append.mp h).elim (fun h => (List.mem_append.mp h).elim (fun h => (List.mem_append.mp h).elim (fun h => wsL_law_in0 w h) (fun h => wsL_law_x0 w h)) (fun h => wsL_law_x1 w h)) (fun h => wsL_law_x2 w h)
theorem inlX0 : ∀ w ∈ wsX00, w ∈ wsL_law := fun _ h => List.mem_append_left _ (List.mem_append_left _ (List.mem_append_left _ (List.mem_append_left _ (List.mem_append_right _ h))))
theorem inX0 : ∀ w ∈ wsX00, w ∈ lw_tbl := fun w h => wsL_law_in w (inlX0 w h)
theorem inlX1 : ∀ w ∈ wsX10, w ∈ wsL_law := fun _ h => List.mem_append_left _ (List.mem_append_left _ (List.mem_append_left _ (List.mem_append_left _ (List.mem_append_left _ (List.mem_append_left _ (List.mem_append_left _ (List.mem_append_left _ (List.mem_append_left _ (List.mem_append_left _ (List.mem_append_right _ h))))))))))
theorem inX1 : ∀ w ∈ wsX10, w ∈ lw_tbl := fun w h => wsL_law_in w (inlX1 w h)
theorem inlX2 : ∀ w ∈ wsX20, w ∈ wsL_law := fun _ h => List.mem_append_left _ (List.mem_append_left _ (List.mem_append_left _ (List.mem_append_left _ (List.mem_append_left _ (List.mem_append_left _ (List.mem_append_right _ h))))))
theorem inX2 : ∀ w ∈ wsX20, w ∈ lw_tbl := fun w h => wsL_law_in w (inlX2 w h)
theorem inlX3 : ∀ w ∈ wsX30, w ∈ wsL_law := fun _ h => List.mem_append_left _ (List.mem_append_left _ (List.mem_append_left _ (List.mem_append_left _ (List.mem_append_left _ (List.mem_append_left _ (List.mem_append_left _ (List.mem_append_left _ (List.mem_append_left _ (List.mem_append_right _ h)))))))))
theorem inX3 : ∀ w ∈ wsX30, w ∈ lw_tbl := fun w h => wsL_law_in w (inlX3 w h)
theorem inlX4 : ∀ w ∈ wsX40, w ∈ wsL_law := fun _ h => List.mem_append_left _ (List.mem_append_left _ (List.mem_append_left _ (List.mem_append_left _ (List.mem_append_left _ (List.mem_append_left _ (List.mem_append_left _ (List.mem_append_left _ (List.mem_append_right _ h))))))))
theorem inX4 : ∀ w ∈ wsX40, w ∈ lw_tbl := fun w h => wsL_law_in w (inlX4 w h)
theorem inlX5 : ∀ w ∈ wsX50, w ∈ wsL_law := fun _ h => List.mem_append_left _ (List.mem_append_left _ (List.mem_append_left _ (List.mem_append_left _ (List.mem_append_left _ (List.mem_append_left _ (List.mem_append_left _ (List.mem_append_left _ (List.mem_append_left _ (List.mem_append_left _ (List.mem_append_left _ (List.mem_append_right _ h)))))))))))
theorem inX5 : ∀ w ∈ wsX50, w ∈ lw_tbl := fun w h => wsL_law_in w (inlX5 w h)
theorem inlX6 : ∀ w ∈ wsX60, w ∈ wsL_law := fun _ h => List.mem_append_left _ (List.mem_append_left _ (List.mem_append_left _ (List.mem_append_left _ (List.mem_append_left _ (List.mem_append_left _ (List.mem_append_left _ (List.mem_append_right _ h)))))))
theorem inX6 : ∀ w ∈ wsX60, w ∈ lw_tbl := fun w h => wsL_law_in w (inlX6 w h)
theorem inlX7 : ∀ w ∈ wsX70, w ∈ wsL_law := fun _ h => List.mem_append_left _ (List.mem_append_left _ (List.mem_append_left _ (List.mem_append_left _ (List.mem_append_left _ (List.mem_append_right _ h)))))
theorem inX7 : ∀ w ∈ wsX70, w ∈ lw_tbl := fun w h => wsL_law_in w (inlX7 w h)
theorem inlX8 : ∀ w ∈ wsX80, w ∈ wsL_law := fun _ h => List.mem_append_left _ (List.mem_append_left _ (List.mem_append_left _ (List.mem_append_left _ (List.mem_append_left _ (List.mem_append_left _ (List.mem_append_left _ (List.mem_append_left _ (List.mem_append_left _ (List.mem_append_left _ (List.mem_append_left _ (List.mem_append_left _ (List.mem_append_left _ (List.mem_append_right _ h)))))))))))))
theorem inX8 : ∀ w ∈ wsX80, w ∈ lw_tbl := fun w h => wsL_law_in w (inlX8 w h)
theorem inlX9 : ∀ w ∈ wsX90, w ∈ wsL_law := fun _ h => List.mem_append_left _ (List.mem_append_left _ (List.mem_append_left _ (List.mem_append_left _ (List.mem_append_left _ (List.mem_append_left _ (List.mem_append_left _ (List.mem_append_left _ (List.mem_append_left _ (List.mem_append_left _ (List.mem_append_left _ (List.mem_append_left _ (List.mem_append_right _ h))))))))))))
theorem inX9 : ∀ w ∈ wsX90, w ∈ lw_tbl := fun w h => wsL_law_in w (inlX9 w h)
theorem inJxe99ae : ∀ w ∈ wsJxe99ae0, w ∈ lw_tbl := by decide +kernel
theorem inJ9 : ∀ w ∈ wsJ90, w ∈ lw_tbl := by decide +kernel
theorem inJ0 : ∀ w ∈ wsJ00, w ∈ lw_tbl := by decide +kernel
theorem inJ1 : ∀ w ∈ wsJ10, w ∈ lw_tbl := by decide +kernel
theorem inJ2 : ∀ w ∈ wsJ20, w ∈ lw_tbl := by decide +kernel
theorem inJ10 : ∀ w ∈ wsJ100, w ∈ lw_tbl := by decide +kernel
theorem inJ3 : ∀ w ∈ wsJ30, w ∈ lw_tbl := by decide +kernel
