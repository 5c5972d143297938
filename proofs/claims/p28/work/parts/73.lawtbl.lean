-- the law's words are words of the tables, row by row
set_option maxRecDepth 100000 in
theorem lt__r1 : ∀ w ∈ wsL_law0_r1, w ∈ lw_tbl := fun w h => (goodIn_p wsL_law0_r1 [51, 54] rfl (by decide +kernel) w h).1
set_option maxRecDepth 100000 in
theorem lt__r2 : ∀ w ∈ wsL_law0_r2, w ∈ lw_tbl := fun w h => (goodIn_p wsL_law0_r2 [59] rfl (by decide +kernel) w h).1
set_option maxRecDepth 100000 in
theorem lt__r3 : ∀ w ∈ wsL_law0_r3, w ∈ lw_tbl := fun w h => (goodIn_p wsL_law0_r3 [65, 98, 118, 164] rfl (by decide +kernel) w h).1
set_option maxRecDepth 100000 in
theorem lt__r4 : ∀ w ∈ wsL_law0_r4, w ∈ lw_tbl := fun w h => (goodIn_p wsL_law0_r4 [180, 186, 245] rfl (by decide +kernel) w h).1
set_option maxRecDepth 100000 in
theorem lt__r5 : ∀ w ∈ wsL_law0_r5, w ∈ lw_tbl := fun w h => (goodIn_p wsL_law0_r5 [830, 834, 727] rfl (by decide +kernel) w h).1
set_option maxRecDepth 100000 in
theorem lt__r6 : ∀ w ∈ wsL_law0_r6, w ∈ lw_tbl := fun w h => (goodIn_p wsL_law0_r6 [731, 736, 740, 840] rfl (by decide +kernel) w h).1
set_option maxRecDepth 100000 in
theorem lt__r7 : ∀ w ∈ wsL_law0_r7, w ∈ lw_tbl := fun w h => (goodIn_p wsL_law0_r7 [847, 718, 722, 283, 287] rfl (by decide +kernel) w h).1
set_option maxRecDepth 100000 in
theorem lt__r8 : ∀ w ∈ wsL_law0_r8, w ∈ lw_tbl := fun w h => (goodIn_p wsL_law0_r8 [291, 295, 299, 304, 308] rfl (by decide +kernel) w h).1
set_option maxRecDepth 100000 in
theorem lt__r9 : ∀ w ∈ wsL_law0_r9, w ∈ lw_tbl := fun w h => (goodIn_p wsL_law0_r9 [312, 318, 322, 325, 328] rfl (by decide +kernel) w h).1
set_option maxRecDepth 100000 in
theorem lt__r10 : ∀ w ∈ wsL_law0_r10, w ∈ lw_tbl := fun w h => (goodIn_p wsL_law0_r10 [333, 336, 339, 342, 346, 356] rfl (by decide +kernel) w h).1
set_option maxRecDepth 100000 in
theorem lt__r11 : ∀ w ∈ wsL_law0_r11, w ∈ lw_tbl := fun w h => (goodIn_p wsL_law0_r11 [360, 364, 368, 372, 376] rfl (by decide +kernel) w h).1
set_option maxRecDepth 100000 in
theorem lt__r12 : ∀ w ∈ wsL_law0_r12, w ∈ lw_tbl := fun w h => (goodIn_p wsL_law0_r12 [382, 388, 664, 447] rfl (by decide +kernel) w h).1
set_option maxRecDepth 100000 in
theorem lt__r13 : ∀ w ∈ wsL_law0_r13, w ∈ lw_tbl := fun w h => (goodIn_p wsL_law0_r13 [432, 435, 655, 659, 557] rfl (by decide +kernel) w h).1
set_option maxRecDepth 100000 in
theorem lt__r14 : ∀ w ∈ wsL_law0_r14, w ∈ lw_tbl := fun w h => (goodIn_p wsL_law0_r14 [420, 561, 416, 925, 582] rfl (by decide +kernel) w h).1
set_option maxRecDepth 100000 in
theorem lt__r15 : ∀ w ∈ wsL_law0_r15, w ∈ lw_tbl := fun w h => (goodIn_p wsL_law0_r15 [529, 526, 549] rfl (by decide +kernel) w h).1
set_option maxRecDepth 100000 in
theorem lt__r16 : ∀ w ∈ wsL_law0_r16, w ∈ lw_tbl := fun w h => (goodIn_p wsL_law0_r16 [553, 444, 593] rfl (by decide +kernel) w h).1
set_option maxRecDepth 100000 in
theorem lt__r17 : ∀ w ∈ wsL_law0_r17, w ∈ lw_tbl := fun w h => (goodIn_p wsL_law0_r17 [596, 401, 605, 609] rfl (by decide +kernel) w h).1
set_option maxRecDepth 100000 in
theorem lt__r18 : ∀ w ∈ wsL_law0_r18, w ∈ lw_tbl := fun w h => (goodIn_p wsL_law0_r18 [628, 632, 618, 621, 635, 643] rfl (by decide +kernel) w h).1
set_option maxRecDepth 100000 in
theorem lt__r19 : ∀ w ∈ wsL_law0_r19, w ∈ lw_tbl := fun w h => (goodIn_p wsL_law0_r19 [647, 651, 565, 397, 408] rfl (by decide +kernel) w h).1
set_option maxRecDepth 100000 in
theorem lt__r20 : ∀ w ∈ wsL_law0_r20, w ∈ lw_tbl := fun w h => (goodIn_p wsL_law0_r20 [412, 569, 573, 428] rfl (by decide +kernel) w h).1
set_option maxRecDepth 100000 in
theorem lt__r21 : ∀ w ∈ wsL_law0_r21, w ∈ lw_tbl := fun w h => (goodIn_p wsL_law0_r21 [578, 393, 424, 668, 672, 688] rfl (by decide +kernel) w h).1
set_option maxRecDepth 100000 in
theorem lt__r22 : ∀ w ∈ wsL_law0_r22, w ∈ lw_tbl := fun w h => (goodIn_p wsL_law0_r22 [851, 859, 866, 873] rfl (by decide +kernel) w h).1
set_option maxRecDepth 100000 in
theorem lt__r23 : ∀ w ∈ wsL_law0_r23, w ∈ lw_tbl := fun w h => (goodIn_p wsL_law0_r23 [877, 698, 746, 750, 754] rfl (by decide +kernel) w h).1
set_option maxRecDepth 100000 in
theorem lt__r24 : ∀ w ∈ wsL_law0_r24, w ∈ lw_tbl := fun w h => (goodIn_p wsL_law0_r24 [758, 763, 768, 774, 778] rfl (by decide +kernel) w h).1
set_option maxRecDepth 100000 in
theorem lt__r25 : ∀ w ∈ wsL_law0_r25, w ∈ lw_tbl := fun w h => (goodIn_p wsL_law0_r25 [783, 790, 787, 794, 801] rfl (by decide +kernel) w h).1
set_option maxRecDepth 100000 in
theorem lt__r26 : ∀ w ∈ wsL_law0_r26, w ∈ lw_tbl := fun w h => (goodIn_p wsL_law0_r26 [805, 810, 881, 279, 888] rfl (by decide +kernel) w h).1
set_option maxRecDepth 100000 in
theorem lt__r27 : ∀ w ∈ wsL_law0_r27, w ∈ lw_tbl := fun w h => (goodIn_p wsL_law0_r27 [893, 900, 906, 910] rfl (by decide +kernel) w h).1
set_option maxRecDepth 100000 in
theorem lt__r28 : ∀ w ∈ wsL_law0_r28, w ∈ lw_tbl := fun w h => (goodIn_p wsL_law0_r28 [914, 918, 921, 958, 439, 517] rfl (by decide +kernel) w h).1
set_option maxRecDepth 100000 in
theorem lt__r29 : ∀ w ∈ wsL_law0_r29, w ∈ lw_tbl := fun w h => (goodIn_p wsL_law0_r29 [522, 589, 601, 613] rfl (by decide +kernel) w h).1
set_option maxRecDepth 100000 in
theorem lt__r30 : ∀ w ∈ wsL_law0_r30, w ∈ lw_tbl := fun w h => (goodIn_p wsL_law0_r30 [624, 639, 677, 684] rfl (by decide +kernel) w h).1
theorem lt_wsX80 : ∀ w ∈ wsX80, w ∈ lw_tbl := by decide +kernel
theorem lt_wsX50 : ∀ w ∈ wsX50, w ∈ lw_tbl := by decide +kernel
theorem lt_wsX10 : ∀ w ∈ wsX10, w ∈ lw_tbl := by decide +kernel
theorem lt_wsX30 : ∀ w ∈ wsX30, w ∈ lw_tbl := by decide +kernel
theorem lt_wsX40 : ∀ w ∈ wsX40, w ∈ lw_tbl := by decide +kernel
theorem lt_wsX60 : ∀ w ∈ wsX60, w ∈ lw_tbl := by decide +kernel
theorem lt_wsX20 : ∀ w ∈ wsX20, w ∈ lw_tbl := by decide +kernel
theorem lt_wsX70 : ∀ w ∈ wsX70, w ∈ lw_tbl := by decide +kernel
theorem lt_wsX00 : ∀ w ∈ wsX00, w ∈ lw_tbl := by decide +kernel
set_option maxRecDepth 20000 in
theorem wsL_law_in0 : ∀ w ∈ wsL_law0, w ∈ lw_tbl := List.forall_mem_append.mpr ⟨List.forall_mem_append.mpr ⟨List.forall_mem_append.mpr ⟨List.forall_mem_append.mpr ⟨List.forall_mem_append.mpr ⟨List.forall_mem_append.mpr ⟨List.forall_mem_append.mpr ⟨List.forall_mem_append.mpr ⟨List.forall_mem_append.mpr ⟨List.forall_mem_append.mpr ⟨List.forall_mem_append.mpr ⟨lt__r1, List.forall_mem_append.mpr ⟨lt__r2, List.forall_mem_append.mpr ⟨lt__r3, List.forall_mem_append.mpr ⟨lt__r4, List.forall_mem_append.mpr ⟨lt__r5, List.forall_mem_append.mpr ⟨lt__r6, List.forall_mem_append.mpr ⟨lt__r7, List.forall_mem_append.mpr ⟨lt__r8, List.forall_mem_append.mpr ⟨lt__r9, List.forall_mem_append.mpr ⟨lt__r10, List.forall_mem_append.mpr ⟨lt__r11, List.forall_mem_append.mpr ⟨lt__r12, List.forall_mem_append.mpr ⟨lt__r13, List.forall_mem_append.mpr ⟨lt__r14, List.forall_mem_append.mpr ⟨lt__r15, List.forall_mem_append.mpr ⟨lt__r16, List.forall_mem_append.mpr ⟨lt__r17, List.forall_mem_append.mpr ⟨lt__r18, List.forall_mem_append.mpr ⟨lt__r19, List.forall_mem_append.mpr ⟨lt__r20, List.forall_mem_append.mpr ⟨lt__r21, List.forall_mem_append.mpr ⟨lt__r22, List.forall_mem_append.mpr ⟨lt__r23, List.forall_mem_append.mpr ⟨lt__r24, List.forall_mem_append.mpr ⟨lt__r25, List.forall_mem_append.mpr ⟨lt__r26, List.forall_mem_append.mpr ⟨lt__r27, List.forall_mem_append.mpr ⟨lt__r28, List.forall_mem_append.mpr ⟨lt__r29, lt__r30⟩⟩⟩⟩⟩⟩⟩⟩⟩⟩⟩⟩⟩⟩⟩⟩⟩⟩⟩⟩⟩⟩⟩⟩⟩⟩⟩⟩⟩, lt_wsX80⟩, lt_wsX50⟩, lt_wsX10⟩, lt_wsX30⟩, lt_wsX40⟩, lt_wsX60⟩, lt_wsX20⟩, lt_wsX70⟩, lt_wsX00⟩, fun _ h => absurd h List.not_mem_nil⟩
theorem wsL_law_x0 : ∀ w ∈ (vx_atS RX8 90 "java/lang/IllegalStateException" ["java/lang/RuntimeException", "java/lang/Exception"]).filter goodWord, w ∈ lw_tbl := by decide +kernel
theorem wsL_law_x1 : ∀ w ∈ (vx_atS RX8 116 "java/lang/IllegalArgumentException" ["java/lang/RuntimeException", "java/lang/Exception"]).filter goodWord, w ∈ lw_tbl := by decide +kernel
theorem wsL_law_x2 : ∀ w ∈ (vx_atS RX8 286 "java/lang/IndexOutOfBoundsException" ["java/lang/RuntimeException", "java/lang/Exception"]).filter goodWord, w ∈ lw_tbl := by decide +kernel
theorem wsL_law_in : ∀ w ∈ wsL_law, w ∈ lw_tbl := fun w h => (List.mem_append.mp h).elim (fun h => (List.mem_append.mp h).elim (fun h => (List.mem_append.mp h).elim (fun h => wsL_law_in0 w h) (fun h => wsL_law_x0 w h)) (fun h => wsL_law_x1 w h)) (fun h => wsL_law_x2 w h)
theorem inlX0 : ∀ w ∈ wsX00, w ∈ wsL_law := fun _ h => List.mem_append_left _ (List.mem_append_left _ (List.mem_append_left _ (List.mem_append_left _ (List.mem_append_right _ h))))
theorem inX0 : ∀ w ∈ wsX00, w ∈ lw_tbl := fun w h => wsL_law_in w (inlX0 w h)
theorem inlX1 : ∀ w ∈ wsX10, w ∈ wsL_law := fun _ h => List.mem_append_left _ (List.mem_append_left _ (List.mem_append_left _ (List.mem_append_left _ (List.mem_append_left _ (List.mem_append_left _ (List.mem_append_left _ (List.mem_append_left _ (List.mem_append_left _ (List.mem_append_left _ (List.mem_append_right _ h))))))))))
theorem inX1 : ∀ w ∈ wsX10, w ∈ lw_tbl := fun w h => wsL_law_in w (inlX1 w h)
theorem inlX2 : ∀ w ∈ wsX20, w ∈ wsL_law := fun _ h => List.mem_append_left _ (List.mem_append_left _ (List.mem_append_left _ (List.mem_append_left _ (List.mem_append_left _ (List.mem_append_left _ (List.mem_append_right _ h))))))
theorem inX2 : ∀ w ∈ wsX20, w ∈ lw_tbl := fun w h => wsL_law_in w (inlX2 w h)
theorem inlX3 : ∀ w ∈ wsX30, w ∈ wsL_law := fun _ h => List.mem_append_left _ (List.mem_append_left _ (List.mem_append_left _ (List.mem_append_left _ (List.mem_append_left _ (List.mem_append_left _ (List.mem_append_left _ (List.mem_append_left _ (List.mem_append_left _ (List.mem_append_right _ h)))))))))
theorem inX3 : ∀ w ∈ wsX30, w ∈ lw_tbl := fun w h => wsL_law_in w (inlX3 w h)
theorem inlX4 : ∀ w ∈ wsX40, w ∈ wsL_law := fun _ h => List.mem_append_left _ (List.mem_append_left _ (List.mem_append_left _ (List.mem_append_left _ (List.mem_append_left _ (List.mem_append_left _ (List.mem_append_left _ (List.mem_append_left _ (List.mem_append_right _ h))))))))
theorem inX4 : ∀ w ∈ wsX40, w ∈ lw_tbl := fun w h => wsL_law_in w (inlX4 w h)
theorem inlX5 : ∀ w ∈ wsX50, w ∈ wsL_law := fun _ h => List.mem_append_left _ (List.mem_append_left _ (List.mem_append_left _ (List.mem_append_left _ (List.mem_append_left _ (List.mem_append_left _ (List.mem_append_left _ (List.mem_append_left _ (List.mem_append_left _ (List.mem_append_left _ (List.mem_append_left _ (List.mem_append_right _ h)))))))))))
theorem inX5 : ∀ w ∈ wsX50, w ∈ lw_tbl := fun w h => wsL_law_in w (inlX5 w h)
theorem inlX6 : ∀ w ∈ wsX60, w ∈ wsL_law := fun _ h => List.mem_append_left _ (List.mem_append_left _ (List.mem_append_left _ (List.mem_append_left _ (List.mem_append_left _ (List.mem_append_left _ (List.mem_append_left _ (List.mem_append_right _ h)))))))
theorem inX6 : ∀ w ∈ wsX60, w ∈ lw_tbl := fun w h => wsL_law_in w (inlX6 w h)
theorem inlX7 : ∀ w ∈ wsX70, w ∈ wsL_law := fun _ h => List.mem_append_left _ (List.mem_append_left _ (List.mem_append_left _ (List.mem_append_left _ (List.mem_append_left _ (List.mem_append_right _ h)))))
theorem inX7 : ∀ w ∈ wsX70, w ∈ lw_tbl := fun w h => wsL_law_in w (inlX7 w h)
theorem inlX8 : ∀ w ∈ wsX80, w ∈ wsL_law := fun _ h => List.mem_append_left _ (List.mem_append_left _ (List.mem_append_left _ (List.mem_append_left _ (List.mem_append_left _ (List.mem_append_left _ (List.mem_append_left _ (List.mem_append_left _ (List.mem_append_left _ (List.mem_append_left _ (List.mem_append_left _ (List.mem_append_left _ (List.mem_append_right _ h))))))))))))
theorem inX8 : ∀ w ∈ wsX80, w ∈ lw_tbl := fun w h => wsL_law_in w (inlX8 w h)
theorem inX9 : ∀ w ∈ wsX90, w ∈ lw_tbl := by decide +kernel
theorem inJ9 : ∀ w ∈ wsJ90, w ∈ lw_tbl := by decide +kernel
theorem inJ0 : ∀ w ∈ wsJ00, w ∈ lw_tbl := by decide +kernel
theorem inJ1 : ∀ w ∈ wsJ10, w ∈ lw_tbl := by decide +kernel
theorem inJ2 : ∀ w ∈ wsJ20, w ∈ lw_tbl := by decide +kernel
theorem inJ10 : ∀ w ∈ wsJ100, w ∈ lw_tbl := by decide +kernel
theorem inJ3 : ∀ w ∈ wsJ30, w ∈ lw_tbl := by decide +kernel
