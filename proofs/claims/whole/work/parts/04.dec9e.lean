theorem dX9_character_108 : decode cX9_character 108 = .ok (.iadd, 1) := by decide +kernel
theorem dX9_character_109 : decode cX9_character 109 = .ok (.aload_n 0, 1) := by decide +kernel
theorem dX9_character_110 : decode cX9_character 110 = .ok (.iload_n 1, 1) := by decide +kernel
theorem dX9_character_111 : decode cX9_character 111 = .ok (.iconst 0, 1) := by decide +kernel
theorem dX9_character_112 : decode cX9_character 112 = .ok (.invokevirtual 154, 3) := by decide +kernel
theorem dX9_character_115 : decode cX9_character 115 = .ok (.if_icmp .ge 6, 3) := by decide +kernel
theorem dX9_character_118 : decode cX9_character 118 = .ok (.bipush 44, 2) := by decide +kernel
theorem dX9_character_120 : decode cX9_character 120 = .ok (.ireturn, 1) := by decide +kernel
theorem dX9_character_121 : decode cX9_character 121 = .ok (.iinc 3 (-1), 3) := by decide +kernel
theorem dX9_character_124 : decode cX9_character 124 = .ok (.iinc 4 1, 3) := by decide +kernel
theorem dX9_character_127 : decode cX9_character 127 = .ok (.goto (-122), 3) := by decide +kernel
theorem dX9_character_130 : decode cX9_character 130 = .ok (.iconst (-1), 1) := by decide +kernel
theorem dX9_character_131 : decode cX9_character 131 = .ok (.ireturn, 1) := by decide +kernel
set_option maxRecDepth 20000 in
theorem ggX9_told_X9_in : GoodIn wsX9_told wsX9_in := goodIn_r _ [5] rfl (by decide +kernel)
set_option maxRecDepth 20000 in
theorem gX9_told_X9_in : GoodIn wsX9_told (va_wsS RX9 35 yX9_in wsX9_in) := goodIn_app (goodIn_of _ (by decide +kernel)) ggX9_told_X9_in
set_option maxRecDepth 20000 in
theorem ggX9_told_X9_refused : GoodIn wsX9_told wsX9_refused := goodIn_r _ [9, 10, 19, 20, 21, 22, 23, 24, 25, 26, 27, 28, 29, 30, 31, 32, 33, 34, 35, 36, 37, 38, 39, 40] rfl (by decide +kernel)
set_option maxRecDepth 20000 in
theorem gX9_told_X9_refused : GoodIn wsX9_told (wsV RX9 53 RX9 yX9_refused wsX9_refused) := goodIn_app (goodIn_of _ (by decide +kernel)) ggX9_told_X9_refused
set_option maxRecDepth 20000 in
theorem ggX9_told_X9_character : GoodIn wsX9_told wsX9_character := goodIn_r _ [14, 15, 16, 17, 4, 18, 1, 19, 20, 21, 22, 23, 24, 25, 26, 27, 28, 29, 30, 31, 32, 33, 34, 35, 36, 37, 38, 39, 40] rfl (by decide +kernel)
set_option maxRecDepth 20000 in
theorem gX9_told_X9_character : GoodIn wsX9_told (wsV RX9 157 RX9 yX9_character wsX9_character) := goodIn_app (goodIn_of _ (by decide +kernel)) ggX9_told_X9_character
theorem dX9_told_0 : decode cX9_told 0 = .ok (.aload_n 0, 1) := by decide +kernel
theorem dX9_told_1 : decode cX9_told 1 = .ok (.iload_n 1, 1) := by decide +kernel
theorem dX9_told_2 : decode cX9_told 2 = .ok (.iconst 0, 1) := by decide +kernel
theorem dX9_told_3 : decode cX9_told 3 = .ok (.iconst 5, 1) := by decide +kernel
theorem dX9_told_4 : decode cX9_told 4 = .ok (.invokestatic 35, 3) := by decide +kernel
theorem dX9_told_7 : decode cX9_told 7 = .ok (.ifCond .eq 11, 3) := by decide +kernel
theorem dX9_told_10 : decode cX9_told 10 = .ok (.iload_n 2, 1) := by decide +kernel
theorem dX9_told_11 : decode cX9_told 11 = .ok (.ifCond .lt 7, 3) := by decide +kernel
theorem dX9_told_14 : decode cX9_told 14 = .ok (.iconst 0, 1) := by decide +kernel
theorem dX9_told_15 : decode cX9_told 15 = .ok (.goto 4, 3) := by decide +kernel
theorem dX9_told_18 : decode cX9_told 18 = .ok (.iconst 1, 1) := by decide +kernel
theorem dX9_told_19 : decode cX9_told 19 = .ok (.invokevirtual 53, 3) := by decide +kernel
theorem dX9_told_22 : decode cX9_told 22 = .ok (.ifCond .eq 5, 3) := by decide +kernel
theorem dX9_told_25 : decode cX9_told 25 = .ok (.iconst 0, 1) := by decide +kernel
theorem dX9_told_26 : decode cX9_told 26 = .ok (.ireturn, 1) := by decide +kernel
theorem dX9_told_27 : decode cX9_told 27 = .ok (.iload_n 1, 1) := by decide +kernel
theorem dX9_told_28 : decode cX9_told 28 = .ok (.aload_n 0, 1) := by decide +kernel
theorem dX9_told_29 : decode cX9_told 29 = .ok (.getfield 7, 3) := by decide +kernel
theorem dX9_told_32 : decode cX9_told 32 = .ok (.sipush 408, 3) := by decide +kernel
theorem dX9_told_35 : decode cX9_told 35 = .ok (.iaload, 1) := by decide +kernel
theorem dX9_told_36 : decode cX9_told 36 = .ok (.if_icmp .ge 12, 3) := by decide +kernel
theorem dX9_told_39 : decode cX9_told 39 = .ok (.aload_n 0, 1) := by decide +kernel
theorem dX9_told_40 : decode cX9_told 40 = .ok (.iload_n 1, 1) := by decide +kernel
theorem dX9_told_41 : decode cX9_told 41 = .ok (.iload_n 2, 1) := by decide +kernel
theorem dX9_told_42 : decode cX9_told 42 = .ok (.invokevirtual 157, 3) := by decide +kernel
theorem dX9_told_45 : decode cX9_told 45 = .ok (.goto 4, 3) := by decide +kernel
theorem dX9_told_48 : decode cX9_told 48 = .ok (.iconst (-1), 1) := by decide +kernel
theorem dX9_told_49 : decode cX9_told 49 = .ok (.ireturn, 1) := by decide +kernel
set_option maxRecDepth 20000 in
theorem ggX9_undo_X9_refused : GoodIn wsX9_undo wsX9_refused := goodIn_r _ [8, 9, 10, 11, 12, 13, 14, 15, 16, 17, 18, 19, 20, 21, 22, 23, 24, 25, 26, 27, 28, 29, 30, 31] rfl (by decide +kernel)
set_option maxRecDepth 20000 in
theorem gX9_undo_X9_refused : GoodIn wsX9_undo (wsV RX9 53 RX9 yX9_refused wsX9_refused) := goodIn_app (goodIn_of _ (by decide +kernel)) ggX9_undo_X9_refused
theorem dX9_undo_0 : decode cX9_undo 0 = .ok (.aload_n 0, 1) := by decide +kernel
theorem dX9_undo_1 : decode cX9_undo 1 = .ok (.aload_n 0, 1) := by decide +kernel
theorem dX9_undo_2 : decode cX9_undo 2 = .ok (.getfield 39, 3) := by decide +kernel
theorem dX9_undo_5 : decode cX9_undo 5 = .ok (.ifCond .ne 7, 3) := by decide +kernel
theorem dX9_undo_8 : decode cX9_undo 8 = .ok (.iconst 1, 1) := by decide +kernel
theorem dX9_undo_9 : decode cX9_undo 9 = .ok (.goto 4, 3) := by decide +kernel
theorem dX9_undo_12 : decode cX9_undo 12 = .ok (.iconst 0, 1) := by decide +kernel
theorem dX9_undo_13 : decode cX9_undo 13 = .ok (.invokevirtual 53, 3) := by decide +kernel
theorem dX9_undo_16 : decode cX9_undo 16 = .ok (.ifCond .eq 5, 3) := by decide +kernel
theorem dX9_undo_19 : decode cX9_undo 19 = .ok (.iconst 0, 1) := by decide +kernel
theorem dX9_undo_20 : decode cX9_undo 20 = .ok (.ireturn, 1) := by decide +kernel
theorem dX9_undo_21 : decode cX9_undo 21 = .ok (.aload_n 0, 1) := by decide +kernel
theorem dX9_undo_22 : decode cX9_undo 22 = .ok (.dup, 1) := by decide +kernel
theorem dX9_undo_23 : decode cX9_undo 23 = .ok (.getfield 39, 3) := by decide +kernel
theorem dX9_undo_26 : decode cX9_undo 26 = .ok (.iconst 1, 1) := by decide +kernel
theorem dX9_undo_27 : decode cX9_undo 27 = .ok (.isub, 1) := by decide +kernel
theorem dX9_undo_28 : decode cX9_undo 28 = .ok (.putfield 39, 3) := by decide +kernel
theorem dX9_undo_31 : decode cX9_undo 31 = .ok (.iconst 0, 1) := by decide +kernel
theorem dX9_undo_32 : decode cX9_undo 32 = .ok (.istore_n 1, 1) := by decide +kernel
theorem dX9_undo_33 : decode cX9_undo 33 = .ok (.iload_n 1, 1) := by decide +kernel
theorem dX9_undo_34 : decode cX9_undo 34 = .ok (.sipush 460, 3) := by decide +kernel
theorem dX9_undo_37 : decode cX9_undo 37 = .ok (.if_icmp .ge 30, 3) := by decide +kernel
theorem dX9_undo_40 : decode cX9_undo 40 = .ok (.aload_n 0, 1) := by decide +kernel
theorem dX9_undo_41 : decode cX9_undo 41 = .ok (.getfield 7, 3) := by decide +kernel
theorem dX9_undo_44 : decode cX9_undo 44 = .ok (.iload_n 1, 1) := by decide +kernel
theorem dX9_undo_45 : decode cX9_undo 45 = .ok (.aload_n 0, 1) := by decide +kernel
theorem dX9_undo_46 : decode cX9_undo 46 = .ok (.getfield 13, 3) := by decide +kernel
theorem dX9_undo_49 : decode cX9_undo 49 = .ok (.sipush 460, 3) := by decide +kernel
theorem dX9_undo_52 : decode cX9_undo 52 = .ok (.aload_n 0, 1) := by decide +kernel
theorem dX9_undo_53 : decode cX9_undo 53 = .ok (.getfield 39, 3) := by decide +kernel
theorem dX9_undo_56 : decode cX9_undo 56 = .ok (.imul, 1) := by decide +kernel
theorem dX9_undo_57 : decode cX9_undo 57 = .ok (.iload_n 1, 1) := by decide +kernel
theorem dX9_undo_58 : decode cX9_undo 58 = .ok (.iadd, 1) := by decide +kernel
theorem dX9_undo_59 : decode cX9_undo 59 = .ok (.iaload, 1) := by decide +kernel
theorem dX9_undo_60 : decode cX9_undo 60 = .ok (.iastore, 1) := by decide +kernel
theorem dX9_undo_61 : decode cX9_undo 61 = .ok (.iinc 1 1, 3) := by decide +kernel
theorem dX9_undo_64 : decode cX9_undo 64 = .ok (.goto (-31), 3) := by decide +kernel
theorem dX9_undo_67 : decode cX9_undo 67 = .ok (.aload_n 0, 1) := by decide +kernel
theorem dX9_undo_68 : decode cX9_undo 68 = .ok (.getfield 39, 3) := by decide +kernel
theorem dX9_undo_71 : decode cX9_undo 71 = .ok (.ireturn, 1) := by decide +kernel
theorem dX9_keep_0 : decode cX9_keep 0 = .ok (.aload_n 0, 1) := by decide +kernel
theorem dX9_keep_1 : decode cX9_keep 1 = .ok (.iconst 0, 1) := by decide +kernel
theorem dX9_keep_2 : decode cX9_keep 2 = .ok (.putfield 31, 3) := by decide +kernel
theorem dX9_keep_5 : decode cX9_keep 5 = .ok (.iconst 0, 1) := by decide +kernel
theorem dX9_keep_6 : decode cX9_keep 6 = .ok (.istore_n 1, 1) := by decide +kernel
theorem dX9_keep_7 : decode cX9_keep 7 = .ok (.iload_n 1, 1) := by decide +kernel
theorem dX9_keep_8 : decode cX9_keep 8 = .ok (.sipush 460, 3) := by decide +kernel
theorem dX9_keep_11 : decode cX9_keep 11 = .ok (.if_icmp .ge 21, 3) := by decide +kernel
theorem dX9_keep_14 : decode cX9_keep 14 = .ok (.aload_n 0, 1) := by decide +kernel
theorem dX9_keep_15 : decode cX9_keep 15 = .ok (.getfield 16, 3) := by decide +kernel
theorem dX9_keep_18 : decode cX9_keep 18 = .ok (.iload_n 1, 1) := by decide +kernel
theorem dX9_keep_19 : decode cX9_keep 19 = .ok (.aload_n 0, 1) := by decide +kernel
theorem dX9_keep_20 : decode cX9_keep 20 = .ok (.getfield 7, 3) := by decide +kernel
theorem dX9_keep_23 : decode cX9_keep 23 = .ok (.iload_n 1, 1) := by decide +kernel
theorem dX9_keep_24 : decode cX9_keep 24 = .ok (.iaload, 1) := by decide +kernel
theorem dX9_keep_25 : decode cX9_keep 25 = .ok (.iastore, 1) := by decide +kernel
theorem dX9_keep_26 : decode cX9_keep 26 = .ok (.iinc 1 1, 3) := by decide +kernel
theorem dX9_keep_29 : decode cX9_keep 29 = .ok (.goto (-22), 3) := by decide +kernel
theorem dX9_keep_32 : decode cX9_keep 32 = .ok (.aload_n 0, 1) := by decide +kernel
theorem dX9_keep_33 : decode cX9_keep 33 = .ok (.iconst 1, 1) := by decide +kernel
theorem dX9_keep_34 : decode cX9_keep 34 = .ok (.putfield 160, 3) := by decide +kernel
theorem dX9_keep_37 : decode cX9_keep 37 = .ok (.aload_n 0, 1) := by decide +kernel
theorem dX9_keep_38 : decode cX9_keep 38 = .ok (.getfield 7, 3) := by decide +kernel
theorem dX9_keep_41 : decode cX9_keep 41 = .ok (.sipush 304, 3) := by decide +kernel
theorem dX9_keep_44 : decode cX9_keep 44 = .ok (.iaload, 1) := by decide +kernel
theorem dX9_keep_45 : decode cX9_keep 45 = .ok (.ireturn, 1) := by decide +kernel
set_option maxRecDepth 20000 in
theorem ggX9_restore_X9_refused : GoodIn wsX9_restore wsX9_refused := goodIn_r _ [8, 9, 16, 17, 18, 19, 20, 21, 22, 23, 24, 25, 26, 27, 28, 29, 30, 31, 32, 33, 34, 35, 36, 37] rfl (by decide +kernel)
set_option maxRecDepth 20000 in
theorem gX9_restore_X9_refused : GoodIn wsX9_restore (wsV RX9 53 RX9 yX9_refused wsX9_refused) := goodIn_app (goodIn_of _ (by decide +kernel)) ggX9_restore_X9_refused
set_option maxRecDepth 20000 in
theorem ggX9_restore_X9_saves : GoodIn wsX9_restore wsX9_saves := goodIn_r _ [13, 14, 15, 2, 16, 17, 18, 19, 20, 21, 22, 23, 24, 25, 26, 27, 28, 29, 30, 31, 32, 33, 34, 35, 36, 37] rfl (by decide +kernel)
set_option maxRecDepth 20000 in
theorem gX9_restore_X9_saves : GoodIn wsX9_restore (wsV RX9 56 RX9 yX9_saves wsX9_saves) := goodIn_app (goodIn_of _ (by decide +kernel)) ggX9_restore_X9_saves
theorem dX9_restore_0 : decode cX9_restore 0 = .ok (.aload_n 0, 1) := by decide +kernel
theorem dX9_restore_1 : decode cX9_restore 1 = .ok (.aload_n 0, 1) := by decide +kernel
theorem dX9_restore_2 : decode cX9_restore 2 = .ok (.getfield 160, 3) := by decide +kernel
theorem dX9_restore_5 : decode cX9_restore 5 = .ok (.ifCond .eq 7, 3) := by decide +kernel
theorem dX9_restore_8 : decode cX9_restore 8 = .ok (.iconst 0, 1) := by decide +kernel
theorem dX9_restore_9 : decode cX9_restore 9 = .ok (.goto 4, 3) := by decide +kernel
theorem dX9_restore_12 : decode cX9_restore 12 = .ok (.iconst 1, 1) := by decide +kernel
theorem dX9_restore_13 : decode cX9_restore 13 = .ok (.invokevirtual 53, 3) := by decide +kernel
theorem dX9_restore_16 : decode cX9_restore 16 = .ok (.ifCond .eq 5, 3) := by decide +kernel
theorem dX9_restore_19 : decode cX9_restore 19 = .ok (.iconst 0, 1) := by decide +kernel
theorem dX9_restore_20 : decode cX9_restore 20 = .ok (.ireturn, 1) := by decide +kernel
theorem dX9_restore_21 : decode cX9_restore 21 = .ok (.aload_n 0, 1) := by decide +kernel
theorem dX9_restore_22 : decode cX9_restore 22 = .ok (.invokevirtual 56, 3) := by decide +kernel
theorem dX9_restore_25 : decode cX9_restore 25 = .ok (.iconst 0, 1) := by decide +kernel
theorem dX9_restore_26 : decode cX9_restore 26 = .ok (.istore_n 1, 1) := by decide +kernel
theorem dX9_restore_27 : decode cX9_restore 27 = .ok (.iload_n 1, 1) := by decide +kernel
theorem dX9_restore_28 : decode cX9_restore 28 = .ok (.sipush 460, 3) := by decide +kernel
theorem dX9_restore_31 : decode cX9_restore 31 = .ok (.if_icmp .ge 21, 3) := by decide +kernel
theorem dX9_restore_34 : decode cX9_restore 34 = .ok (.aload_n 0, 1) := by decide +kernel
theorem dX9_restore_35 : decode cX9_restore 35 = .ok (.getfield 7, 3) := by decide +kernel
theorem dX9_restore_38 : decode cX9_restore 38 = .ok (.iload_n 1, 1) := by decide +kernel
theorem dX9_restore_39 : decode cX9_restore 39 = .ok (.aload_n 0, 1) := by decide +kernel
theorem dX9_restore_40 : decode cX9_restore 40 = .ok (.getfield 16, 3) := by decide +kernel
theorem dX9_restore_43 : decode cX9_restore 43 = .ok (.iload_n 1, 1) := by decide +kernel
theorem dX9_restore_44 : decode cX9_restore 44 = .ok (.iaload, 1) := by decide +kernel
theorem dX9_restore_45 : decode cX9_restore 45 = .ok (.iastore, 1) := by decide +kernel
theorem dX9_restore_46 : decode cX9_restore 46 = .ok (.iinc 1 1, 3) := by decide +kernel
theorem dX9_restore_49 : decode cX9_restore 49 = .ok (.goto (-22), 3) := by decide +kernel
theorem dX9_restore_52 : decode cX9_restore 52 = .ok (.aload_n 0, 1) := by decide +kernel
theorem dX9_restore_53 : decode cX9_restore 53 = .ok (.getfield 7, 3) := by decide +kernel
theorem dX9_restore_56 : decode cX9_restore 56 = .ok (.sipush 304, 3) := by decide +kernel
theorem dX9_restore_59 : decode cX9_restore 59 = .ok (.iaload, 1) := by decide +kernel
theorem dX9_restore_60 : decode cX9_restore 60 = .ok (.ireturn, 1) := by decide +kernel
set_option maxRecDepth 20000 in
theorem ggX9_meanings_X9_meant : GoodIn wsX9_meanings wsX9_meant := goodIn_r _ [5, 6, 11, 12, 13, 14, 15, 16, 17, 18, 19, 20, 21, 22, 23, 24, 25, 26, 27, 28, 29, 30, 31, 32] rfl (by decide +kernel)
set_option maxRecDepth 20000 in
theorem gX9_meanings_X9_meant : GoodIn wsX9_meanings (wsV RX9 42 RX9 yX9_meant wsX9_meant) := goodIn_app (goodIn_of _ (by decide +kernel)) ggX9_meanings_X9_meant
set_option maxRecDepth 20000 in
theorem ggX9_meanings_X9_lowest : GoodIn wsX9_meanings wsX9_lowest := goodIn_r _ [10, 1, 2, 3, 4, 5, 6, 11, 12, 13, 14, 15, 16, 17, 18, 19, 20, 21, 22, 23, 24, 25, 26, 27, 28, 29, 30, 31, 32] rfl (by decide +kernel)
set_option maxRecDepth 20000 in
theorem gX9_meanings_X9_lowest : GoodIn wsX9_meanings (wsV RX9 73 RX9 yX9_lowest wsX9_lowest) := goodIn_app (goodIn_of _ (by decide +kernel)) ggX9_meanings_X9_lowest
theorem dX9_meanings_0 : decode cX9_meanings 0 = .ok (.aload_n 0, 1) := by decide +kernel
theorem dX9_meanings_1 : decode cX9_meanings 1 = .ok (.iload_n 1, 1) := by decide +kernel
theorem dX9_meanings_2 : decode cX9_meanings 2 = .ok (.iload_n 2, 1) := by decide +kernel
theorem dX9_meanings_3 : decode cX9_meanings 3 = .ok (.invokevirtual 42, 3) := by decide +kernel
theorem dX9_meanings_6 : decode cX9_meanings 6 = .ok (.istore 4, 2) := by decide +kernel
theorem dX9_meanings_8 : decode cX9_meanings 8 = .ok (.iload_n 3, 1) := by decide +kernel
theorem dX9_meanings_9 : decode cX9_meanings 9 = .ok (.ifCond .ne 8, 3) := by decide +kernel
theorem dX9_meanings_12 : decode cX9_meanings 12 = .ok (.iload 4, 2) := by decide +kernel
theorem dX9_meanings_14 : decode cX9_meanings 14 = .ok (.goto 35, 3) := by decide +kernel
theorem dX9_meanings_17 : decode cX9_meanings 17 = .ok (.iload_n 3, 1) := by decide +kernel
theorem dX9_meanings_18 : decode cX9_meanings 18 = .ok (.iconst 2, 1) := by decide +kernel
theorem dX9_meanings_19 : decode cX9_meanings 19 = .ok (.if_icmp .ne 12, 3) := by decide +kernel
theorem dX9_meanings_22 : decode cX9_meanings 22 = .ok (.aload_n 0, 1) := by decide +kernel
theorem dX9_meanings_23 : decode cX9_meanings 23 = .ok (.iload_n 1, 1) := by decide +kernel
theorem dX9_meanings_24 : decode cX9_meanings 24 = .ok (.iload_n 2, 1) := by decide +kernel
theorem dX9_meanings_25 : decode cX9_meanings 25 = .ok (.invokevirtual 73, 3) := by decide +kernel
theorem dX9_meanings_28 : decode cX9_meanings 28 = .ok (.goto 21, 3) := by decide +kernel
theorem dX9_meanings_31 : decode cX9_meanings 31 = .ok (.iload 4, 2) := by decide +kernel
theorem dX9_meanings_33 : decode cX9_meanings 33 = .ok (.iconst (-1), 1) := by decide +kernel
theorem dX9_meanings_34 : decode cX9_meanings 34 = .ok (.if_icmp .ne 8, 3) := by decide +kernel
theorem dX9_meanings_37 : decode cX9_meanings 37 = .ok (.bipush 30, 2) := by decide +kernel
theorem dX9_meanings_39 : decode cX9_meanings 39 = .ok (.goto 10, 3) := by decide +kernel
theorem dX9_meanings_42 : decode cX9_meanings 42 = .ok (.aload_n 0, 1) := by decide +kernel
theorem dX9_meanings_43 : decode cX9_meanings 43 = .ok (.iload_n 1, 1) := by decide +kernel
theorem dX9_meanings_44 : decode cX9_meanings 44 = .ok (.iload 4, 2) := by decide +kernel
theorem dX9_meanings_46 : decode cX9_meanings 46 = .ok (.invokevirtual 73, 3) := by decide +kernel
theorem dX9_meanings_49 : decode cX9_meanings 49 = .ok (.ireturn, 1) := by decide +kernel
set_option maxRecDepth 20000 in
theorem ggX9_meaning_X9_isLink : GoodIn wsX9_meaning wsX9_isLink := goodIn_r _ [4, 5, 6, 3, 7] rfl (by decide +kernel)
set_option maxRecDepth 20000 in
theorem gX9_meaning_X9_isLink : GoodIn wsX9_meaning (va_wsS RX9 46 yX9_isLink wsX9_isLink) := goodIn_app (goodIn_of _ (by decide +kernel)) ggX9_meaning_X9_isLink
set_option maxRecDepth 20000 in
theorem ggX9_meaning_X9_isWord : GoodIn wsX9_meaning wsX9_isWord := goodIn_r _ [10, 5, 6, 3, 7] rfl (by decide +kernel)
set_option maxRecDepth 20000 in
theorem gX9_meaning_X9_isWord : GoodIn wsX9_meaning (va_wsS RX9 50 yX9_isWord wsX9_isWord) := goodIn_app (goodIn_of _ (by decide +kernel)) ggX9_meaning_X9_isWord
set_option maxRecDepth 20000 in
theorem ggX9_meaning_X9_in : GoodIn wsX9_meaning wsX9_in := goodIn_r _ [7] rfl (by decide +kernel)
set_option maxRecDepth 20000 in
theorem gX9_meaning_X9_in : GoodIn wsX9_meaning (va_wsS RX9 35 yX9_in wsX9_in) := goodIn_app (goodIn_of _ (by decide +kernel)) ggX9_meaning_X9_in
set_option maxRecDepth 20000 in
theorem ggX9_meaning_X9_refused : GoodIn wsX9_meaning wsX9_refused := goodIn_r _ [14, 15, 29, 30, 31, 32, 33, 34, 35, 36, 37, 38, 39, 40, 41, 42, 43, 44, 45, 46, 47, 48, 49, 50] rfl (by decide +kernel)
set_option maxRecDepth 20000 in
theorem gX9_meaning_X9_refused : GoodIn wsX9_meaning (wsV RX9 53 RX9 yX9_refused wsX9_refused) := goodIn_app (goodIn_of _ (by decide +kernel)) ggX9_meaning_X9_refused
set_option maxRecDepth 20000 in
theorem ggX9_meaning_X9_meanings : GoodIn wsX9_meaning wsX9_meanings := goodIn_r _ [19, 20, 21, 22, 3, 23, 24, 25, 26, 27, 28, 29, 30, 31, 32, 33, 34, 35, 36, 37, 38, 39, 40, 41, 42, 43, 44, 45, 46, 47, 48, 49, 50] rfl (by decide +kernel)
set_option maxRecDepth 20000 in
theorem gX9_meaning_X9_meanings : GoodIn wsX9_meaning (wsV RX9 163 RX9 yX9_meanings wsX9_meanings) := goodIn_app (goodIn_of _ (by decide +kernel)) ggX9_meaning_X9_meanings
theorem dX9_meaning_0 : decode cX9_meaning 0 = .ok (.aload_n 0, 1) := by decide +kernel
theorem dX9_meaning_1 : decode cX9_meaning 1 = .ok (.iload_n 1, 1) := by decide +kernel
theorem dX9_meaning_2 : decode cX9_meaning 2 = .ok (.invokestatic 46, 3) := by decide +kernel
theorem dX9_meaning_5 : decode cX9_meaning 5 = .ok (.ifCond .ne 7, 3) := by decide +kernel
theorem dX9_meaning_8 : decode cX9_meaning 8 = .ok (.iconst 1, 1) := by decide +kernel
theorem dX9_meaning_9 : decode cX9_meaning 9 = .ok (.goto 24, 3) := by decide +kernel
theorem dX9_meaning_12 : decode cX9_meaning 12 = .ok (.iload_n 2, 1) := by decide +kernel
theorem dX9_meaning_13 : decode cX9_meaning 13 = .ok (.invokestatic 50, 3) := by decide +kernel
theorem dX9_meaning_16 : decode cX9_meaning 16 = .ok (.ifCond .eq 16, 3) := by decide +kernel
theorem dX9_meaning_19 : decode cX9_meaning 19 = .ok (.iload_n 3, 1) := by decide +kernel
theorem dX9_meaning_20 : decode cX9_meaning 20 = .ok (.iconst 0, 1) := by decide +kernel
theorem dX9_meaning_21 : decode cX9_meaning 21 = .ok (.iconst 2, 1) := by decide +kernel
theorem dX9_meaning_22 : decode cX9_meaning 22 = .ok (.invokestatic 35, 3) := by decide +kernel
theorem dX9_meaning_25 : decode cX9_meaning 25 = .ok (.ifCond .eq 7, 3) := by decide +kernel
theorem dX9_meaning_28 : decode cX9_meaning 28 = .ok (.iconst 0, 1) := by decide +kernel
theorem dX9_meaning_29 : decode cX9_meaning 29 = .ok (.goto 4, 3) := by decide +kernel
theorem dX9_meaning_32 : decode cX9_meaning 32 = .ok (.iconst 2, 1) := by decide +kernel
theorem dX9_meaning_33 : decode cX9_meaning 33 = .ok (.invokevirtual 53, 3) := by decide +kernel
theorem dX9_meaning_36 : decode cX9_meaning 36 = .ok (.ifCond .eq 5, 3) := by decide +kernel
theorem dX9_meaning_39 : decode cX9_meaning 39 = .ok (.iconst 0, 1) := by decide +kernel
theorem dX9_meaning_40 : decode cX9_meaning 40 = .ok (.ireturn, 1) := by decide +kernel
theorem dX9_meaning_41 : decode cX9_meaning 41 = .ok (.aload_n 0, 1) := by decide +kernel
theorem dX9_meaning_42 : decode cX9_meaning 42 = .ok (.iload_n 1, 1) := by decide +kernel
theorem dX9_meaning_43 : decode cX9_meaning 43 = .ok (.iload_n 2, 1) := by decide +kernel
theorem dX9_meaning_44 : decode cX9_meaning 44 = .ok (.iload_n 3, 1) := by decide +kernel
theorem dX9_meaning_45 : decode cX9_meaning 45 = .ok (.invokevirtual 163, 3) := by decide +kernel
theorem dX9_meaning_48 : decode cX9_meaning 48 = .ok (.ireturn, 1) := by decide +kernel
set_option maxRecDepth 20000 in
theorem ggX9_without_X9_meant : GoodIn wsX9_without wsX9_meant := goodIn_r _ [5, 6, 7, 8, 9, 10, 11, 12, 13, 14, 15, 16, 17, 18, 19, 20, 21, 22, 23, 24, 25, 26, 27, 28] rfl (by decide +kernel)
set_option maxRecDepth 20000 in
theorem gX9_without_X9_meant : GoodIn wsX9_without (wsV RX9 42 RX9 yX9_meant wsX9_meant) := goodIn_app (goodIn_of _ (by decide +kernel)) ggX9_without_X9_meant
theorem dX9_without_0 : decode cX9_without 0 = .ok (.iconst 0, 1) := by decide +kernel
theorem dX9_without_1 : decode cX9_without 1 = .ok (.istore_n 2, 1) := by decide +kernel
theorem dX9_without_2 : decode cX9_without 2 = .ok (.iconst 0, 1) := by decide +kernel
theorem dX9_without_3 : decode cX9_without 3 = .ok (.istore_n 3, 1) := by decide +kernel
theorem dX9_without_4 : decode cX9_without 4 = .ok (.iload_n 3, 1) := by decide +kernel
theorem dX9_without_5 : decode cX9_without 5 = .ok (.bipush 30, 2) := by decide +kernel
theorem dX9_without_7 : decode cX9_without 7 = .ok (.if_icmp .ge 27, 3) := by decide +kernel
theorem dX9_without_10 : decode cX9_without 10 = .ok (.iload_n 2, 1) := by decide +kernel
theorem dX9_without_11 : decode cX9_without 11 = .ok (.aload_n 0, 1) := by decide +kernel
theorem dX9_without_12 : decode cX9_without 12 = .ok (.iload_n 1, 1) := by decide +kernel
theorem dX9_without_13 : decode cX9_without 13 = .ok (.iload_n 3, 1) := by decide +kernel
theorem dX9_without_14 : decode cX9_without 14 = .ok (.invokevirtual 42, 3) := by decide +kernel
theorem dX9_without_17 : decode cX9_without 17 = .ok (.iconst (-1), 1) := by decide +kernel
theorem dX9_without_18 : decode cX9_without 18 = .ok (.if_icmp .ne 7, 3) := by decide +kernel
theorem dX9_without_21 : decode cX9_without 21 = .ok (.iconst 1, 1) := by decide +kernel
theorem dX9_without_22 : decode cX9_without 22 = .ok (.goto 4, 3) := by decide +kernel
theorem dX9_without_25 : decode cX9_without 25 = .ok (.iconst 0, 1) := by decide +kernel
theorem dX9_without_26 : decode cX9_without 26 = .ok (.iadd, 1) := by decide +kernel
theorem dX9_without_27 : decode cX9_without 27 = .ok (.istore_n 2, 1) := by decide +kernel
theorem dX9_without_28 : decode cX9_without 28 = .ok (.iinc 3 1, 3) := by decide +kernel
theorem dX9_without_31 : decode cX9_without 31 = .ok (.goto (-27), 3) := by decide +kernel
theorem dX9_without_34 : decode cX9_without 34 = .ok (.iload_n 2, 1) := by decide +kernel
theorem dX9_without_35 : decode cX9_without 35 = .ok (.ireturn, 1) := by decide +kernel
set_option maxRecDepth 20000 in
theorem ggX9_doubled_X9_meant : GoodIn wsX9_doubled wsX9_meant := goodIn_r _ [5, 6, 11, 12, 13, 14, 15, 16, 17, 18, 19, 20, 21, 22, 23, 24, 25, 26, 27, 28, 29, 30, 31, 32] rfl (by decide +kernel)
set_option maxRecDepth 20000 in
theorem gX9_doubled_X9_meant : GoodIn wsX9_doubled (wsV RX9 42 RX9 yX9_meant wsX9_meant) := goodIn_app (goodIn_of _ (by decide +kernel)) ggX9_doubled_X9_meant
set_option maxRecDepth 20000 in
theorem ggX9_doubled_X9_lowest : GoodIn wsX9_doubled wsX9_lowest := goodIn_r _ [10, 1, 2, 3, 4, 5, 6, 11, 12, 13, 14, 15, 16, 17, 18, 19, 20, 21, 22, 23, 24, 25, 26, 27, 28, 29, 30, 31, 32] rfl (by decide +kernel)
set_option maxRecDepth 20000 in
theorem gX9_doubled_X9_lowest : GoodIn wsX9_doubled (wsV RX9 73 RX9 yX9_lowest wsX9_lowest) := goodIn_app (goodIn_of _ (by decide +kernel)) ggX9_doubled_X9_lowest
theorem dX9_doubled_0 : decode cX9_doubled 0 = .ok (.iconst 0, 1) := by decide +kernel
theorem dX9_doubled_1 : decode cX9_doubled 1 = .ok (.istore_n 2, 1) := by decide +kernel
theorem dX9_doubled_2 : decode cX9_doubled 2 = .ok (.iconst 0, 1) := by decide +kernel
theorem dX9_doubled_3 : decode cX9_doubled 3 = .ok (.istore_n 3, 1) := by decide +kernel
theorem dX9_doubled_4 : decode cX9_doubled 4 = .ok (.iload_n 3, 1) := by decide +kernel
theorem dX9_doubled_5 : decode cX9_doubled 5 = .ok (.bipush 30, 2) := by decide +kernel
theorem dX9_doubled_7 : decode cX9_doubled 7 = .ok (.if_icmp .ge 42, 3) := by decide +kernel
theorem dX9_doubled_10 : decode cX9_doubled 10 = .ok (.iload_n 2, 1) := by decide +kernel
theorem dX9_doubled_11 : decode cX9_doubled 11 = .ok (.aload_n 0, 1) := by decide +kernel
theorem dX9_doubled_12 : decode cX9_doubled 12 = .ok (.iload_n 1, 1) := by decide +kernel
theorem dX9_doubled_13 : decode cX9_doubled 13 = .ok (.iload_n 3, 1) := by decide +kernel
theorem dX9_doubled_14 : decode cX9_doubled 14 = .ok (.invokevirtual 42, 3) := by decide +kernel
theorem dX9_doubled_17 : decode cX9_doubled 17 = .ok (.iconst (-1), 1) := by decide +kernel
theorem dX9_doubled_18 : decode cX9_doubled 18 = .ok (.if_icmp .eq 22, 3) := by decide +kernel
theorem dX9_doubled_21 : decode cX9_doubled 21 = .ok (.aload_n 0, 1) := by decide +kernel
theorem dX9_doubled_22 : decode cX9_doubled 22 = .ok (.iload_n 1, 1) := by decide +kernel
theorem dX9_doubled_23 : decode cX9_doubled 23 = .ok (.aload_n 0, 1) := by decide +kernel
theorem dX9_doubled_24 : decode cX9_doubled 24 = .ok (.iload_n 1, 1) := by decide +kernel
theorem dX9_doubled_25 : decode cX9_doubled 25 = .ok (.iload_n 3, 1) := by decide +kernel
theorem dX9_doubled_26 : decode cX9_doubled 26 = .ok (.invokevirtual 42, 3) := by decide +kernel
theorem dX9_doubled_29 : decode cX9_doubled 29 = .ok (.invokevirtual 73, 3) := by decide +kernel
theorem dX9_doubled_32 : decode cX9_doubled 32 = .ok (.iload_n 3, 1) := by decide +kernel
theorem dX9_doubled_33 : decode cX9_doubled 33 = .ok (.if_icmp .ge 7, 3) := by decide +kernel
theorem dX9_doubled_36 : decode cX9_doubled 36 = .ok (.iconst 1, 1) := by decide +kernel
theorem dX9_doubled_37 : decode cX9_doubled 37 = .ok (.goto 4, 3) := by decide +kernel
theorem dX9_doubled_40 : decode cX9_doubled 40 = .ok (.iconst 0, 1) := by decide +kernel
theorem dX9_doubled_41 : decode cX9_doubled 41 = .ok (.iadd, 1) := by decide +kernel
theorem dX9_doubled_42 : decode cX9_doubled 42 = .ok (.istore_n 2, 1) := by decide +kernel
theorem dX9_doubled_43 : decode cX9_doubled 43 = .ok (.iinc 3 1, 3) := by decide +kernel
theorem dX9_doubled_46 : decode cX9_doubled 46 = .ok (.goto (-42), 3) := by decide +kernel
theorem dX9_doubled_49 : decode cX9_doubled 49 = .ok (.iload_n 2, 1) := by decide +kernel
theorem dX9_doubled_50 : decode cX9_doubled 50 = .ok (.ireturn, 1) := by decide +kernel
set_option maxRecDepth 20000 in
theorem ggX9_ofLink_X9_without : GoodIn wsX9_ofLink wsX9_without := goodIn_r _ [6, 7, 8, 9, 5, 10, 1, 19, 20, 21, 22, 23, 24, 25, 26, 27, 28, 29, 30, 31, 32, 33, 34, 35, 36, 37, 38, 39, 40] rfl (by decide +kernel)
set_option maxRecDepth 20000 in
theorem gX9_ofLink_X9_without : GoodIn wsX9_ofLink (wsV RX9 166 RX9 yX9_without wsX9_without) := goodIn_app (goodIn_of _ (by decide +kernel)) ggX9_ofLink_X9_without
set_option maxRecDepth 20000 in
theorem ggX9_ofLink_X9_doubled : GoodIn wsX9_ofLink wsX9_doubled := goodIn_r _ [14, 7, 8, 9, 5, 10, 1, 15, 16, 17, 18, 19, 20, 21, 22, 23, 24, 25, 26, 27, 28, 29, 30, 31, 32, 33, 34, 35, 36, 37, 38, 39, 40] rfl (by decide +kernel)
set_option maxRecDepth 20000 in
theorem gX9_ofLink_X9_doubled : GoodIn wsX9_ofLink (wsV RX9 169 RX9 yX9_doubled wsX9_doubled) := goodIn_app (goodIn_of _ (by decide +kernel)) ggX9_ofLink_X9_doubled
theorem dX9_ofLink_0 : decode cX9_ofLink 0 = .ok (.iload_n 2, 1) := by decide +kernel
theorem dX9_ofLink_1 : decode cX9_ofLink 1 = .ok (.tableswitch 95 0 5 #[39, 50, 61, 67, 73, 84], 39) := by decide +kernel
theorem dX9_ofLink_40 : decode cX9_ofLink 40 = .ok (.aload_n 0, 1) := by decide +kernel
theorem dX9_ofLink_41 : decode cX9_ofLink 41 = .ok (.getfield 7, 3) := by decide +kernel
theorem dX9_ofLink_44 : decode cX9_ofLink 44 = .ok (.sipush 180, 3) := by decide +kernel
theorem dX9_ofLink_47 : decode cX9_ofLink 47 = .ok (.iload_n 1, 1) := by decide +kernel
theorem dX9_ofLink_48 : decode cX9_ofLink 48 = .ok (.iadd, 1) := by decide +kernel
theorem dX9_ofLink_49 : decode cX9_ofLink 49 = .ok (.iaload, 1) := by decide +kernel
theorem dX9_ofLink_50 : decode cX9_ofLink 50 = .ok (.ireturn, 1) := by decide +kernel
theorem dX9_ofLink_51 : decode cX9_ofLink 51 = .ok (.aload_n 0, 1) := by decide +kernel
theorem dX9_ofLink_52 : decode cX9_ofLink 52 = .ok (.getfield 7, 3) := by decide +kernel
theorem dX9_ofLink_55 : decode cX9_ofLink 55 = .ok (.sipush 186, 3) := by decide +kernel
theorem dX9_ofLink_58 : decode cX9_ofLink 58 = .ok (.iload_n 1, 1) := by decide +kernel
theorem dX9_ofLink_59 : decode cX9_ofLink 59 = .ok (.iadd, 1) := by decide +kernel
theorem dX9_ofLink_60 : decode cX9_ofLink 60 = .ok (.iaload, 1) := by decide +kernel
theorem dX9_ofLink_61 : decode cX9_ofLink 61 = .ok (.ireturn, 1) := by decide +kernel
theorem dX9_ofLink_62 : decode cX9_ofLink 62 = .ok (.aload_n 0, 1) := by decide +kernel
theorem dX9_ofLink_63 : decode cX9_ofLink 63 = .ok (.iload_n 1, 1) := by decide +kernel
theorem dX9_ofLink_64 : decode cX9_ofLink 64 = .ok (.invokevirtual 166, 3) := by decide +kernel
theorem dX9_ofLink_67 : decode cX9_ofLink 67 = .ok (.ireturn, 1) := by decide +kernel
theorem dX9_ofLink_68 : decode cX9_ofLink 68 = .ok (.aload_n 0, 1) := by decide +kernel
theorem dX9_ofLink_69 : decode cX9_ofLink 69 = .ok (.iload_n 1, 1) := by decide +kernel
theorem dX9_ofLink_70 : decode cX9_ofLink 70 = .ok (.invokevirtual 169, 3) := by decide +kernel
theorem dX9_ofLink_73 : decode cX9_ofLink 73 = .ok (.ireturn, 1) := by decide +kernel
theorem dX9_ofLink_74 : decode cX9_ofLink 74 = .ok (.aload_n 0, 1) := by decide +kernel
theorem dX9_ofLink_75 : decode cX9_ofLink 75 = .ok (.getfield 7, 3) := by decide +kernel
theorem dX9_ofLink_78 : decode cX9_ofLink 78 = .ok (.sipush 410, 3) := by decide +kernel
theorem dX9_ofLink_81 : decode cX9_ofLink 81 = .ok (.iload_n 1, 1) := by decide +kernel
theorem dX9_ofLink_82 : decode cX9_ofLink 82 = .ok (.iadd, 1) := by decide +kernel
theorem dX9_ofLink_83 : decode cX9_ofLink 83 = .ok (.iaload, 1) := by decide +kernel
theorem dX9_ofLink_84 : decode cX9_ofLink 84 = .ok (.ireturn, 1) := by decide +kernel
theorem dX9_ofLink_85 : decode cX9_ofLink 85 = .ok (.aload_n 0, 1) := by decide +kernel
theorem dX9_ofLink_86 : decode cX9_ofLink 86 = .ok (.getfield 7, 3) := by decide +kernel
theorem dX9_ofLink_89 : decode cX9_ofLink 89 = .ok (.sipush 416, 3) := by decide +kernel
theorem dX9_ofLink_92 : decode cX9_ofLink 92 = .ok (.iload_n 1, 1) := by decide +kernel
theorem dX9_ofLink_93 : decode cX9_ofLink 93 = .ok (.iadd, 1) := by decide +kernel
theorem dX9_ofLink_94 : decode cX9_ofLink 94 = .ok (.iaload, 1) := by decide +kernel
theorem dX9_ofLink_95 : decode cX9_ofLink 95 = .ok (.ireturn, 1) := by decide +kernel
theorem dX9_ofLink_96 : decode cX9_ofLink 96 = .ok (.aload_n 0, 1) := by decide +kernel
theorem dX9_ofLink_97 : decode cX9_ofLink 97 = .ok (.getfield 7, 3) := by decide +kernel
theorem dX9_ofLink_100 : decode cX9_ofLink 100 = .ok (.sipush 422, 3) := by decide +kernel
theorem dX9_ofLink_103 : decode cX9_ofLink 103 = .ok (.iload_n 1, 1) := by decide +kernel
theorem dX9_ofLink_104 : decode cX9_ofLink 104 = .ok (.iadd, 1) := by decide +kernel
theorem dX9_ofLink_105 : decode cX9_ofLink 105 = .ok (.iaload, 1) := by decide +kernel
theorem dX9_ofLink_106 : decode cX9_ofLink 106 = .ok (.ireturn, 1) := by decide +kernel
set_option maxRecDepth 20000 in
theorem ggX9_link_X9_isLink : GoodIn wsX9_link wsX9_isLink := goodIn_r _ [4, 5, 6, 3, 7] rfl (by decide +kernel)
set_option maxRecDepth 20000 in
theorem gX9_link_X9_isLink : GoodIn wsX9_link (va_wsS RX9 46 yX9_isLink wsX9_isLink) := goodIn_app (goodIn_of _ (by decide +kernel)) ggX9_link_X9_isLink
set_option maxRecDepth 20000 in
theorem ggX9_link_X9_in : GoodIn wsX9_link wsX9_in := goodIn_r _ [7] rfl (by decide +kernel)
set_option maxRecDepth 20000 in
theorem gX9_link_X9_in : GoodIn wsX9_link (va_wsS RX9 35 yX9_in wsX9_in) := goodIn_app (goodIn_of _ (by decide +kernel)) ggX9_link_X9_in
set_option maxRecDepth 20000 in
theorem ggX9_link_X9_refused : GoodIn wsX9_link wsX9_refused := goodIn_r _ [11, 12, 34, 35, 36, 37, 38, 39, 40, 41, 42, 43, 44, 45, 46, 47, 48, 49, 50, 51, 52, 53, 54, 55] rfl (by decide +kernel)
set_option maxRecDepth 20000 in
theorem gX9_link_X9_refused : GoodIn wsX9_link (wsV RX9 53 RX9 yX9_refused wsX9_refused) := goodIn_app (goodIn_of _ (by decide +kernel)) ggX9_link_X9_refused
set_option maxRecDepth 20000 in
theorem ggX9_link_X9_ofLink : GoodIn wsX9_link wsX9_ofLink := goodIn_r _ [16, 17, 18, 19, 20, 3, 21, 22, 23, 24, 25, 26, 27, 28, 29, 30, 31, 32, 33, 34, 35, 36, 37, 38, 39, 40, 41, 42, 43, 44, 45, 46, 47, 48, 49, 50, 51, 52, 53, 54, 55] rfl (by decide +kernel)
set_option maxRecDepth 20000 in
theorem gX9_link_X9_ofLink : GoodIn wsX9_link (wsV RX9 172 RX9 yX9_ofLink wsX9_ofLink) := goodIn_app (goodIn_of _ (by decide +kernel)) ggX9_link_X9_ofLink
theorem dX9_link_0 : decode cX9_link 0 = .ok (.aload_n 0, 1) := by decide +kernel
theorem dX9_link_1 : decode cX9_link 1 = .ok (.iload_n 1, 1) := by decide +kernel
theorem dX9_link_2 : decode cX9_link 2 = .ok (.invokestatic 46, 3) := by decide +kernel
theorem dX9_link_5 : decode cX9_link 5 = .ok (.ifCond .ne 7, 3) := by decide +kernel
theorem dX9_link_8 : decode cX9_link 8 = .ok (.iconst 1, 1) := by decide +kernel
theorem dX9_link_9 : decode cX9_link 9 = .ok (.goto 18, 3) := by decide +kernel
theorem dX9_link_12 : decode cX9_link 12 = .ok (.iload_n 2, 1) := by decide +kernel
theorem dX9_link_13 : decode cX9_link 13 = .ok (.iconst 0, 1) := by decide +kernel
theorem dX9_link_14 : decode cX9_link 14 = .ok (.bipush 6, 2) := by decide +kernel
theorem dX9_link_16 : decode cX9_link 16 = .ok (.invokestatic 35, 3) := by decide +kernel
theorem dX9_link_19 : decode cX9_link 19 = .ok (.ifCond .eq 7, 3) := by decide +kernel
theorem dX9_link_22 : decode cX9_link 22 = .ok (.iconst 0, 1) := by decide +kernel
theorem dX9_link_23 : decode cX9_link 23 = .ok (.goto 4, 3) := by decide +kernel
theorem dX9_link_26 : decode cX9_link 26 = .ok (.iconst 2, 1) := by decide +kernel
theorem dX9_link_27 : decode cX9_link 27 = .ok (.invokevirtual 53, 3) := by decide +kernel
theorem dX9_link_30 : decode cX9_link 30 = .ok (.ifCond .eq 5, 3) := by decide +kernel
theorem dX9_link_33 : decode cX9_link 33 = .ok (.iconst 0, 1) := by decide +kernel
theorem dX9_link_34 : decode cX9_link 34 = .ok (.ireturn, 1) := by decide +kernel
theorem dX9_link_35 : decode cX9_link 35 = .ok (.aload_n 0, 1) := by decide +kernel
theorem dX9_link_36 : decode cX9_link 36 = .ok (.iload_n 1, 1) := by decide +kernel
theorem dX9_link_37 : decode cX9_link 37 = .ok (.iload_n 2, 1) := by decide +kernel
theorem dX9_link_38 : decode cX9_link 38 = .ok (.invokevirtual 172, 3) := by decide +kernel
theorem dX9_link_41 : decode cX9_link 41 = .ok (.ireturn, 1) := by decide +kernel
set_option maxRecDepth 20000 in
theorem ggX9_waiting_X9_ranked : GoodIn wsX9_waiting wsX9_ranked := goodIn_r _ [6, 1, 7, 8, 9, 10, 11, 12, 13, 14, 15, 16, 17, 18, 19, 20, 21, 22, 23, 24, 25, 26, 27, 28] rfl (by decide +kernel)
set_option maxRecDepth 20000 in
theorem gX9_waiting_X9_ranked : GoodIn wsX9_waiting (wsV RX9 83 RX9 yX9_ranked wsX9_ranked) := goodIn_app (goodIn_of _ (by decide +kernel)) ggX9_waiting_X9_ranked
theorem dX9_waiting_0 : decode cX9_waiting 0 = .ok (.aload_n 0, 1) := by decide +kernel
theorem dX9_waiting_1 : decode cX9_waiting 1 = .ok (.iload_n 1, 1) := by decide +kernel
theorem dX9_waiting_2 : decode cX9_waiting 2 = .ok (.invokevirtual 83, 3) := by decide +kernel
theorem dX9_waiting_5 : decode cX9_waiting 5 = .ok (.istore_n 3, 1) := by decide +kernel
theorem dX9_waiting_6 : decode cX9_waiting 6 = .ok (.iload_n 3, 1) := by decide +kernel
theorem dX9_waiting_7 : decode cX9_waiting 7 = .ok (.iconst (-1), 1) := by decide +kernel
theorem dX9_waiting_8 : decode cX9_waiting 8 = .ok (.if_icmp .ne 7, 3) := by decide +kernel
theorem dX9_waiting_11 : decode cX9_waiting 11 = .ok (.iconst (-1), 1) := by decide +kernel
theorem dX9_waiting_12 : decode cX9_waiting 12 = .ok (.goto 18, 3) := by decide +kernel
theorem dX9_waiting_15 : decode cX9_waiting 15 = .ok (.aload_n 0, 1) := by decide +kernel
theorem dX9_waiting_16 : decode cX9_waiting 16 = .ok (.getfield 7, 3) := by decide +kernel
theorem dX9_waiting_19 : decode cX9_waiting 19 = .ok (.sipush 192, 3) := by decide +kernel
theorem dX9_waiting_22 : decode cX9_waiting 22 = .ok (.bipush 14, 2) := by decide +kernel
theorem dX9_waiting_24 : decode cX9_waiting 24 = .ok (.iload_n 3, 1) := by decide +kernel
theorem dX9_waiting_25 : decode cX9_waiting 25 = .ok (.imul, 1) := by decide +kernel
theorem dX9_waiting_26 : decode cX9_waiting 26 = .ok (.iadd, 1) := by decide +kernel
theorem dX9_waiting_27 : decode cX9_waiting 27 = .ok (.iload_n 2, 1) := by decide +kernel
theorem dX9_waiting_28 : decode cX9_waiting 28 = .ok (.iadd, 1) := by decide +kernel
theorem dX9_waiting_29 : decode cX9_waiting 29 = .ok (.iaload, 1) := by decide +kernel
theorem dX9_waiting_30 : decode cX9_waiting 30 = .ok (.ireturn, 1) := by decide +kernel
set_option maxRecDepth 20000 in
theorem ggX9_waits_X9_in : GoodIn wsX9_waits wsX9_in := goodIn_r _ [4] rfl (by decide +kernel)
set_option maxRecDepth 20000 in
theorem gX9_waits_X9_in : GoodIn wsX9_waits (va_wsS RX9 35 yX9_in wsX9_in) := goodIn_app (goodIn_of _ (by decide +kernel)) ggX9_waits_X9_in
set_option maxRecDepth 20000 in
theorem ggX9_waits_X9_refused : GoodIn wsX9_waits wsX9_refused := goodIn_r _ [8, 9, 19, 20, 21, 22, 23, 24, 25, 26, 27, 28, 29, 30, 31, 32, 33, 34, 35, 36, 37, 38, 39, 40] rfl (by decide +kernel)
set_option maxRecDepth 20000 in
theorem gX9_waits_X9_refused : GoodIn wsX9_waits (wsV RX9 53 RX9 yX9_refused wsX9_refused) := goodIn_app (goodIn_of _ (by decide +kernel)) ggX9_waits_X9_refused
set_option maxRecDepth 20000 in
theorem ggX9_waits_X9_waiting : GoodIn wsX9_waits wsX9_waiting := goodIn_r _ [13, 14, 15, 16, 17, 3, 18, 19, 20, 21, 22, 23, 24, 25, 26, 27, 28, 29, 30, 31, 32, 33, 34, 35, 36, 37, 38, 39, 40] rfl (by decide +kernel)
set_option maxRecDepth 20000 in
theorem gX9_waits_X9_waiting : GoodIn wsX9_waits (wsV RX9 175 RX9 yX9_waiting wsX9_waiting) := goodIn_app (goodIn_of _ (by decide +kernel)) ggX9_waits_X9_waiting
theorem dX9_waits_0 : decode cX9_waits 0 = .ok (.aload_n 0, 1) := by decide +kernel
theorem dX9_waits_1 : decode cX9_waits 1 = .ok (.iload_n 1, 1) := by decide +kernel
theorem dX9_waits_2 : decode cX9_waits 2 = .ok (.ifCond .lt 16, 3) := by decide +kernel
theorem dX9_waits_5 : decode cX9_waits 5 = .ok (.iload_n 2, 1) := by decide +kernel
theorem dX9_waits_6 : decode cX9_waits 6 = .ok (.iconst 0, 1) := by decide +kernel
theorem dX9_waits_7 : decode cX9_waits 7 = .ok (.iconst 2, 1) := by decide +kernel
theorem dX9_waits_8 : decode cX9_waits 8 = .ok (.invokestatic 35, 3) := by decide +kernel
theorem dX9_waits_11 : decode cX9_waits 11 = .ok (.ifCond .eq 7, 3) := by decide +kernel
theorem dX9_waits_14 : decode cX9_waits 14 = .ok (.iconst 0, 1) := by decide +kernel
theorem dX9_waits_15 : decode cX9_waits 15 = .ok (.goto 4, 3) := by decide +kernel
theorem dX9_waits_18 : decode cX9_waits 18 = .ok (.iconst 1, 1) := by decide +kernel
theorem dX9_waits_19 : decode cX9_waits 19 = .ok (.invokevirtual 53, 3) := by decide +kernel
theorem dX9_waits_22 : decode cX9_waits 22 = .ok (.ifCond .eq 5, 3) := by decide +kernel
theorem dX9_waits_25 : decode cX9_waits 25 = .ok (.iconst 0, 1) := by decide +kernel
theorem dX9_waits_26 : decode cX9_waits 26 = .ok (.ireturn, 1) := by decide +kernel
theorem dX9_waits_27 : decode cX9_waits 27 = .ok (.aload_n 0, 1) := by decide +kernel
theorem dX9_waits_28 : decode cX9_waits 28 = .ok (.iload_n 1, 1) := by decide +kernel
theorem dX9_waits_29 : decode cX9_waits 29 = .ok (.iload_n 2, 1) := by decide +kernel
theorem dX9_waits_30 : decode cX9_waits 30 = .ok (.invokevirtual 175, 3) := by decide +kernel
theorem dX9_waits_33 : decode cX9_waits 33 = .ok (.ireturn, 1) := by decide +kernel
set_option maxRecDepth 20000 in
theorem ggX9_arrived_X9_came : GoodIn wsX9_arrived wsX9_came := goodIn_r _ [5, 6, 7, 8, 9, 10, 11, 12, 13, 14, 15, 16, 17, 18, 19, 20, 21, 22, 23, 24, 25, 26, 27, 28] rfl (by decide +kernel)
set_option maxRecDepth 20000 in
theorem gX9_arrived_X9_came : GoodIn wsX9_arrived (wsV RX9 154 RX9 yX9_came wsX9_came) := goodIn_app (goodIn_of _ (by decide +kernel)) ggX9_arrived_X9_came
