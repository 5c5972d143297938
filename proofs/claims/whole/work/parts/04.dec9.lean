theorem dX9_init_0 : decode cX9_init 0 = .ok (.aload_n 0, 1) := by decide +kernel
theorem dX9_init_1 : decode cX9_init 1 = .ok (.invokespecial 1, 3) := by decide +kernel
theorem dX9_init_4 : decode cX9_init 4 = .ok (.aload_n 0, 1) := by decide +kernel
theorem dX9_init_5 : decode cX9_init 5 = .ok (.sipush 460, 3) := by decide +kernel
theorem dX9_init_8 : decode cX9_init 8 = .ok (.newarray .int, 2) := by decide +kernel
theorem dX9_init_10 : decode cX9_init 10 = .ok (.putfield 7, 3) := by decide +kernel
theorem dX9_init_13 : decode cX9_init 13 = .ok (.aload_n 0, 1) := by decide +kernel
theorem dX9_init_14 : decode cX9_init 14 = .ok (.sipush 2760, 3) := by decide +kernel
theorem dX9_init_17 : decode cX9_init 17 = .ok (.newarray .int, 2) := by decide +kernel
theorem dX9_init_19 : decode cX9_init 19 = .ok (.putfield 13, 3) := by decide +kernel
theorem dX9_init_22 : decode cX9_init 22 = .ok (.aload_n 0, 1) := by decide +kernel
theorem dX9_init_23 : decode cX9_init 23 = .ok (.sipush 460, 3) := by decide +kernel
theorem dX9_init_26 : decode cX9_init 26 = .ok (.newarray .int, 2) := by decide +kernel
theorem dX9_init_28 : decode cX9_init 28 = .ok (.putfield 16, 3) := by decide +kernel
theorem dX9_init_31 : decode cX9_init 31 = .ok (.aload_n 0, 1) := by decide +kernel
theorem dX9_init_32 : decode cX9_init 32 = .ok (.bipush 60, 2) := by decide +kernel
theorem dX9_init_34 : decode cX9_init 34 = .ok (.newarray .int, 2) := by decide +kernel
theorem dX9_init_36 : decode cX9_init 36 = .ok (.putfield 19, 3) := by decide +kernel
theorem dX9_init_39 : decode cX9_init 39 = .ok (.aload_n 0, 1) := by decide +kernel
theorem dX9_init_40 : decode cX9_init 40 = .ok (.bipush 12, 2) := by decide +kernel
theorem dX9_init_42 : decode cX9_init 42 = .ok (.newarray .int, 2) := by decide +kernel
theorem dX9_init_44 : decode cX9_init 44 = .ok (.putfield 22, 3) := by decide +kernel
theorem dX9_init_47 : decode cX9_init 47 = .ok (.aload_n 0, 1) := by decide +kernel
theorem dX9_init_48 : decode cX9_init 48 = .ok (.bipush 12, 2) := by decide +kernel
theorem dX9_init_50 : decode cX9_init 50 = .ok (.newarray .int, 2) := by decide +kernel
theorem dX9_init_52 : decode cX9_init 52 = .ok (.putfield 25, 3) := by decide +kernel
theorem dX9_init_55 : decode cX9_init 55 = .ok (.aload_n 0, 1) := by decide +kernel
theorem dX9_init_56 : decode cX9_init 56 = .ok (.bipush 12, 2) := by decide +kernel
theorem dX9_init_58 : decode cX9_init 58 = .ok (.newarray .int, 2) := by decide +kernel
theorem dX9_init_60 : decode cX9_init 60 = .ok (.putfield 28, 3) := by decide +kernel
theorem dX9_init_63 : decode cX9_init 63 = .ok (.iconst 0, 1) := by decide +kernel
theorem dX9_init_64 : decode cX9_init 64 = .ok (.istore_n 1, 1) := by decide +kernel
theorem dX9_init_65 : decode cX9_init 65 = .ok (.iload_n 1, 1) := by decide +kernel
theorem dX9_init_66 : decode cX9_init 66 = .ok (.sipush 180, 3) := by decide +kernel
theorem dX9_init_69 : decode cX9_init 69 = .ok (.if_icmp .ge 21, 3) := by decide +kernel
theorem dX9_init_72 : decode cX9_init 72 = .ok (.aload_n 0, 1) := by decide +kernel
theorem dX9_init_73 : decode cX9_init 73 = .ok (.getfield 7, 3) := by decide +kernel
theorem dX9_init_76 : decode cX9_init 76 = .ok (.iconst 0, 1) := by decide +kernel
theorem dX9_init_77 : decode cX9_init 77 = .ok (.iload_n 1, 1) := by decide +kernel
theorem dX9_init_78 : decode cX9_init 78 = .ok (.iadd, 1) := by decide +kernel
theorem dX9_init_79 : decode cX9_init 79 = .ok (.iload_n 1, 1) := by decide +kernel
theorem dX9_init_80 : decode cX9_init 80 = .ok (.bipush 30, 2) := by decide +kernel
theorem dX9_init_82 : decode cX9_init 82 = .ok (.irem, 1) := by decide +kernel
theorem dX9_init_83 : decode cX9_init 83 = .ok (.iastore, 1) := by decide +kernel
theorem dX9_init_84 : decode cX9_init 84 = .ok (.iinc 1 1, 3) := by decide +kernel
theorem dX9_init_87 : decode cX9_init 87 = .ok (.goto (-22), 3) := by decide +kernel
theorem dX9_init_90 : decode cX9_init 90 = .ok (.iconst 0, 1) := by decide +kernel
theorem dX9_init_91 : decode cX9_init 91 = .ok (.istore_n 1, 1) := by decide +kernel
theorem dX9_init_92 : decode cX9_init 92 = .ok (.iload_n 1, 1) := by decide +kernel
theorem dX9_init_93 : decode cX9_init 93 = .ok (.bipush 6, 2) := by decide +kernel
theorem dX9_init_95 : decode cX9_init 95 = .ok (.if_icmp .ge 20, 3) := by decide +kernel
theorem dX9_init_98 : decode cX9_init 98 = .ok (.aload_n 0, 1) := by decide +kernel
theorem dX9_init_99 : decode cX9_init 99 = .ok (.getfield 7, 3) := by decide +kernel
theorem dX9_init_102 : decode cX9_init 102 = .ok (.sipush 186, 3) := by decide +kernel
theorem dX9_init_105 : decode cX9_init 105 = .ok (.iload_n 1, 1) := by decide +kernel
theorem dX9_init_106 : decode cX9_init 106 = .ok (.iadd, 1) := by decide +kernel
theorem dX9_init_107 : decode cX9_init 107 = .ok (.iconst 1, 1) := by decide +kernel
theorem dX9_init_108 : decode cX9_init 108 = .ok (.iastore, 1) := by decide +kernel
theorem dX9_init_109 : decode cX9_init 109 = .ok (.iinc 1 1, 3) := by decide +kernel
theorem dX9_init_112 : decode cX9_init 112 = .ok (.goto (-20), 3) := by decide +kernel
theorem dX9_init_115 : decode cX9_init 115 = .ok (.return_, 1) := by decide +kernel
theorem dX9_thrown_0 : decode cX9_thrown 0 = .ok (.aload_n 0, 1) := by decide +kernel
theorem dX9_thrown_1 : decode cX9_thrown 1 = .ok (.getfield 31, 3) := by decide +kernel
theorem dX9_thrown_4 : decode cX9_thrown 4 = .ok (.ireturn, 1) := by decide +kernel
theorem dX9_refused_0 : decode cX9_refused 0 = .ok (.aload_n 0, 1) := by decide +kernel
theorem dX9_refused_1 : decode cX9_refused 1 = .ok (.iload_n 1, 1) := by decide +kernel
theorem dX9_refused_2 : decode cX9_refused 2 = .ok (.putfield 31, 3) := by decide +kernel
theorem dX9_refused_5 : decode cX9_refused 5 = .ok (.iload_n 1, 1) := by decide +kernel
theorem dX9_refused_6 : decode cX9_refused 6 = .ok (.ifCond .le 7, 3) := by decide +kernel
theorem dX9_refused_9 : decode cX9_refused 9 = .ok (.iconst 1, 1) := by decide +kernel
theorem dX9_refused_10 : decode cX9_refused 10 = .ok (.goto 4, 3) := by decide +kernel
theorem dX9_refused_13 : decode cX9_refused 13 = .ok (.iconst 0, 1) := by decide +kernel
theorem dX9_refused_14 : decode cX9_refused 14 = .ok (.ireturn, 1) := by decide +kernel
theorem dX9_in_0 : decode cX9_in 0 = .ok (.iload_n 0, 1) := by decide +kernel
theorem dX9_in_1 : decode cX9_in 1 = .ok (.iload_n 1, 1) := by decide +kernel
theorem dX9_in_2 : decode cX9_in 2 = .ok (.if_icmp .lt 12, 3) := by decide +kernel
theorem dX9_in_5 : decode cX9_in 5 = .ok (.iload_n 0, 1) := by decide +kernel
theorem dX9_in_6 : decode cX9_in 6 = .ok (.iload_n 2, 1) := by decide +kernel
theorem dX9_in_7 : decode cX9_in 7 = .ok (.if_icmp .gt 7, 3) := by decide +kernel
theorem dX9_in_10 : decode cX9_in 10 = .ok (.iconst 1, 1) := by decide +kernel
theorem dX9_in_11 : decode cX9_in 11 = .ok (.goto 4, 3) := by decide +kernel
theorem dX9_in_14 : decode cX9_in 14 = .ok (.iconst 0, 1) := by decide +kernel
theorem dX9_in_15 : decode cX9_in 15 = .ok (.ireturn, 1) := by decide +kernel
set_option maxRecDepth 20000 in
theorem ggX9_isLink_X9_in : GoodIn wsX9_isLink wsX9_in := goodIn_r _ [4] (by decide +kernel) (by decide +kernel)
set_option maxRecDepth 20000 in
theorem gX9_isLink_X9_in : GoodIn wsX9_isLink (va_wsS RX9 35 yX9_in wsX9_in) := goodIn_app (goodIn_of _ (by decide +kernel)) ggX9_isLink_X9_in
theorem dX9_isLink_0 : decode cX9_isLink 0 = .ok (.iload_n 0, 1) := by decide +kernel
theorem dX9_isLink_1 : decode cX9_isLink 1 = .ok (.iconst 0, 1) := by decide +kernel
theorem dX9_isLink_2 : decode cX9_isLink 2 = .ok (.iconst 5, 1) := by decide +kernel
theorem dX9_isLink_3 : decode cX9_isLink 3 = .ok (.invokestatic 35, 3) := by decide +kernel
theorem dX9_isLink_6 : decode cX9_isLink 6 = .ok (.ireturn, 1) := by decide +kernel
set_option maxRecDepth 20000 in
theorem ggX9_isWord_X9_in : GoodIn wsX9_isWord wsX9_in := goodIn_r _ [4] (by decide +kernel) (by decide +kernel)
set_option maxRecDepth 20000 in
theorem gX9_isWord_X9_in : GoodIn wsX9_isWord (va_wsS RX9 35 yX9_in wsX9_in) := goodIn_app (goodIn_of _ (by decide +kernel)) ggX9_isWord_X9_in
theorem dX9_isWord_0 : decode cX9_isWord 0 = .ok (.iload_n 0, 1) := by decide +kernel
theorem dX9_isWord_1 : decode cX9_isWord 1 = .ok (.iconst 0, 1) := by decide +kernel
theorem dX9_isWord_2 : decode cX9_isWord 2 = .ok (.bipush 29, 2) := by decide +kernel
theorem dX9_isWord_4 : decode cX9_isWord 4 = .ok (.invokestatic 35, 3) := by decide +kernel
theorem dX9_isWord_7 : decode cX9_isWord 7 = .ok (.ireturn, 1) := by decide +kernel
theorem dX9_saves_0 : decode cX9_saves 0 = .ok (.aload_n 0, 1) := by decide +kernel
theorem dX9_saves_1 : decode cX9_saves 1 = .ok (.getfield 39, 3) := by decide +kernel
theorem dX9_saves_4 : decode cX9_saves 4 = .ok (.bipush 6, 2) := by decide +kernel
theorem dX9_saves_6 : decode cX9_saves 6 = .ok (.if_icmp .ne 44, 3) := by decide +kernel
theorem dX9_saves_9 : decode cX9_saves 9 = .ok (.iconst 0, 1) := by decide +kernel
theorem dX9_saves_10 : decode cX9_saves 10 = .ok (.istore_n 1, 1) := by decide +kernel
theorem dX9_saves_11 : decode cX9_saves 11 = .ok (.iload_n 1, 1) := by decide +kernel
theorem dX9_saves_12 : decode cX9_saves 12 = .ok (.sipush 2300, 3) := by decide +kernel
theorem dX9_saves_15 : decode cX9_saves 15 = .ok (.if_icmp .ge 25, 3) := by decide +kernel
theorem dX9_saves_18 : decode cX9_saves 18 = .ok (.aload_n 0, 1) := by decide +kernel
theorem dX9_saves_19 : decode cX9_saves 19 = .ok (.getfield 13, 3) := by decide +kernel
theorem dX9_saves_22 : decode cX9_saves 22 = .ok (.iload_n 1, 1) := by decide +kernel
theorem dX9_saves_23 : decode cX9_saves 23 = .ok (.aload_n 0, 1) := by decide +kernel
theorem dX9_saves_24 : decode cX9_saves 24 = .ok (.getfield 13, 3) := by decide +kernel
theorem dX9_saves_27 : decode cX9_saves 27 = .ok (.sipush 460, 3) := by decide +kernel
theorem dX9_saves_30 : decode cX9_saves 30 = .ok (.iload_n 1, 1) := by decide +kernel
theorem dX9_saves_31 : decode cX9_saves 31 = .ok (.iadd, 1) := by decide +kernel
theorem dX9_saves_32 : decode cX9_saves 32 = .ok (.iaload, 1) := by decide +kernel
theorem dX9_saves_33 : decode cX9_saves 33 = .ok (.iastore, 1) := by decide +kernel
theorem dX9_saves_34 : decode cX9_saves 34 = .ok (.iinc 1 1, 3) := by decide +kernel
theorem dX9_saves_37 : decode cX9_saves 37 = .ok (.goto (-26), 3) := by decide +kernel
theorem dX9_saves_40 : decode cX9_saves 40 = .ok (.aload_n 0, 1) := by decide +kernel
theorem dX9_saves_41 : decode cX9_saves 41 = .ok (.dup, 1) := by decide +kernel
theorem dX9_saves_42 : decode cX9_saves 42 = .ok (.getfield 39, 3) := by decide +kernel
theorem dX9_saves_45 : decode cX9_saves 45 = .ok (.iconst 1, 1) := by decide +kernel
theorem dX9_saves_46 : decode cX9_saves 46 = .ok (.isub, 1) := by decide +kernel
theorem dX9_saves_47 : decode cX9_saves 47 = .ok (.putfield 39, 3) := by decide +kernel
theorem dX9_saves_50 : decode cX9_saves 50 = .ok (.iconst 0, 1) := by decide +kernel
theorem dX9_saves_51 : decode cX9_saves 51 = .ok (.istore_n 1, 1) := by decide +kernel
theorem dX9_saves_52 : decode cX9_saves 52 = .ok (.iload_n 1, 1) := by decide +kernel
theorem dX9_saves_53 : decode cX9_saves 53 = .ok (.sipush 460, 3) := by decide +kernel
theorem dX9_saves_56 : decode cX9_saves 56 = .ok (.if_icmp .ge 30, 3) := by decide +kernel
theorem dX9_saves_59 : decode cX9_saves 59 = .ok (.aload_n 0, 1) := by decide +kernel
theorem dX9_saves_60 : decode cX9_saves 60 = .ok (.getfield 13, 3) := by decide +kernel
theorem dX9_saves_63 : decode cX9_saves 63 = .ok (.sipush 460, 3) := by decide +kernel
theorem dX9_saves_66 : decode cX9_saves 66 = .ok (.aload_n 0, 1) := by decide +kernel
theorem dX9_saves_67 : decode cX9_saves 67 = .ok (.getfield 39, 3) := by decide +kernel
theorem dX9_saves_70 : decode cX9_saves 70 = .ok (.imul, 1) := by decide +kernel
theorem dX9_saves_71 : decode cX9_saves 71 = .ok (.iload_n 1, 1) := by decide +kernel
theorem dX9_saves_72 : decode cX9_saves 72 = .ok (.iadd, 1) := by decide +kernel
theorem dX9_saves_73 : decode cX9_saves 73 = .ok (.aload_n 0, 1) := by decide +kernel
theorem dX9_saves_74 : decode cX9_saves 74 = .ok (.getfield 7, 3) := by decide +kernel
theorem dX9_saves_77 : decode cX9_saves 77 = .ok (.iload_n 1, 1) := by decide +kernel
theorem dX9_saves_78 : decode cX9_saves 78 = .ok (.iaload, 1) := by decide +kernel
theorem dX9_saves_79 : decode cX9_saves 79 = .ok (.iastore, 1) := by decide +kernel
theorem dX9_saves_80 : decode cX9_saves 80 = .ok (.iinc 1 1, 3) := by decide +kernel
theorem dX9_saves_83 : decode cX9_saves 83 = .ok (.goto (-31), 3) := by decide +kernel
theorem dX9_saves_86 : decode cX9_saves 86 = .ok (.aload_n 0, 1) := by decide +kernel
theorem dX9_saves_87 : decode cX9_saves 87 = .ok (.dup, 1) := by decide +kernel
theorem dX9_saves_88 : decode cX9_saves 88 = .ok (.getfield 39, 3) := by decide +kernel
theorem dX9_saves_91 : decode cX9_saves 91 = .ok (.iconst 1, 1) := by decide +kernel
theorem dX9_saves_92 : decode cX9_saves 92 = .ok (.iadd, 1) := by decide +kernel
theorem dX9_saves_93 : decode cX9_saves 93 = .ok (.putfield 39, 3) := by decide +kernel
theorem dX9_saves_96 : decode cX9_saves 96 = .ok (.return_, 1) := by decide +kernel
theorem dX9_meant_0 : decode cX9_meant 0 = .ok (.aload_n 0, 1) := by decide +kernel
theorem dX9_meant_1 : decode cX9_meant 1 = .ok (.getfield 7, 3) := by decide +kernel
theorem dX9_meant_4 : decode cX9_meant 4 = .ok (.iconst 0, 1) := by decide +kernel
theorem dX9_meant_5 : decode cX9_meant 5 = .ok (.bipush 30, 2) := by decide +kernel
theorem dX9_meant_7 : decode cX9_meant 7 = .ok (.iload_n 1, 1) := by decide +kernel
theorem dX9_meant_8 : decode cX9_meant 8 = .ok (.imul, 1) := by decide +kernel
theorem dX9_meant_9 : decode cX9_meant 9 = .ok (.iadd, 1) := by decide +kernel
theorem dX9_meant_10 : decode cX9_meant 10 = .ok (.iload_n 2, 1) := by decide +kernel
theorem dX9_meant_11 : decode cX9_meant 11 = .ok (.iadd, 1) := by decide +kernel
theorem dX9_meant_12 : decode cX9_meant 12 = .ok (.iaload, 1) := by decide +kernel
theorem dX9_meant_13 : decode cX9_meant 13 = .ok (.ireturn, 1) := by decide +kernel
set_option maxRecDepth 20000 in
theorem ggX9_lowest_X9_meant : GoodIn wsX9_lowest wsX9_meant := goodIn_r _ [5, 6, 7, 8, 9, 10, 11, 12, 13, 14, 15, 16, 17, 18, 19, 20, 21, 22, 23, 24, 25, 26, 27, 28] (by decide +kernel) (by decide +kernel)
set_option maxRecDepth 20000 in
theorem gX9_lowest_X9_meant : GoodIn wsX9_lowest (wsV RX9 42 RX9 yX9_meant wsX9_meant) := goodIn_app (goodIn_of _ (by decide +kernel)) ggX9_lowest_X9_meant
theorem dX9_lowest_0 : decode cX9_lowest 0 = .ok (.iconst 0, 1) := by decide +kernel
theorem dX9_lowest_1 : decode cX9_lowest 1 = .ok (.istore_n 3, 1) := by decide +kernel
theorem dX9_lowest_2 : decode cX9_lowest 2 = .ok (.iload_n 3, 1) := by decide +kernel
theorem dX9_lowest_3 : decode cX9_lowest 3 = .ok (.bipush 30, 2) := by decide +kernel
theorem dX9_lowest_5 : decode cX9_lowest 5 = .ok (.if_icmp .ge 21, 3) := by decide +kernel
theorem dX9_lowest_8 : decode cX9_lowest 8 = .ok (.aload_n 0, 1) := by decide +kernel
theorem dX9_lowest_9 : decode cX9_lowest 9 = .ok (.iload_n 1, 1) := by decide +kernel
theorem dX9_lowest_10 : decode cX9_lowest 10 = .ok (.iload_n 3, 1) := by decide +kernel
theorem dX9_lowest_11 : decode cX9_lowest 11 = .ok (.invokevirtual 42, 3) := by decide +kernel
theorem dX9_lowest_14 : decode cX9_lowest 14 = .ok (.iload_n 2, 1) := by decide +kernel
theorem dX9_lowest_15 : decode cX9_lowest 15 = .ok (.if_icmp .ne 5, 3) := by decide +kernel
theorem dX9_lowest_18 : decode cX9_lowest 18 = .ok (.iload_n 3, 1) := by decide +kernel
theorem dX9_lowest_19 : decode cX9_lowest 19 = .ok (.ireturn, 1) := by decide +kernel
theorem dX9_lowest_20 : decode cX9_lowest 20 = .ok (.iinc 3 1, 3) := by decide +kernel
theorem dX9_lowest_23 : decode cX9_lowest 23 = .ok (.goto (-21), 3) := by decide +kernel
theorem dX9_lowest_26 : decode cX9_lowest 26 = .ok (.bipush 30, 2) := by decide +kernel
theorem dX9_lowest_28 : decode cX9_lowest 28 = .ok (.ireturn, 1) := by decide +kernel
set_option maxRecDepth 20000 in
theorem ggX9_teach_X9_isLink : GoodIn wsX9_teach wsX9_isLink := goodIn_r _ [5, 6, 7, 4, 8] (by decide +kernel) (by decide +kernel)
set_option maxRecDepth 20000 in
theorem gX9_teach_X9_isLink : GoodIn wsX9_teach (va_wsS RX9 46 yX9_isLink wsX9_isLink) := goodIn_app (goodIn_of _ (by decide +kernel)) ggX9_teach_X9_isLink
set_option maxRecDepth 20000 in
theorem ggX9_teach_X9_isWord : GoodIn wsX9_teach wsX9_isWord := goodIn_r _ [11, 6, 7, 4, 8] (by decide +kernel) (by decide +kernel)
set_option maxRecDepth 20000 in
theorem gX9_teach_X9_isWord : GoodIn wsX9_teach (va_wsS RX9 50 yX9_isWord wsX9_isWord) := goodIn_app (goodIn_of _ (by decide +kernel)) ggX9_teach_X9_isWord
set_option maxRecDepth 20000 in
theorem ggX9_teach_X9_in : GoodIn wsX9_teach wsX9_in := goodIn_r _ [8] (by decide +kernel) (by decide +kernel)
set_option maxRecDepth 20000 in
theorem gX9_teach_X9_in : GoodIn wsX9_teach (va_wsS RX9 35 yX9_in wsX9_in) := goodIn_app (goodIn_of _ (by decide +kernel)) ggX9_teach_X9_in
set_option maxRecDepth 20000 in
theorem ggX9_teach_X9_refused : GoodIn wsX9_teach wsX9_refused := goodIn_r _ [15, 16, 27, 28, 29, 30, 31, 32, 33, 34, 35, 36, 37, 38, 39, 40, 41, 42, 43, 44, 45, 46, 47, 48] (by decide +kernel) (by decide +kernel)
set_option maxRecDepth 20000 in
theorem gX9_teach_X9_refused : GoodIn wsX9_teach (wsV RX9 53 RX9 yX9_refused wsX9_refused) := goodIn_app (goodIn_of _ (by decide +kernel)) ggX9_teach_X9_refused
set_option maxRecDepth 20000 in
theorem ggX9_teach_X9_saves : GoodIn wsX9_teach wsX9_saves := goodIn_r _ [20, 21, 22, 1, 27, 28, 29, 30, 31, 32, 33, 34, 35, 36, 37, 38, 39, 40, 41, 42, 43, 44, 45, 46, 47, 48] (by decide +kernel) (by decide +kernel)
set_option maxRecDepth 20000 in
theorem gX9_teach_X9_saves : GoodIn wsX9_teach (wsV RX9 56 RX9 yX9_saves wsX9_saves) := goodIn_app (goodIn_of _ (by decide +kernel)) ggX9_teach_X9_saves
set_option maxRecDepth 20000 in
theorem ggX9_teach_X9_meant : GoodIn wsX9_teach wsX9_meant := goodIn_r _ [26, 1, 27, 28, 29, 30, 31, 32, 33, 34, 35, 36, 37, 38, 39, 40, 41, 42, 43, 44, 45, 46, 47, 48] (by decide +kernel) (by decide +kernel)
set_option maxRecDepth 20000 in
theorem gX9_teach_X9_meant : GoodIn wsX9_teach (wsV RX9 42 RX9 yX9_meant wsX9_meant) := goodIn_app (goodIn_of _ (by decide +kernel)) ggX9_teach_X9_meant
theorem dX9_teach_0 : decode cX9_teach 0 = .ok (.aload_n 0, 1) := by decide +kernel
theorem dX9_teach_1 : decode cX9_teach 1 = .ok (.iload_n 1, 1) := by decide +kernel
theorem dX9_teach_2 : decode cX9_teach 2 = .ok (.invokestatic 46, 3) := by decide +kernel
theorem dX9_teach_5 : decode cX9_teach 5 = .ok (.ifCond .ne 7, 3) := by decide +kernel
theorem dX9_teach_8 : decode cX9_teach 8 = .ok (.iconst 1, 1) := by decide +kernel
theorem dX9_teach_9 : decode cX9_teach 9 = .ok (.goto 25, 3) := by decide +kernel
theorem dX9_teach_12 : decode cX9_teach 12 = .ok (.iload_n 2, 1) := by decide +kernel
theorem dX9_teach_13 : decode cX9_teach 13 = .ok (.invokestatic 50, 3) := by decide +kernel
theorem dX9_teach_16 : decode cX9_teach 16 = .ok (.ifCond .eq 17, 3) := by decide +kernel
theorem dX9_teach_19 : decode cX9_teach 19 = .ok (.iload_n 3, 1) := by decide +kernel
theorem dX9_teach_20 : decode cX9_teach 20 = .ok (.iconst (-1), 1) := by decide +kernel
theorem dX9_teach_21 : decode cX9_teach 21 = .ok (.bipush 29, 2) := by decide +kernel
theorem dX9_teach_23 : decode cX9_teach 23 = .ok (.invokestatic 35, 3) := by decide +kernel
theorem dX9_teach_26 : decode cX9_teach 26 = .ok (.ifCond .eq 7, 3) := by decide +kernel
theorem dX9_teach_29 : decode cX9_teach 29 = .ok (.iconst 0, 1) := by decide +kernel
theorem dX9_teach_30 : decode cX9_teach 30 = .ok (.goto 4, 3) := by decide +kernel
theorem dX9_teach_33 : decode cX9_teach 33 = .ok (.iconst 2, 1) := by decide +kernel
theorem dX9_teach_34 : decode cX9_teach 34 = .ok (.invokevirtual 53, 3) := by decide +kernel
theorem dX9_teach_37 : decode cX9_teach 37 = .ok (.ifCond .eq 5, 3) := by decide +kernel
theorem dX9_teach_40 : decode cX9_teach 40 = .ok (.iconst 0, 1) := by decide +kernel
theorem dX9_teach_41 : decode cX9_teach 41 = .ok (.ireturn, 1) := by decide +kernel
theorem dX9_teach_42 : decode cX9_teach 42 = .ok (.aload_n 0, 1) := by decide +kernel
theorem dX9_teach_43 : decode cX9_teach 43 = .ok (.invokevirtual 56, 3) := by decide +kernel
theorem dX9_teach_46 : decode cX9_teach 46 = .ok (.aload_n 0, 1) := by decide +kernel
theorem dX9_teach_47 : decode cX9_teach 47 = .ok (.iload_n 1, 1) := by decide +kernel
theorem dX9_teach_48 : decode cX9_teach 48 = .ok (.iload_n 2, 1) := by decide +kernel
theorem dX9_teach_49 : decode cX9_teach 49 = .ok (.invokevirtual 42, 3) := by decide +kernel
theorem dX9_teach_52 : decode cX9_teach 52 = .ok (.istore 4, 2) := by decide +kernel
theorem dX9_teach_54 : decode cX9_teach 54 = .ok (.aload_n 0, 1) := by decide +kernel
theorem dX9_teach_55 : decode cX9_teach 55 = .ok (.getfield 7, 3) := by decide +kernel
theorem dX9_teach_58 : decode cX9_teach 58 = .ok (.iconst 0, 1) := by decide +kernel
theorem dX9_teach_59 : decode cX9_teach 59 = .ok (.bipush 30, 2) := by decide +kernel
theorem dX9_teach_61 : decode cX9_teach 61 = .ok (.iload_n 1, 1) := by decide +kernel
theorem dX9_teach_62 : decode cX9_teach 62 = .ok (.imul, 1) := by decide +kernel
theorem dX9_teach_63 : decode cX9_teach 63 = .ok (.iadd, 1) := by decide +kernel
theorem dX9_teach_64 : decode cX9_teach 64 = .ok (.iload_n 2, 1) := by decide +kernel
theorem dX9_teach_65 : decode cX9_teach 65 = .ok (.iadd, 1) := by decide +kernel
theorem dX9_teach_66 : decode cX9_teach 66 = .ok (.iload_n 3, 1) := by decide +kernel
theorem dX9_teach_67 : decode cX9_teach 67 = .ok (.iastore, 1) := by decide +kernel
theorem dX9_teach_68 : decode cX9_teach 68 = .ok (.iload 4, 2) := by decide +kernel
theorem dX9_teach_70 : decode cX9_teach 70 = .ok (.ireturn, 1) := by decide +kernel
set_option maxRecDepth 20000 in
theorem ggX9_sets_X9_isLink : GoodIn wsX9_sets wsX9_isLink := goodIn_r _ [5, 6, 7, 4, 8] (by decide +kernel) (by decide +kernel)
set_option maxRecDepth 20000 in
theorem gX9_sets_X9_isLink : GoodIn wsX9_sets (va_wsS RX9 46 yX9_isLink wsX9_isLink) := goodIn_app (goodIn_of _ (by decide +kernel)) ggX9_sets_X9_isLink
set_option maxRecDepth 20000 in
theorem ggX9_sets_X9_in : GoodIn wsX9_sets wsX9_in := goodIn_r _ [8] (by decide +kernel) (by decide +kernel)
set_option maxRecDepth 20000 in
theorem gX9_sets_X9_in : GoodIn wsX9_sets (va_wsS RX9 35 yX9_in wsX9_in) := goodIn_app (goodIn_of _ (by decide +kernel)) ggX9_sets_X9_in
set_option maxRecDepth 20000 in
theorem ggX9_sets_X9_refused : GoodIn wsX9_sets wsX9_refused := goodIn_r _ [12, 13, 20, 21, 22, 23, 24, 25, 26, 27, 28, 29, 30, 31, 32, 33, 34, 35, 36, 37, 38, 39, 40, 41] (by decide +kernel) (by decide +kernel)
set_option maxRecDepth 20000 in
theorem gX9_sets_X9_refused : GoodIn wsX9_sets (wsV RX9 53 RX9 yX9_refused wsX9_refused) := goodIn_app (goodIn_of _ (by decide +kernel)) ggX9_sets_X9_refused
set_option maxRecDepth 20000 in
theorem ggX9_sets_X9_saves : GoodIn wsX9_sets wsX9_saves := goodIn_r _ [17, 18, 19, 1, 20, 21, 22, 23, 24, 25, 26, 27, 28, 29, 30, 31, 32, 33, 34, 35, 36, 37, 38, 39, 40, 41] (by decide +kernel) (by decide +kernel)
set_option maxRecDepth 20000 in
theorem gX9_sets_X9_saves : GoodIn wsX9_sets (wsV RX9 56 RX9 yX9_saves wsX9_saves) := goodIn_app (goodIn_of _ (by decide +kernel)) ggX9_sets_X9_saves
theorem dX9_sets_0 : decode cX9_sets 0 = .ok (.aload_n 0, 1) := by decide +kernel
theorem dX9_sets_1 : decode cX9_sets 1 = .ok (.iload_n 2, 1) := by decide +kernel
theorem dX9_sets_2 : decode cX9_sets 2 = .ok (.invokestatic 46, 3) := by decide +kernel
theorem dX9_sets_5 : decode cX9_sets 5 = .ok (.ifCond .ne 7, 3) := by decide +kernel
theorem dX9_sets_8 : decode cX9_sets 8 = .ok (.iconst 1, 1) := by decide +kernel
theorem dX9_sets_9 : decode cX9_sets 9 = .ok (.goto 18, 3) := by decide +kernel
theorem dX9_sets_12 : decode cX9_sets 12 = .ok (.iload_n 3, 1) := by decide +kernel
theorem dX9_sets_13 : decode cX9_sets 13 = .ok (.iconst 0, 1) := by decide +kernel
theorem dX9_sets_14 : decode cX9_sets 14 = .ok (.bipush 9, 2) := by decide +kernel
theorem dX9_sets_16 : decode cX9_sets 16 = .ok (.invokestatic 35, 3) := by decide +kernel
theorem dX9_sets_19 : decode cX9_sets 19 = .ok (.ifCond .eq 7, 3) := by decide +kernel
theorem dX9_sets_22 : decode cX9_sets 22 = .ok (.iconst 0, 1) := by decide +kernel
theorem dX9_sets_23 : decode cX9_sets 23 = .ok (.goto 4, 3) := by decide +kernel
theorem dX9_sets_26 : decode cX9_sets 26 = .ok (.iconst 2, 1) := by decide +kernel
theorem dX9_sets_27 : decode cX9_sets 27 = .ok (.invokevirtual 53, 3) := by decide +kernel
theorem dX9_sets_30 : decode cX9_sets 30 = .ok (.ifCond .eq 5, 3) := by decide +kernel
theorem dX9_sets_33 : decode cX9_sets 33 = .ok (.iconst 0, 1) := by decide +kernel
theorem dX9_sets_34 : decode cX9_sets 34 = .ok (.ireturn, 1) := by decide +kernel
theorem dX9_sets_35 : decode cX9_sets 35 = .ok (.aload_n 0, 1) := by decide +kernel
theorem dX9_sets_36 : decode cX9_sets 36 = .ok (.invokevirtual 56, 3) := by decide +kernel
theorem dX9_sets_39 : decode cX9_sets 39 = .ok (.aload_n 0, 1) := by decide +kernel
theorem dX9_sets_40 : decode cX9_sets 40 = .ok (.getfield 7, 3) := by decide +kernel
theorem dX9_sets_43 : decode cX9_sets 43 = .ok (.iload_n 1, 1) := by decide +kernel
theorem dX9_sets_44 : decode cX9_sets 44 = .ok (.iload_n 2, 1) := by decide +kernel
theorem dX9_sets_45 : decode cX9_sets 45 = .ok (.iadd, 1) := by decide +kernel
theorem dX9_sets_46 : decode cX9_sets 46 = .ok (.iaload, 1) := by decide +kernel
theorem dX9_sets_47 : decode cX9_sets 47 = .ok (.istore 4, 2) := by decide +kernel
theorem dX9_sets_49 : decode cX9_sets 49 = .ok (.aload_n 0, 1) := by decide +kernel
theorem dX9_sets_50 : decode cX9_sets 50 = .ok (.getfield 7, 3) := by decide +kernel
theorem dX9_sets_53 : decode cX9_sets 53 = .ok (.iload_n 1, 1) := by decide +kernel
theorem dX9_sets_54 : decode cX9_sets 54 = .ok (.iload_n 2, 1) := by decide +kernel
theorem dX9_sets_55 : decode cX9_sets 55 = .ok (.iadd, 1) := by decide +kernel
theorem dX9_sets_56 : decode cX9_sets 56 = .ok (.iload_n 3, 1) := by decide +kernel
theorem dX9_sets_57 : decode cX9_sets 57 = .ok (.iastore, 1) := by decide +kernel
theorem dX9_sets_58 : decode cX9_sets 58 = .ok (.iload 4, 2) := by decide +kernel
theorem dX9_sets_60 : decode cX9_sets 60 = .ok (.ireturn, 1) := by decide +kernel
set_option maxRecDepth 20000 in
theorem ggX9_ear_X9_sets : GoodIn wsX9_ear wsX9_sets := goodIn_r _ [5, 6, 7, 8, 4, 9, 10, 11, 12, 13, 14, 15, 16, 17, 18, 19, 20, 21, 22, 23, 24, 25, 26, 27, 28, 29, 30, 31, 32, 33, 34, 35, 36, 37, 38, 39, 40, 41, 42, 43, 44, 45] (by decide +kernel) (by decide +kernel)
set_option maxRecDepth 20000 in
theorem gX9_ear_X9_sets : GoodIn wsX9_ear (wsV RX9 59 RX9 yX9_sets wsX9_sets) := goodIn_app (goodIn_of _ (by decide +kernel)) ggX9_ear_X9_sets
theorem dX9_ear_0 : decode cX9_ear 0 = .ok (.aload_n 0, 1) := by decide +kernel
theorem dX9_ear_1 : decode cX9_ear 1 = .ok (.sipush 180, 3) := by decide +kernel
theorem dX9_ear_4 : decode cX9_ear 4 = .ok (.iload_n 1, 1) := by decide +kernel
theorem dX9_ear_5 : decode cX9_ear 5 = .ok (.iload_n 2, 1) := by decide +kernel
theorem dX9_ear_6 : decode cX9_ear 6 = .ok (.invokevirtual 59, 3) := by decide +kernel
theorem dX9_ear_9 : decode cX9_ear 9 = .ok (.ireturn, 1) := by decide +kernel
set_option maxRecDepth 20000 in
theorem ggX9_fee_X9_sets : GoodIn wsX9_fee wsX9_sets := goodIn_r _ [5, 6, 7, 8, 4, 9, 10, 11, 12, 13, 14, 15, 16, 17, 18, 19, 20, 21, 22, 23, 24, 25, 26, 27, 28, 29, 30, 31, 32, 33, 34, 35, 36, 37, 38, 39, 40, 41, 42, 43, 44, 45] (by decide +kernel) (by decide +kernel)
set_option maxRecDepth 20000 in
theorem gX9_fee_X9_sets : GoodIn wsX9_fee (wsV RX9 59 RX9 yX9_sets wsX9_sets) := goodIn_app (goodIn_of _ (by decide +kernel)) ggX9_fee_X9_sets
theorem dX9_fee_0 : decode cX9_fee 0 = .ok (.aload_n 0, 1) := by decide +kernel
theorem dX9_fee_1 : decode cX9_fee 1 = .ok (.sipush 186, 3) := by decide +kernel
theorem dX9_fee_4 : decode cX9_fee 4 = .ok (.iload_n 1, 1) := by decide +kernel
theorem dX9_fee_5 : decode cX9_fee 5 = .ok (.iload_n 2, 1) := by decide +kernel
theorem dX9_fee_6 : decode cX9_fee 6 = .ok (.invokevirtual 59, 3) := by decide +kernel
theorem dX9_fee_9 : decode cX9_fee 9 = .ok (.ireturn, 1) := by decide +kernel
set_option maxRecDepth 20000 in
theorem ggX9_hears_X9_meant : GoodIn wsX9_hears wsX9_meant := goodIn_r _ [11, 5, 16, 17, 18, 19, 20, 21, 22, 23, 24, 25, 26, 27, 28, 29, 30, 31, 32, 33, 34, 35, 36, 37] (by decide +kernel) (by decide +kernel)
set_option maxRecDepth 20000 in
theorem gX9_hears_X9_meant : GoodIn wsX9_hears (wsV RX9 42 RX9 yX9_meant wsX9_meant) := goodIn_app (goodIn_of _ (by decide +kernel)) ggX9_hears_X9_meant
set_option maxRecDepth 20000 in
theorem ggX9_hears_X9_lowest : GoodIn wsX9_hears wsX9_lowest := goodIn_r _ [15, 7, 8, 9, 10, 11, 5, 16, 17, 18, 19, 20, 21, 22, 23, 24, 25, 26, 27, 28, 29, 30, 31, 32, 33, 34, 35, 36, 37] (by decide +kernel) (by decide +kernel)
set_option maxRecDepth 20000 in
theorem gX9_hears_X9_lowest : GoodIn wsX9_hears (wsV RX9 73 RX9 yX9_lowest wsX9_lowest) := goodIn_app (goodIn_of _ (by decide +kernel)) ggX9_hears_X9_lowest
theorem dX9_hears_0 : decode cX9_hears 0 = .ok (.aload_n 0, 1) := by decide +kernel
theorem dX9_hears_1 : decode cX9_hears 1 = .ok (.iconst 0, 1) := by decide +kernel
theorem dX9_hears_2 : decode cX9_hears 2 = .ok (.putfield 63, 3) := by decide +kernel
theorem dX9_hears_5 : decode cX9_hears 5 = .ok (.aload_n 0, 1) := by decide +kernel
theorem dX9_hears_6 : decode cX9_hears 6 = .ok (.iconst 0, 1) := by decide +kernel
theorem dX9_hears_7 : decode cX9_hears 7 = .ok (.putfield 66, 3) := by decide +kernel
theorem dX9_hears_10 : decode cX9_hears 10 = .ok (.iconst 0, 1) := by decide +kernel
theorem dX9_hears_11 : decode cX9_hears 11 = .ok (.istore_n 3, 1) := by decide +kernel
theorem dX9_hears_12 : decode cX9_hears 12 = .ok (.iconst 0, 1) := by decide +kernel
theorem dX9_hears_13 : decode cX9_hears 13 = .ok (.istore 4, 2) := by decide +kernel
theorem dX9_hears_15 : decode cX9_hears 15 = .ok (.iload 4, 2) := by decide +kernel
theorem dX9_hears_17 : decode cX9_hears 17 = .ok (.aload_n 0, 1) := by decide +kernel
theorem dX9_hears_18 : decode cX9_hears 18 = .ok (.getfield 70, 3) := by decide +kernel
theorem dX9_hears_21 : decode cX9_hears 21 = .ok (.if_icmp .ge 136, 3) := by decide +kernel
theorem dX9_hears_24 : decode cX9_hears 24 = .ok (.aload_n 0, 1) := by decide +kernel
theorem dX9_hears_25 : decode cX9_hears 25 = .ok (.getfield 22, 3) := by decide +kernel
theorem dX9_hears_28 : decode cX9_hears 28 = .ok (.iload 4, 2) := by decide +kernel
theorem dX9_hears_30 : decode cX9_hears 30 = .ok (.iaload, 1) := by decide +kernel
theorem dX9_hears_31 : decode cX9_hears 31 = .ok (.istore 5, 2) := by decide +kernel
theorem dX9_hears_33 : decode cX9_hears 33 = .ok (.iload_n 2, 1) := by decide +kernel
theorem dX9_hears_34 : decode cX9_hears 34 = .ok (.ifCond .le 32, 3) := by decide +kernel
theorem dX9_hears_37 : decode cX9_hears 37 = .ok (.iload 4, 2) := by decide +kernel
theorem dX9_hears_39 : decode cX9_hears 39 = .ok (.iconst 1, 1) := by decide +kernel
theorem dX9_hears_40 : decode cX9_hears 40 = .ok (.iadd, 1) := by decide +kernel
theorem dX9_hears_41 : decode cX9_hears 41 = .ok (.iload_n 2, 1) := by decide +kernel
theorem dX9_hears_42 : decode cX9_hears 42 = .ok (.iconst 1, 1) := by decide +kernel
theorem dX9_hears_43 : decode cX9_hears 43 = .ok (.iadd, 1) := by decide +kernel
theorem dX9_hears_44 : decode cX9_hears 44 = .ok (.irem, 1) := by decide +kernel
theorem dX9_hears_45 : decode cX9_hears 45 = .ok (.ifCond .ne 21, 3) := by decide +kernel
theorem dX9_hears_48 : decode cX9_hears 48 = .ok (.aload_n 0, 1) := by decide +kernel
theorem dX9_hears_49 : decode cX9_hears 49 = .ok (.dup, 1) := by decide +kernel
theorem dX9_hears_50 : decode cX9_hears 50 = .ok (.getfield 63, 3) := by decide +kernel
theorem dX9_hears_53 : decode cX9_hears 53 = .ok (.iconst 1, 1) := by decide +kernel
theorem dX9_hears_54 : decode cX9_hears 54 = .ok (.iadd, 1) := by decide +kernel
theorem dX9_hears_55 : decode cX9_hears 55 = .ok (.putfield 63, 3) := by decide +kernel
theorem dX9_hears_58 : decode cX9_hears 58 = .ok (.aload_n 0, 1) := by decide +kernel
theorem dX9_hears_59 : decode cX9_hears 59 = .ok (.iconst 1, 1) := by decide +kernel
theorem dX9_hears_60 : decode cX9_hears 60 = .ok (.putfield 66, 3) := by decide +kernel
theorem dX9_hears_63 : decode cX9_hears 63 = .ok (.goto 88, 3) := by decide +kernel
theorem dX9_hears_66 : decode cX9_hears 66 = .ok (.iload 5, 2) := by decide +kernel
theorem dX9_hears_68 : decode cX9_hears 68 = .ok (.bipush 30, 2) := by decide +kernel
theorem dX9_hears_70 : decode cX9_hears 70 = .ok (.if_icmp .eq 14, 3) := by decide +kernel
theorem dX9_hears_73 : decode cX9_hears 73 = .ok (.aload_n 0, 1) := by decide +kernel
theorem dX9_hears_74 : decode cX9_hears 74 = .ok (.iload_n 1, 1) := by decide +kernel
theorem dX9_hears_75 : decode cX9_hears 75 = .ok (.iload 5, 2) := by decide +kernel
theorem dX9_hears_77 : decode cX9_hears 77 = .ok (.invokevirtual 42, 3) := by decide +kernel
theorem dX9_hears_80 : decode cX9_hears 80 = .ok (.iconst (-1), 1) := by decide +kernel
theorem dX9_hears_81 : decode cX9_hears 81 = .ok (.if_icmp .ne 8, 3) := by decide +kernel
theorem dX9_hears_84 : decode cX9_hears 84 = .ok (.bipush 30, 2) := by decide +kernel
theorem dX9_hears_86 : decode cX9_hears 86 = .ok (.goto 10, 3) := by decide +kernel
theorem dX9_hears_89 : decode cX9_hears 89 = .ok (.aload_n 0, 1) := by decide +kernel
theorem dX9_hears_90 : decode cX9_hears 90 = .ok (.iload_n 1, 1) := by decide +kernel
theorem dX9_hears_91 : decode cX9_hears 91 = .ok (.iload 5, 2) := by decide +kernel
theorem dX9_hears_93 : decode cX9_hears 93 = .ok (.invokevirtual 42, 3) := by decide +kernel
theorem dX9_hears_96 : decode cX9_hears 96 = .ok (.istore 6, 2) := by decide +kernel
theorem dX9_hears_98 : decode cX9_hears 98 = .ok (.aload_n 0, 1) := by decide +kernel
theorem dX9_hears_99 : decode cX9_hears 99 = .ok (.aload_n 0, 1) := by decide +kernel
theorem dX9_hears_100 : decode cX9_hears 100 = .ok (.getfield 66, 3) := by decide +kernel
theorem dX9_hears_103 : decode cX9_hears 103 = .ok (.ifCond .ne 29, 3) := by decide +kernel
theorem dX9_hears_106 : decode cX9_hears 106 = .ok (.iload 5, 2) := by decide +kernel
theorem dX9_hears_108 : decode cX9_hears 108 = .ok (.bipush 30, 2) := by decide +kernel
theorem dX9_hears_110 : decode cX9_hears 110 = .ok (.if_icmp .eq 26, 3) := by decide +kernel
theorem dX9_hears_113 : decode cX9_hears 113 = .ok (.iload 6, 2) := by decide +kernel
theorem dX9_hears_115 : decode cX9_hears 115 = .ok (.bipush 30, 2) := by decide +kernel
theorem dX9_hears_117 : decode cX9_hears 117 = .ok (.if_icmp .eq 15, 3) := by decide +kernel
theorem dX9_hears_120 : decode cX9_hears 120 = .ok (.aload_n 0, 1) := by decide +kernel
theorem dX9_hears_121 : decode cX9_hears 121 = .ok (.iload_n 1, 1) := by decide +kernel
theorem dX9_hears_122 : decode cX9_hears 122 = .ok (.iload 6, 2) := by decide +kernel
theorem dX9_hears_124 : decode cX9_hears 124 = .ok (.invokevirtual 73, 3) := by decide +kernel
theorem dX9_hears_127 : decode cX9_hears 127 = .ok (.iload 5, 2) := by decide +kernel
theorem dX9_hears_129 : decode cX9_hears 129 = .ok (.if_icmp .eq 7, 3) := by decide +kernel
theorem dX9_hears_132 : decode cX9_hears 132 = .ok (.iconst 1, 1) := by decide +kernel
theorem dX9_hears_133 : decode cX9_hears 133 = .ok (.goto 4, 3) := by decide +kernel
theorem dX9_hears_136 : decode cX9_hears 136 = .ok (.iconst 0, 1) := by decide +kernel
theorem dX9_hears_137 : decode cX9_hears 137 = .ok (.putfield 66, 3) := by decide +kernel
theorem dX9_hears_140 : decode cX9_hears 140 = .ok (.aload_n 0, 1) := by decide +kernel
theorem dX9_hears_141 : decode cX9_hears 141 = .ok (.getfield 22, 3) := by decide +kernel
theorem dX9_hears_144 : decode cX9_hears 144 = .ok (.iload_n 3, 1) := by decide +kernel
theorem dX9_hears_145 : decode cX9_hears 145 = .ok (.iload 6, 2) := by decide +kernel
theorem dX9_hears_147 : decode cX9_hears 147 = .ok (.iastore, 1) := by decide +kernel
theorem dX9_hears_148 : decode cX9_hears 148 = .ok (.iinc 3 1, 3) := by decide +kernel
theorem dX9_hears_151 : decode cX9_hears 151 = .ok (.iinc 4 1, 3) := by decide +kernel
theorem dX9_hears_154 : decode cX9_hears 154 = .ok (.goto (-139), 3) := by decide +kernel
theorem dX9_hears_157 : decode cX9_hears 157 = .ok (.aload_n 0, 1) := by decide +kernel
theorem dX9_hears_158 : decode cX9_hears 158 = .ok (.iload_n 3, 1) := by decide +kernel
theorem dX9_hears_159 : decode cX9_hears 159 = .ok (.putfield 70, 3) := by decide +kernel
theorem dX9_hears_162 : decode cX9_hears 162 = .ok (.aload_n 0, 1) := by decide +kernel
theorem dX9_hears_163 : decode cX9_hears 163 = .ok (.iload_n 3, 1) := by decide +kernel
theorem dX9_hears_164 : decode cX9_hears 164 = .ok (.aload_n 0, 1) := by decide +kernel
theorem dX9_hears_165 : decode cX9_hears 165 = .ok (.getfield 7, 3) := by decide +kernel
theorem dX9_hears_168 : decode cX9_hears 168 = .ok (.sipush 186, 3) := by decide +kernel
theorem dX9_hears_171 : decode cX9_hears 171 = .ok (.iload_n 1, 1) := by decide +kernel
theorem dX9_hears_172 : decode cX9_hears 172 = .ok (.iadd, 1) := by decide +kernel
theorem dX9_hears_173 : decode cX9_hears 173 = .ok (.iaload, 1) := by decide +kernel
theorem dX9_hears_174 : decode cX9_hears 174 = .ok (.imul, 1) := by decide +kernel
theorem dX9_hears_175 : decode cX9_hears 175 = .ok (.putfield 76, 3) := by decide +kernel
theorem dX9_hears_178 : decode cX9_hears 178 = .ok (.return_, 1) := by decide +kernel
theorem dX9_lays_0 : decode cX9_lays 0 = .ok (.aload_n 0, 1) := by decide +kernel
theorem dX9_lays_1 : decode cX9_lays 1 = .ok (.aload_n 0, 1) := by decide +kernel
theorem dX9_lays_2 : decode cX9_lays 2 = .ok (.getfield 7, 3) := by decide +kernel
theorem dX9_lays_5 : decode cX9_lays 5 = .ok (.sipush 192, 3) := by decide +kernel
theorem dX9_lays_8 : decode cX9_lays 8 = .ok (.bipush 14, 2) := by decide +kernel
theorem dX9_lays_10 : decode cX9_lays 10 = .ok (.iload_n 1, 1) := by decide +kernel
theorem dX9_lays_11 : decode cX9_lays 11 = .ok (.imul, 1) := by decide +kernel
theorem dX9_lays_12 : decode cX9_lays 12 = .ok (.iadd, 1) := by decide +kernel
theorem dX9_lays_13 : decode cX9_lays 13 = .ok (.iconst 0, 1) := by decide +kernel
theorem dX9_lays_14 : decode cX9_lays 14 = .ok (.iadd, 1) := by decide +kernel
theorem dX9_lays_15 : decode cX9_lays 15 = .ok (.iaload, 1) := by decide +kernel
theorem dX9_lays_16 : decode cX9_lays 16 = .ok (.putfield 70, 3) := by decide +kernel
theorem dX9_lays_19 : decode cX9_lays 19 = .ok (.iconst 0, 1) := by decide +kernel
theorem dX9_lays_20 : decode cX9_lays 20 = .ok (.istore_n 2, 1) := by decide +kernel
theorem dX9_lays_21 : decode cX9_lays 21 = .ok (.iload_n 2, 1) := by decide +kernel
theorem dX9_lays_22 : decode cX9_lays 22 = .ok (.aload_n 0, 1) := by decide +kernel
theorem dX9_lays_23 : decode cX9_lays 23 = .ok (.getfield 70, 3) := by decide +kernel
theorem dX9_lays_26 : decode cX9_lays 26 = .ok (.if_icmp .ge 32, 3) := by decide +kernel
theorem dX9_lays_29 : decode cX9_lays 29 = .ok (.aload_n 0, 1) := by decide +kernel
theorem dX9_lays_30 : decode cX9_lays 30 = .ok (.getfield 22, 3) := by decide +kernel
theorem dX9_lays_33 : decode cX9_lays 33 = .ok (.iload_n 2, 1) := by decide +kernel
theorem dX9_lays_34 : decode cX9_lays 34 = .ok (.aload_n 0, 1) := by decide +kernel
theorem dX9_lays_35 : decode cX9_lays 35 = .ok (.getfield 7, 3) := by decide +kernel
theorem dX9_lays_38 : decode cX9_lays 38 = .ok (.sipush 192, 3) := by decide +kernel
theorem dX9_lays_41 : decode cX9_lays 41 = .ok (.bipush 14, 2) := by decide +kernel
theorem dX9_lays_43 : decode cX9_lays 43 = .ok (.iload_n 1, 1) := by decide +kernel
theorem dX9_lays_44 : decode cX9_lays 44 = .ok (.imul, 1) := by decide +kernel
theorem dX9_lays_45 : decode cX9_lays 45 = .ok (.iadd, 1) := by decide +kernel
theorem dX9_lays_46 : decode cX9_lays 46 = .ok (.iconst 2, 1) := by decide +kernel
theorem dX9_lays_47 : decode cX9_lays 47 = .ok (.iadd, 1) := by decide +kernel
theorem dX9_lays_48 : decode cX9_lays 48 = .ok (.iload_n 2, 1) := by decide +kernel
theorem dX9_lays_49 : decode cX9_lays 49 = .ok (.iadd, 1) := by decide +kernel
theorem dX9_lays_50 : decode cX9_lays 50 = .ok (.iaload, 1) := by decide +kernel
theorem dX9_lays_51 : decode cX9_lays 51 = .ok (.iastore, 1) := by decide +kernel
theorem dX9_lays_52 : decode cX9_lays 52 = .ok (.iinc 2 1, 3) := by decide +kernel
theorem dX9_lays_55 : decode cX9_lays 55 = .ok (.goto (-34), 3) := by decide +kernel
theorem dX9_lays_58 : decode cX9_lays 58 = .ok (.return_, 1) := by decide +kernel
set_option maxRecDepth 20000 in
theorem ggX9_comesBack_X9_lowest : GoodIn wsX9_comesBack wsX9_lowest := goodIn_r _ [9, 10, 11, 12, 8, 13, 2, 14, 15, 16, 17, 18, 19, 20, 21, 22, 23, 24, 25, 26, 27, 28, 29, 30, 31, 32, 33, 34, 35] (by decide +kernel) (by decide +kernel)
set_option maxRecDepth 20000 in
theorem gX9_comesBack_X9_lowest : GoodIn wsX9_comesBack (wsV RX9 73 RX9 yX9_lowest wsX9_lowest) := goodIn_app (goodIn_of _ (by decide +kernel)) ggX9_comesBack_X9_lowest
theorem dX9_comesBack_0 : decode cX9_comesBack 0 = .ok (.aload_n 0, 1) := by decide +kernel
theorem dX9_comesBack_1 : decode cX9_comesBack 1 = .ok (.getfield 70, 3) := by decide +kernel
theorem dX9_comesBack_4 : decode cX9_comesBack 4 = .ok (.aload_n 0, 1) := by decide +kernel
theorem dX9_comesBack_5 : decode cX9_comesBack 5 = .ok (.getfield 7, 3) := by decide +kernel
theorem dX9_comesBack_8 : decode cX9_comesBack 8 = .ok (.sipush 192, 3) := by decide +kernel
theorem dX9_comesBack_11 : decode cX9_comesBack 11 = .ok (.bipush 14, 2) := by decide +kernel
theorem dX9_comesBack_13 : decode cX9_comesBack 13 = .ok (.iload_n 2, 1) := by decide +kernel
theorem dX9_comesBack_14 : decode cX9_comesBack 14 = .ok (.imul, 1) := by decide +kernel
theorem dX9_comesBack_15 : decode cX9_comesBack 15 = .ok (.iadd, 1) := by decide +kernel
theorem dX9_comesBack_16 : decode cX9_comesBack 16 = .ok (.iconst 0, 1) := by decide +kernel
theorem dX9_comesBack_17 : decode cX9_comesBack 17 = .ok (.iadd, 1) := by decide +kernel
theorem dX9_comesBack_18 : decode cX9_comesBack 18 = .ok (.iaload, 1) := by decide +kernel
theorem dX9_comesBack_19 : decode cX9_comesBack 19 = .ok (.if_icmp .ne 7, 3) := by decide +kernel
theorem dX9_comesBack_22 : decode cX9_comesBack 22 = .ok (.iconst 1, 1) := by decide +kernel
theorem dX9_comesBack_23 : decode cX9_comesBack 23 = .ok (.goto 4, 3) := by decide +kernel
theorem dX9_comesBack_26 : decode cX9_comesBack 26 = .ok (.iconst 0, 1) := by decide +kernel
theorem dX9_comesBack_27 : decode cX9_comesBack 27 = .ok (.istore_n 3, 1) := by decide +kernel
theorem dX9_comesBack_28 : decode cX9_comesBack 28 = .ok (.iconst 0, 1) := by decide +kernel
theorem dX9_comesBack_29 : decode cX9_comesBack 29 = .ok (.istore 4, 2) := by decide +kernel
theorem dX9_comesBack_31 : decode cX9_comesBack 31 = .ok (.iload 4, 2) := by decide +kernel
theorem dX9_comesBack_33 : decode cX9_comesBack 33 = .ok (.aload_n 0, 1) := by decide +kernel
theorem dX9_comesBack_34 : decode cX9_comesBack 34 = .ok (.getfield 70, 3) := by decide +kernel
theorem dX9_comesBack_37 : decode cX9_comesBack 37 = .ok (.if_icmp .ge 74, 3) := by decide +kernel
theorem dX9_comesBack_40 : decode cX9_comesBack 40 = .ok (.aload_n 0, 1) := by decide +kernel
theorem dX9_comesBack_41 : decode cX9_comesBack 41 = .ok (.getfield 25, 3) := by decide +kernel
theorem dX9_comesBack_44 : decode cX9_comesBack 44 = .ok (.iload 4, 2) := by decide +kernel
theorem dX9_comesBack_46 : decode cX9_comesBack 46 = .ok (.aload_n 0, 1) := by decide +kernel
theorem dX9_comesBack_47 : decode cX9_comesBack 47 = .ok (.getfield 22, 3) := by decide +kernel
theorem dX9_comesBack_50 : decode cX9_comesBack 50 = .ok (.iload 4, 2) := by decide +kernel
theorem dX9_comesBack_52 : decode cX9_comesBack 52 = .ok (.iaload, 1) := by decide +kernel
theorem dX9_comesBack_53 : decode cX9_comesBack 53 = .ok (.iastore, 1) := by decide +kernel
theorem dX9_comesBack_54 : decode cX9_comesBack 54 = .ok (.iload_n 1, 1) := by decide +kernel
theorem dX9_comesBack_55 : decode cX9_comesBack 55 = .ok (.istore 5, 2) := by decide +kernel
theorem dX9_comesBack_57 : decode cX9_comesBack 57 = .ok (.iload 5, 2) := by decide +kernel
theorem dX9_comesBack_59 : decode cX9_comesBack 59 = .ok (.ifCond .lt 46, 3) := by decide +kernel
theorem dX9_comesBack_62 : decode cX9_comesBack 62 = .ok (.aload_n 0, 1) := by decide +kernel
theorem dX9_comesBack_63 : decode cX9_comesBack 63 = .ok (.getfield 25, 3) := by decide +kernel
theorem dX9_comesBack_66 : decode cX9_comesBack 66 = .ok (.iload 4, 2) := by decide +kernel
theorem dX9_comesBack_68 : decode cX9_comesBack 68 = .ok (.aload_n 0, 1) := by decide +kernel
theorem dX9_comesBack_69 : decode cX9_comesBack 69 = .ok (.getfield 25, 3) := by decide +kernel
theorem dX9_comesBack_72 : decode cX9_comesBack 72 = .ok (.iload 4, 2) := by decide +kernel
theorem dX9_comesBack_74 : decode cX9_comesBack 74 = .ok (.iaload, 1) := by decide +kernel
theorem dX9_comesBack_75 : decode cX9_comesBack 75 = .ok (.bipush 30, 2) := by decide +kernel
theorem dX9_comesBack_77 : decode cX9_comesBack 77 = .ok (.if_icmp .ne 8, 3) := by decide +kernel
theorem dX9_comesBack_80 : decode cX9_comesBack 80 = .ok (.bipush 30, 2) := by decide +kernel
theorem dX9_comesBack_82 : decode cX9_comesBack 82 = .ok (.goto 16, 3) := by decide +kernel
theorem dX9_comesBack_85 : decode cX9_comesBack 85 = .ok (.aload_n 0, 1) := by decide +kernel
theorem dX9_comesBack_86 : decode cX9_comesBack 86 = .ok (.iload 5, 2) := by decide +kernel
theorem dX9_comesBack_88 : decode cX9_comesBack 88 = .ok (.aload_n 0, 1) := by decide +kernel
theorem dX9_comesBack_89 : decode cX9_comesBack 89 = .ok (.getfield 25, 3) := by decide +kernel
theorem dX9_comesBack_92 : decode cX9_comesBack 92 = .ok (.iload 4, 2) := by decide +kernel
theorem dX9_comesBack_94 : decode cX9_comesBack 94 = .ok (.iaload, 1) := by decide +kernel
theorem dX9_comesBack_95 : decode cX9_comesBack 95 = .ok (.invokevirtual 73, 3) := by decide +kernel
theorem dX9_comesBack_98 : decode cX9_comesBack 98 = .ok (.iastore, 1) := by decide +kernel
theorem dX9_comesBack_99 : decode cX9_comesBack 99 = .ok (.iinc 5 (-1), 3) := by decide +kernel
theorem dX9_comesBack_102 : decode cX9_comesBack 102 = .ok (.goto (-45), 3) := by decide +kernel
theorem dX9_comesBack_105 : decode cX9_comesBack 105 = .ok (.iinc 4 1, 3) := by decide +kernel
theorem dX9_comesBack_108 : decode cX9_comesBack 108 = .ok (.goto (-77), 3) := by decide +kernel
theorem dX9_comesBack_111 : decode cX9_comesBack 111 = .ok (.iconst 0, 1) := by decide +kernel
theorem dX9_comesBack_112 : decode cX9_comesBack 112 = .ok (.istore 4, 2) := by decide +kernel
theorem dX9_comesBack_114 : decode cX9_comesBack 114 = .ok (.iload 4, 2) := by decide +kernel
theorem dX9_comesBack_116 : decode cX9_comesBack 116 = .ok (.aload_n 0, 1) := by decide +kernel
theorem dX9_comesBack_117 : decode cX9_comesBack 117 = .ok (.getfield 70, 3) := by decide +kernel
theorem dX9_comesBack_120 : decode cX9_comesBack 120 = .ok (.if_icmp .ge 47, 3) := by decide +kernel
theorem dX9_comesBack_123 : decode cX9_comesBack 123 = .ok (.iload_n 3, 1) := by decide +kernel
theorem dX9_comesBack_124 : decode cX9_comesBack 124 = .ok (.ifCond .eq 43, 3) := by decide +kernel
theorem dX9_comesBack_127 : decode cX9_comesBack 127 = .ok (.aload_n 0, 1) := by decide +kernel
theorem dX9_comesBack_128 : decode cX9_comesBack 128 = .ok (.getfield 25, 3) := by decide +kernel
theorem dX9_comesBack_131 : decode cX9_comesBack 131 = .ok (.iload 4, 2) := by decide +kernel
theorem dX9_comesBack_133 : decode cX9_comesBack 133 = .ok (.iaload, 1) := by decide +kernel
theorem dX9_comesBack_134 : decode cX9_comesBack 134 = .ok (.aload_n 0, 1) := by decide +kernel
theorem dX9_comesBack_135 : decode cX9_comesBack 135 = .ok (.getfield 7, 3) := by decide +kernel
theorem dX9_comesBack_138 : decode cX9_comesBack 138 = .ok (.sipush 192, 3) := by decide +kernel
theorem dX9_comesBack_141 : decode cX9_comesBack 141 = .ok (.bipush 14, 2) := by decide +kernel
theorem dX9_comesBack_143 : decode cX9_comesBack 143 = .ok (.iload_n 2, 1) := by decide +kernel
theorem dX9_comesBack_144 : decode cX9_comesBack 144 = .ok (.imul, 1) := by decide +kernel
theorem dX9_comesBack_145 : decode cX9_comesBack 145 = .ok (.iadd, 1) := by decide +kernel
theorem dX9_comesBack_146 : decode cX9_comesBack 146 = .ok (.iconst 2, 1) := by decide +kernel
theorem dX9_comesBack_147 : decode cX9_comesBack 147 = .ok (.iadd, 1) := by decide +kernel
theorem dX9_comesBack_148 : decode cX9_comesBack 148 = .ok (.iload 4, 2) := by decide +kernel
theorem dX9_comesBack_150 : decode cX9_comesBack 150 = .ok (.iadd, 1) := by decide +kernel
theorem dX9_comesBack_151 : decode cX9_comesBack 151 = .ok (.iaload, 1) := by decide +kernel
theorem dX9_comesBack_152 : decode cX9_comesBack 152 = .ok (.if_icmp .ne 7, 3) := by decide +kernel
theorem dX9_comesBack_155 : decode cX9_comesBack 155 = .ok (.iconst 1, 1) := by decide +kernel
theorem dX9_comesBack_156 : decode cX9_comesBack 156 = .ok (.goto 4, 3) := by decide +kernel
theorem dX9_comesBack_159 : decode cX9_comesBack 159 = .ok (.iconst 0, 1) := by decide +kernel
theorem dX9_comesBack_160 : decode cX9_comesBack 160 = .ok (.istore_n 3, 1) := by decide +kernel
theorem dX9_comesBack_161 : decode cX9_comesBack 161 = .ok (.iinc 4 1, 3) := by decide +kernel
theorem dX9_comesBack_164 : decode cX9_comesBack 164 = .ok (.goto (-50), 3) := by decide +kernel
theorem dX9_comesBack_167 : decode cX9_comesBack 167 = .ok (.iload_n 3, 1) := by decide +kernel
theorem dX9_comesBack_168 : decode cX9_comesBack 168 = .ok (.ireturn, 1) := by decide +kernel
theorem dX9_mumbles_0 : decode cX9_mumbles 0 = .ok (.iconst 0, 1) := by decide +kernel
theorem dX9_mumbles_1 : decode cX9_mumbles 1 = .ok (.istore_n 1, 1) := by decide +kernel
theorem dX9_mumbles_2 : decode cX9_mumbles 2 = .ok (.iconst 0, 1) := by decide +kernel
theorem dX9_mumbles_3 : decode cX9_mumbles 3 = .ok (.istore_n 2, 1) := by decide +kernel
theorem dX9_mumbles_4 : decode cX9_mumbles 4 = .ok (.iload_n 2, 1) := by decide +kernel
theorem dX9_mumbles_5 : decode cX9_mumbles 5 = .ok (.aload_n 0, 1) := by decide +kernel
theorem dX9_mumbles_6 : decode cX9_mumbles 6 = .ok (.getfield 70, 3) := by decide +kernel
theorem dX9_mumbles_9 : decode cX9_mumbles 9 = .ok (.if_icmp .ge 28, 3) := by decide +kernel
theorem dX9_mumbles_12 : decode cX9_mumbles 12 = .ok (.iload_n 1, 1) := by decide +kernel
theorem dX9_mumbles_13 : decode cX9_mumbles 13 = .ok (.aload_n 0, 1) := by decide +kernel
theorem dX9_mumbles_14 : decode cX9_mumbles 14 = .ok (.getfield 22, 3) := by decide +kernel
theorem dX9_mumbles_17 : decode cX9_mumbles 17 = .ok (.iload_n 2, 1) := by decide +kernel
theorem dX9_mumbles_18 : decode cX9_mumbles 18 = .ok (.iaload, 1) := by decide +kernel
theorem dX9_mumbles_19 : decode cX9_mumbles 19 = .ok (.bipush 30, 2) := by decide +kernel
theorem dX9_mumbles_21 : decode cX9_mumbles 21 = .ok (.if_icmp .ne 7, 3) := by decide +kernel
theorem dX9_mumbles_24 : decode cX9_mumbles 24 = .ok (.iconst 1, 1) := by decide +kernel
theorem dX9_mumbles_25 : decode cX9_mumbles 25 = .ok (.goto 4, 3) := by decide +kernel
theorem dX9_mumbles_28 : decode cX9_mumbles 28 = .ok (.iconst 0, 1) := by decide +kernel
theorem dX9_mumbles_29 : decode cX9_mumbles 29 = .ok (.iadd, 1) := by decide +kernel
theorem dX9_mumbles_30 : decode cX9_mumbles 30 = .ok (.istore_n 1, 1) := by decide +kernel
theorem dX9_mumbles_31 : decode cX9_mumbles 31 = .ok (.iinc 2 1, 3) := by decide +kernel
theorem dX9_mumbles_34 : decode cX9_mumbles 34 = .ok (.goto (-30), 3) := by decide +kernel
theorem dX9_mumbles_37 : decode cX9_mumbles 37 = .ok (.iload_n 1, 1) := by decide +kernel
theorem dX9_mumbles_38 : decode cX9_mumbles 38 = .ok (.ireturn, 1) := by decide +kernel
set_option maxRecDepth 20000 in
theorem ggX9_lostOf_X9_hears : GoodIn wsX9_lostOf wsX9_hears := goodIn_r _ [8, 9, 3, 1, 2, 10, 11, 12, 13, 14, 7, 15, 16, 17, 18, 19, 20, 21, 22, 23, 24, 25, 26, 27, 28, 29, 30, 31, 32, 33, 34, 35, 36, 37, 38, 39, 40, 41] (by decide +kernel) (by decide +kernel)
set_option maxRecDepth 20000 in
theorem gX9_lostOf_X9_hears : GoodIn wsX9_lostOf (wsV RX9 79 RX9 yX9_hears wsX9_hears) := goodIn_app (goodIn_of _ (by decide +kernel)) ggX9_lostOf_X9_hears
theorem dX9_lostOf_0 : decode cX9_lostOf 0 = .ok (.aload_n 0, 1) := by decide +kernel
theorem dX9_lostOf_1 : decode cX9_lostOf 1 = .ok (.iconst 1, 1) := by decide +kernel
theorem dX9_lostOf_2 : decode cX9_lostOf 2 = .ok (.putfield 70, 3) := by decide +kernel
theorem dX9_lostOf_5 : decode cX9_lostOf 5 = .ok (.aload_n 0, 1) := by decide +kernel
theorem dX9_lostOf_6 : decode cX9_lostOf 6 = .ok (.getfield 22, 3) := by decide +kernel
theorem dX9_lostOf_9 : decode cX9_lostOf 9 = .ok (.iconst 0, 1) := by decide +kernel
theorem dX9_lostOf_10 : decode cX9_lostOf 10 = .ok (.iload_n 1, 1) := by decide +kernel
theorem dX9_lostOf_11 : decode cX9_lostOf 11 = .ok (.iastore, 1) := by decide +kernel
theorem dX9_lostOf_12 : decode cX9_lostOf 12 = .ok (.iconst 0, 1) := by decide +kernel
theorem dX9_lostOf_13 : decode cX9_lostOf 13 = .ok (.istore_n 2, 1) := by decide +kernel
theorem dX9_lostOf_14 : decode cX9_lostOf 14 = .ok (.iload_n 2, 1) := by decide +kernel
theorem dX9_lostOf_15 : decode cX9_lostOf 15 = .ok (.bipush 6, 2) := by decide +kernel
theorem dX9_lostOf_17 : decode cX9_lostOf 17 = .ok (.if_icmp .ge 24, 3) := by decide +kernel
theorem dX9_lostOf_20 : decode cX9_lostOf 20 = .ok (.aload_n 0, 1) := by decide +kernel
theorem dX9_lostOf_21 : decode cX9_lostOf 21 = .ok (.iload_n 2, 1) := by decide +kernel
theorem dX9_lostOf_22 : decode cX9_lostOf 22 = .ok (.iconst 0, 1) := by decide +kernel
theorem dX9_lostOf_23 : decode cX9_lostOf 23 = .ok (.invokevirtual 79, 3) := by decide +kernel
theorem dX9_lostOf_26 : decode cX9_lostOf 26 = .ok (.aload_n 0, 1) := by decide +kernel
theorem dX9_lostOf_27 : decode cX9_lostOf 27 = .ok (.getfield 66, 3) := by decide +kernel
theorem dX9_lostOf_30 : decode cX9_lostOf 30 = .ok (.ifCond .eq 5, 3) := by decide +kernel
theorem dX9_lostOf_33 : decode cX9_lostOf 33 = .ok (.iload_n 2, 1) := by decide +kernel
theorem dX9_lostOf_34 : decode cX9_lostOf 34 = .ok (.ireturn, 1) := by decide +kernel
theorem dX9_lostOf_35 : decode cX9_lostOf 35 = .ok (.iinc 2 1, 3) := by decide +kernel
theorem dX9_lostOf_38 : decode cX9_lostOf 38 = .ok (.goto (-24), 3) := by decide +kernel
theorem dX9_lostOf_41 : decode cX9_lostOf 41 = .ok (.iconst (-1), 1) := by decide +kernel
theorem dX9_lostOf_42 : decode cX9_lostOf 42 = .ok (.ireturn, 1) := by decide +kernel
theorem dX9_ranked_0 : decode cX9_ranked 0 = .ok (.iconst 0, 1) := by decide +kernel
theorem dX9_ranked_1 : decode cX9_ranked 1 = .ok (.istore_n 2, 1) := by decide +kernel
theorem dX9_ranked_2 : decode cX9_ranked 2 = .ok (.iload_n 2, 1) := by decide +kernel
theorem dX9_ranked_3 : decode cX9_ranked 3 = .ok (.aload_n 0, 1) := by decide +kernel
theorem dX9_ranked_4 : decode cX9_ranked 4 = .ok (.getfield 7, 3) := by decide +kernel
theorem dX9_ranked_7 : decode cX9_ranked 7 = .ok (.sipush 304, 3) := by decide +kernel
theorem dX9_ranked_10 : decode cX9_ranked 10 = .ok (.iaload, 1) := by decide +kernel
theorem dX9_ranked_11 : decode cX9_ranked 11 = .ok (.if_icmp .ge 98, 3) := by decide +kernel
theorem dX9_ranked_14 : decode cX9_ranked 14 = .ok (.iconst 0, 1) := by decide +kernel
theorem dX9_ranked_15 : decode cX9_ranked 15 = .ok (.istore_n 3, 1) := by decide +kernel
theorem dX9_ranked_16 : decode cX9_ranked 16 = .ok (.iconst 0, 1) := by decide +kernel
theorem dX9_ranked_17 : decode cX9_ranked 17 = .ok (.istore 4, 2) := by decide +kernel
theorem dX9_ranked_19 : decode cX9_ranked 19 = .ok (.iload 4, 2) := by decide +kernel
theorem dX9_ranked_21 : decode cX9_ranked 21 = .ok (.aload_n 0, 1) := by decide +kernel
theorem dX9_ranked_22 : decode cX9_ranked 22 = .ok (.getfield 7, 3) := by decide +kernel
theorem dX9_ranked_25 : decode cX9_ranked 25 = .ok (.sipush 304, 3) := by decide +kernel
theorem dX9_ranked_28 : decode cX9_ranked 28 = .ok (.iaload, 1) := by decide +kernel
theorem dX9_ranked_29 : decode cX9_ranked 29 = .ok (.if_icmp .ge 67, 3) := by decide +kernel
theorem dX9_ranked_32 : decode cX9_ranked 32 = .ok (.aload_n 0, 1) := by decide +kernel
theorem dX9_ranked_33 : decode cX9_ranked 33 = .ok (.getfield 7, 3) := by decide +kernel
theorem dX9_ranked_36 : decode cX9_ranked 36 = .ok (.sipush 192, 3) := by decide +kernel
theorem dX9_ranked_39 : decode cX9_ranked 39 = .ok (.bipush 14, 2) := by decide +kernel
theorem dX9_ranked_41 : decode cX9_ranked 41 = .ok (.iload 4, 2) := by decide +kernel
theorem dX9_ranked_43 : decode cX9_ranked 43 = .ok (.imul, 1) := by decide +kernel
theorem dX9_ranked_44 : decode cX9_ranked 44 = .ok (.iadd, 1) := by decide +kernel
theorem dX9_ranked_45 : decode cX9_ranked 45 = .ok (.iconst 1, 1) := by decide +kernel
theorem dX9_ranked_46 : decode cX9_ranked 46 = .ok (.iadd, 1) := by decide +kernel
theorem dX9_ranked_47 : decode cX9_ranked 47 = .ok (.iaload, 1) := by decide +kernel
theorem dX9_ranked_48 : decode cX9_ranked 48 = .ok (.aload_n 0, 1) := by decide +kernel
theorem dX9_ranked_49 : decode cX9_ranked 49 = .ok (.getfield 7, 3) := by decide +kernel
theorem dX9_ranked_52 : decode cX9_ranked 52 = .ok (.sipush 192, 3) := by decide +kernel
theorem dX9_ranked_55 : decode cX9_ranked 55 = .ok (.bipush 14, 2) := by decide +kernel
theorem dX9_ranked_57 : decode cX9_ranked 57 = .ok (.iload_n 2, 1) := by decide +kernel
theorem dX9_ranked_58 : decode cX9_ranked 58 = .ok (.imul, 1) := by decide +kernel
theorem dX9_ranked_59 : decode cX9_ranked 59 = .ok (.iadd, 1) := by decide +kernel
theorem dX9_ranked_60 : decode cX9_ranked 60 = .ok (.iconst 1, 1) := by decide +kernel
theorem dX9_ranked_61 : decode cX9_ranked 61 = .ok (.iadd, 1) := by decide +kernel
theorem dX9_ranked_62 : decode cX9_ranked 62 = .ok (.iaload, 1) := by decide +kernel
theorem dX9_ranked_63 : decode cX9_ranked 63 = .ok (.isub, 1) := by decide +kernel
theorem dX9_ranked_64 : decode cX9_ranked 64 = .ok (.istore 5, 2) := by decide +kernel
theorem dX9_ranked_66 : decode cX9_ranked 66 = .ok (.iload_n 3, 1) := by decide +kernel
theorem dX9_ranked_67 : decode cX9_ranked 67 = .ok (.iload 5, 2) := by decide +kernel
theorem dX9_ranked_69 : decode cX9_ranked 69 = .ok (.ifCond .gt 14, 3) := by decide +kernel
theorem dX9_ranked_72 : decode cX9_ranked 72 = .ok (.iload 5, 2) := by decide +kernel
theorem dX9_ranked_74 : decode cX9_ranked 74 = .ok (.ifCond .ne 13, 3) := by decide +kernel
theorem dX9_ranked_77 : decode cX9_ranked 77 = .ok (.iload 4, 2) := by decide +kernel
theorem dX9_ranked_79 : decode cX9_ranked 79 = .ok (.iload_n 2, 1) := by decide +kernel
theorem dX9_ranked_80 : decode cX9_ranked 80 = .ok (.if_icmp .ge 7, 3) := by decide +kernel
theorem dX9_ranked_83 : decode cX9_ranked 83 = .ok (.iconst 1, 1) := by decide +kernel
theorem dX9_ranked_84 : decode cX9_ranked 84 = .ok (.goto 4, 3) := by decide +kernel
theorem dX9_ranked_87 : decode cX9_ranked 87 = .ok (.iconst 0, 1) := by decide +kernel
theorem dX9_ranked_88 : decode cX9_ranked 88 = .ok (.iadd, 1) := by decide +kernel
theorem dX9_ranked_89 : decode cX9_ranked 89 = .ok (.istore_n 3, 1) := by decide +kernel
theorem dX9_ranked_90 : decode cX9_ranked 90 = .ok (.iinc 4 1, 3) := by decide +kernel
theorem dX9_ranked_93 : decode cX9_ranked 93 = .ok (.goto (-74), 3) := by decide +kernel
theorem dX9_ranked_96 : decode cX9_ranked 96 = .ok (.iload_n 3, 1) := by decide +kernel
theorem dX9_ranked_97 : decode cX9_ranked 97 = .ok (.iload_n 1, 1) := by decide +kernel
theorem dX9_ranked_98 : decode cX9_ranked 98 = .ok (.if_icmp .ne 5, 3) := by decide +kernel
theorem dX9_ranked_101 : decode cX9_ranked 101 = .ok (.iload_n 2, 1) := by decide +kernel
theorem dX9_ranked_102 : decode cX9_ranked 102 = .ok (.ireturn, 1) := by decide +kernel
theorem dX9_ranked_103 : decode cX9_ranked 103 = .ok (.iinc 2 1, 3) := by decide +kernel
theorem dX9_ranked_106 : decode cX9_ranked 106 = .ok (.goto (-104), 3) := by decide +kernel
theorem dX9_ranked_109 : decode cX9_ranked 109 = .ok (.iconst (-1), 1) := by decide +kernel
theorem dX9_ranked_110 : decode cX9_ranked 110 = .ok (.ireturn, 1) := by decide +kernel
set_option maxRecDepth 20000 in
theorem ggX9_goes_X9_ranked : GoodIn wsX9_goes wsX9_ranked := goodIn_r _ [11, 1, 37, 38, 39, 40, 41, 42, 43, 44, 45, 46, 47, 48, 49, 50, 51, 52, 53, 54, 55, 56, 57, 58] (by decide +kernel) (by decide +kernel)
set_option maxRecDepth 20000 in
theorem gX9_goes_X9_ranked : GoodIn wsX9_goes (wsV RX9 83 RX9 yX9_ranked wsX9_ranked) := goodIn_app (goodIn_of _ (by decide +kernel)) ggX9_goes_X9_ranked
set_option maxRecDepth 20000 in
theorem ggX9_goes_X9_lays : GoodIn wsX9_goes wsX9_lays := goodIn_r _ [15, 1, 5, 6, 37, 38, 39, 40, 41, 42, 43, 44, 45, 46, 47, 48, 49, 50, 51, 52, 53, 54, 55, 56, 57, 58] (by decide +kernel) (by decide +kernel)
set_option maxRecDepth 20000 in
theorem gX9_goes_X9_lays : GoodIn wsX9_goes (wsV RX9 87 RX9 yX9_lays wsX9_lays) := goodIn_app (goodIn_of _ (by decide +kernel)) ggX9_goes_X9_lays
set_option maxRecDepth 20000 in
theorem ggX9_goes_X9_hears : GoodIn wsX9_goes wsX9_hears := goodIn_r _ [19, 2, 4, 5, 6, 1, 3, 20, 21, 22, 10, 23, 24, 25, 26, 27, 37, 38, 39, 40, 41, 42, 43, 44, 45, 46, 47, 48, 49, 50, 51, 52, 53, 54, 55, 56, 57, 58] (by decide +kernel) (by decide +kernel)
set_option maxRecDepth 20000 in
theorem gX9_goes_X9_hears : GoodIn wsX9_goes (wsV RX9 79 RX9 yX9_hears wsX9_hears) := goodIn_app (goodIn_of _ (by decide +kernel)) ggX9_goes_X9_hears
set_option maxRecDepth 20000 in
theorem ggX9_goes_X9_comesBack : GoodIn wsX9_goes wsX9_comesBack := goodIn_r _ [31, 5, 1, 32, 6, 24, 25, 26, 10, 27, 20, 21, 22, 23, 37, 38, 39, 40, 41, 42, 43, 44, 45, 46, 47, 48, 49, 50, 51, 52, 53, 54, 55, 56, 57, 58] (by decide +kernel) (by decide +kernel)
set_option maxRecDepth 20000 in
theorem gX9_goes_X9_comesBack : GoodIn wsX9_goes (wsV RX9 91 RX9 yX9_comesBack wsX9_comesBack) := goodIn_app (goodIn_of _ (by decide +kernel)) ggX9_goes_X9_comesBack
set_option maxRecDepth 20000 in
theorem ggX9_goes_X9_lostOf : GoodIn wsX9_goes wsX9_lostOf := goodIn_r _ [36, 5, 6, 4, 16, 17, 18, 10, 19, 2, 1, 3, 20, 21, 22, 23, 24, 25, 26, 27, 37, 38, 39, 40, 41, 42, 43, 44, 45, 46, 47, 48, 49, 50, 51, 52, 53, 54, 55, 56, 57, 58] (by decide +kernel) (by decide +kernel)
set_option maxRecDepth 20000 in
theorem gX9_goes_X9_lostOf : GoodIn wsX9_goes (wsV RX9 95 RX9 yX9_lostOf wsX9_lostOf) := goodIn_app (goodIn_of _ (by decide +kernel)) ggX9_goes_X9_lostOf
theorem dX9_goes_0 : decode cX9_goes 0 = .ok (.aload_n 0, 1) := by decide +kernel
theorem dX9_goes_1 : decode cX9_goes 1 = .ok (.iconst 0, 1) := by decide +kernel
theorem dX9_goes_2 : decode cX9_goes 2 = .ok (.invokevirtual 83, 3) := by decide +kernel
theorem dX9_goes_5 : decode cX9_goes 5 = .ok (.istore_n 1, 1) := by decide +kernel
theorem dX9_goes_6 : decode cX9_goes 6 = .ok (.iconst (-1), 1) := by decide +kernel
theorem dX9_goes_7 : decode cX9_goes 7 = .ok (.istore_n 2, 1) := by decide +kernel
theorem dX9_goes_8 : decode cX9_goes 8 = .ok (.iconst (-1), 1) := by decide +kernel
theorem dX9_goes_9 : decode cX9_goes 9 = .ok (.istore_n 3, 1) := by decide +kernel
theorem dX9_goes_10 : decode cX9_goes 10 = .ok (.iconst 0, 1) := by decide +kernel
theorem dX9_goes_11 : decode cX9_goes 11 = .ok (.istore 4, 2) := by decide +kernel
theorem dX9_goes_13 : decode cX9_goes 13 = .ok (.aload_n 0, 1) := by decide +kernel
theorem dX9_goes_14 : decode cX9_goes 14 = .ok (.getfield 7, 3) := by decide +kernel
theorem dX9_goes_17 : decode cX9_goes 17 = .ok (.sipush 192, 3) := by decide +kernel
theorem dX9_goes_20 : decode cX9_goes 20 = .ok (.bipush 14, 2) := by decide +kernel
theorem dX9_goes_22 : decode cX9_goes 22 = .ok (.iload_n 1, 1) := by decide +kernel
theorem dX9_goes_23 : decode cX9_goes 23 = .ok (.imul, 1) := by decide +kernel
theorem dX9_goes_24 : decode cX9_goes 24 = .ok (.iadd, 1) := by decide +kernel
theorem dX9_goes_25 : decode cX9_goes 25 = .ok (.iconst 0, 1) := by decide +kernel
theorem dX9_goes_26 : decode cX9_goes 26 = .ok (.iadd, 1) := by decide +kernel
theorem dX9_goes_27 : decode cX9_goes 27 = .ok (.iaload, 1) := by decide +kernel
theorem dX9_goes_28 : decode cX9_goes 28 = .ok (.istore 5, 2) := by decide +kernel
theorem dX9_goes_30 : decode cX9_goes 30 = .ok (.aload_n 0, 1) := by decide +kernel
theorem dX9_goes_31 : decode cX9_goes 31 = .ok (.iload_n 1, 1) := by decide +kernel
theorem dX9_goes_32 : decode cX9_goes 32 = .ok (.invokevirtual 87, 3) := by decide +kernel
theorem dX9_goes_35 : decode cX9_goes 35 = .ok (.iconst 0, 1) := by decide +kernel
theorem dX9_goes_36 : decode cX9_goes 36 = .ok (.istore 6, 2) := by decide +kernel
theorem dX9_goes_38 : decode cX9_goes 38 = .ok (.iload 6, 2) := by decide +kernel
theorem dX9_goes_40 : decode cX9_goes 40 = .ok (.bipush 6, 2) := by decide +kernel
theorem dX9_goes_42 : decode cX9_goes 42 = .ok (.if_icmp .ge 112, 3) := by decide +kernel
theorem dX9_goes_45 : decode cX9_goes 45 = .ok (.aload_n 0, 1) := by decide +kernel
theorem dX9_goes_46 : decode cX9_goes 46 = .ok (.iload 6, 2) := by decide +kernel
theorem dX9_goes_48 : decode cX9_goes 48 = .ok (.aload_n 0, 1) := by decide +kernel
theorem dX9_goes_49 : decode cX9_goes 49 = .ok (.getfield 7, 3) := by decide +kernel
theorem dX9_goes_52 : decode cX9_goes 52 = .ok (.sipush 180, 3) := by decide +kernel
theorem dX9_goes_55 : decode cX9_goes 55 = .ok (.iload 6, 2) := by decide +kernel
theorem dX9_goes_57 : decode cX9_goes 57 = .ok (.iadd, 1) := by decide +kernel
theorem dX9_goes_58 : decode cX9_goes 58 = .ok (.iaload, 1) := by decide +kernel
theorem dX9_goes_59 : decode cX9_goes 59 = .ok (.invokevirtual 79, 3) := by decide +kernel
theorem dX9_goes_62 : decode cX9_goes 62 = .ok (.aload_n 0, 1) := by decide +kernel
theorem dX9_goes_63 : decode cX9_goes 63 = .ok (.getfield 7, 3) := by decide +kernel
theorem dX9_goes_66 : decode cX9_goes 66 = .ok (.sipush 410, 3) := by decide +kernel
theorem dX9_goes_69 : decode cX9_goes 69 = .ok (.iload 6, 2) := by decide +kernel
theorem dX9_goes_71 : decode cX9_goes 71 = .ok (.iadd, 1) := by decide +kernel
theorem dX9_goes_72 : decode cX9_goes 72 = .ok (.dup2, 1) := by decide +kernel
theorem dX9_goes_73 : decode cX9_goes 73 = .ok (.iaload, 1) := by decide +kernel
theorem dX9_goes_74 : decode cX9_goes 74 = .ok (.aload_n 0, 1) := by decide +kernel
theorem dX9_goes_75 : decode cX9_goes 75 = .ok (.getfield 63, 3) := by decide +kernel
theorem dX9_goes_78 : decode cX9_goes 78 = .ok (.iadd, 1) := by decide +kernel
theorem dX9_goes_79 : decode cX9_goes 79 = .ok (.iastore, 1) := by decide +kernel
theorem dX9_goes_80 : decode cX9_goes 80 = .ok (.aload_n 0, 1) := by decide +kernel
theorem dX9_goes_81 : decode cX9_goes 81 = .ok (.getfield 7, 3) := by decide +kernel
theorem dX9_goes_84 : decode cX9_goes 84 = .ok (.sipush 416, 3) := by decide +kernel
theorem dX9_goes_87 : decode cX9_goes 87 = .ok (.iload 6, 2) := by decide +kernel
theorem dX9_goes_89 : decode cX9_goes 89 = .ok (.iadd, 1) := by decide +kernel
theorem dX9_goes_90 : decode cX9_goes 90 = .ok (.dup2, 1) := by decide +kernel
theorem dX9_goes_91 : decode cX9_goes 91 = .ok (.iaload, 1) := by decide +kernel
theorem dX9_goes_92 : decode cX9_goes 92 = .ok (.aload_n 0, 1) := by decide +kernel
theorem dX9_goes_93 : decode cX9_goes 93 = .ok (.getfield 76, 3) := by decide +kernel
theorem dX9_goes_96 : decode cX9_goes 96 = .ok (.iadd, 1) := by decide +kernel
theorem dX9_goes_97 : decode cX9_goes 97 = .ok (.iastore, 1) := by decide +kernel
theorem dX9_goes_98 : decode cX9_goes 98 = .ok (.iload 4, 2) := by decide +kernel
theorem dX9_goes_100 : decode cX9_goes 100 = .ok (.aload_n 0, 1) := by decide +kernel
theorem dX9_goes_101 : decode cX9_goes 101 = .ok (.getfield 76, 3) := by decide +kernel
theorem dX9_goes_104 : decode cX9_goes 104 = .ok (.iadd, 1) := by decide +kernel
theorem dX9_goes_105 : decode cX9_goes 105 = .ok (.istore 4, 2) := by decide +kernel
theorem dX9_goes_107 : decode cX9_goes 107 = .ok (.iload_n 2, 1) := by decide +kernel
theorem dX9_goes_108 : decode cX9_goes 108 = .ok (.iconst (-1), 1) := by decide +kernel
theorem dX9_goes_109 : decode cX9_goes 109 = .ok (.if_icmp .ne 15, 3) := by decide +kernel
theorem dX9_goes_112 : decode cX9_goes 112 = .ok (.aload_n 0, 1) := by decide +kernel
theorem dX9_goes_113 : decode cX9_goes 113 = .ok (.getfield 66, 3) := by decide +kernel
theorem dX9_goes_116 : decode cX9_goes 116 = .ok (.ifCond .eq 8, 3) := by decide +kernel
theorem dX9_goes_119 : decode cX9_goes 119 = .ok (.iload 6, 2) := by decide +kernel
theorem dX9_goes_121 : decode cX9_goes 121 = .ok (.goto 4, 3) := by decide +kernel
theorem dX9_goes_124 : decode cX9_goes 124 = .ok (.iload_n 2, 1) := by decide +kernel
theorem dX9_goes_125 : decode cX9_goes 125 = .ok (.istore_n 2, 1) := by decide +kernel
theorem dX9_goes_126 : decode cX9_goes 126 = .ok (.iload_n 3, 1) := by decide +kernel
theorem dX9_goes_127 : decode cX9_goes 127 = .ok (.iconst (-1), 1) := by decide +kernel
theorem dX9_goes_128 : decode cX9_goes 128 = .ok (.if_icmp .ne 18, 3) := by decide +kernel
theorem dX9_goes_131 : decode cX9_goes 131 = .ok (.aload_n 0, 1) := by decide +kernel
theorem dX9_goes_132 : decode cX9_goes 132 = .ok (.iload 6, 2) := by decide +kernel
theorem dX9_goes_134 : decode cX9_goes 134 = .ok (.iload_n 1, 1) := by decide +kernel
theorem dX9_goes_135 : decode cX9_goes 135 = .ok (.invokevirtual 91, 3) := by decide +kernel
theorem dX9_goes_138 : decode cX9_goes 138 = .ok (.ifCond .ne 8, 3) := by decide +kernel
theorem dX9_goes_141 : decode cX9_goes 141 = .ok (.iload 6, 2) := by decide +kernel
theorem dX9_goes_143 : decode cX9_goes 143 = .ok (.goto 4, 3) := by decide +kernel
theorem dX9_goes_146 : decode cX9_goes 146 = .ok (.iload_n 3, 1) := by decide +kernel
theorem dX9_goes_147 : decode cX9_goes 147 = .ok (.istore_n 3, 1) := by decide +kernel
theorem dX9_goes_148 : decode cX9_goes 148 = .ok (.iinc 6 1, 3) := by decide +kernel
theorem dX9_goes_151 : decode cX9_goes 151 = .ok (.goto (-113), 3) := by decide +kernel
theorem dX9_goes_154 : decode cX9_goes 154 = .ok (.bipush 101, 2) := by decide +kernel
theorem dX9_goes_156 : decode cX9_goes 156 = .ok (.istore 6, 2) := by decide +kernel
theorem dX9_goes_158 : decode cX9_goes 158 = .ok (.iload 6, 2) := by decide +kernel
theorem dX9_goes_160 : decode cX9_goes 160 = .ok (.bipush 17, 2) := by decide +kernel
theorem dX9_goes_162 : decode cX9_goes 162 = .ok (.if_icmp .lt 34, 3) := by decide +kernel
theorem dX9_goes_165 : decode cX9_goes 165 = .ok (.aload_n 0, 1) := by decide +kernel
theorem dX9_goes_166 : decode cX9_goes 166 = .ok (.getfield 7, 3) := by decide +kernel
theorem dX9_goes_169 : decode cX9_goes 169 = .ok (.sipush 306, 3) := by decide +kernel
theorem dX9_goes_172 : decode cX9_goes 172 = .ok (.iload 6, 2) := by decide +kernel
theorem dX9_goes_174 : decode cX9_goes 174 = .ok (.iadd, 1) := by decide +kernel
theorem dX9_goes_175 : decode cX9_goes 175 = .ok (.aload_n 0, 1) := by decide +kernel
theorem dX9_goes_176 : decode cX9_goes 176 = .ok (.getfield 7, 3) := by decide +kernel
theorem dX9_goes_179 : decode cX9_goes 179 = .ok (.sipush 306, 3) := by decide +kernel
theorem dX9_goes_182 : decode cX9_goes 182 = .ok (.iload 6, 2) := by decide +kernel
theorem dX9_goes_184 : decode cX9_goes 184 = .ok (.iadd, 1) := by decide +kernel
theorem dX9_goes_185 : decode cX9_goes 185 = .ok (.bipush 17, 2) := by decide +kernel
theorem dX9_goes_187 : decode cX9_goes 187 = .ok (.isub, 1) := by decide +kernel
theorem dX9_goes_188 : decode cX9_goes 188 = .ok (.iaload, 1) := by decide +kernel
theorem dX9_goes_189 : decode cX9_goes 189 = .ok (.iastore, 1) := by decide +kernel
theorem dX9_goes_190 : decode cX9_goes 190 = .ok (.iinc 6 (-1), 3) := by decide +kernel
theorem dX9_goes_193 : decode cX9_goes 193 = .ok (.goto (-35), 3) := by decide +kernel
theorem dX9_goes_196 : decode cX9_goes 196 = .ok (.aload_n 0, 1) := by decide +kernel
theorem dX9_goes_197 : decode cX9_goes 197 = .ok (.getfield 7, 3) := by decide +kernel
theorem dX9_goes_200 : decode cX9_goes 200 = .ok (.sipush 306, 3) := by decide +kernel
theorem dX9_goes_203 : decode cX9_goes 203 = .ok (.aload_n 0, 1) := by decide +kernel
theorem dX9_goes_204 : decode cX9_goes 204 = .ok (.getfield 70, 3) := by decide +kernel
theorem dX9_goes_207 : decode cX9_goes 207 = .ok (.iastore, 1) := by decide +kernel
theorem dX9_goes_208 : decode cX9_goes 208 = .ok (.iconst 0, 1) := by decide +kernel
theorem dX9_goes_209 : decode cX9_goes 209 = .ok (.istore 6, 2) := by decide +kernel
theorem dX9_goes_211 : decode cX9_goes 211 = .ok (.iload 6, 2) := by decide +kernel
theorem dX9_goes_213 : decode cX9_goes 213 = .ok (.bipush 12, 2) := by decide +kernel
theorem dX9_goes_215 : decode cX9_goes 215 = .ok (.if_icmp .ge 40, 3) := by decide +kernel
theorem dX9_goes_218 : decode cX9_goes 218 = .ok (.aload_n 0, 1) := by decide +kernel
theorem dX9_goes_219 : decode cX9_goes 219 = .ok (.getfield 7, 3) := by decide +kernel
theorem dX9_goes_222 : decode cX9_goes 222 = .ok (.sipush 307, 3) := by decide +kernel
theorem dX9_goes_225 : decode cX9_goes 225 = .ok (.iload 6, 2) := by decide +kernel
theorem dX9_goes_227 : decode cX9_goes 227 = .ok (.iadd, 1) := by decide +kernel
theorem dX9_goes_228 : decode cX9_goes 228 = .ok (.iload 6, 2) := by decide +kernel
theorem dX9_goes_230 : decode cX9_goes 230 = .ok (.aload_n 0, 1) := by decide +kernel
theorem dX9_goes_231 : decode cX9_goes 231 = .ok (.getfield 70, 3) := by decide +kernel
theorem dX9_goes_234 : decode cX9_goes 234 = .ok (.if_icmp .ge 13, 3) := by decide +kernel
theorem dX9_goes_237 : decode cX9_goes 237 = .ok (.aload_n 0, 1) := by decide +kernel
theorem dX9_goes_238 : decode cX9_goes 238 = .ok (.getfield 22, 3) := by decide +kernel
theorem dX9_goes_241 : decode cX9_goes 241 = .ok (.iload 6, 2) := by decide +kernel
theorem dX9_goes_243 : decode cX9_goes 243 = .ok (.iaload, 1) := by decide +kernel
theorem dX9_goes_244 : decode cX9_goes 244 = .ok (.goto 4, 3) := by decide +kernel
theorem dX9_goes_247 : decode cX9_goes 247 = .ok (.iconst 0, 1) := by decide +kernel
theorem dX9_goes_248 : decode cX9_goes 248 = .ok (.iastore, 1) := by decide +kernel
theorem dX9_goes_249 : decode cX9_goes 249 = .ok (.iinc 6 1, 3) := by decide +kernel
theorem dX9_goes_252 : decode cX9_goes 252 = .ok (.goto (-41), 3) := by decide +kernel
theorem dX9_goes_255 : decode cX9_goes 255 = .ok (.aload_n 0, 1) := by decide +kernel
theorem dX9_goes_256 : decode cX9_goes 256 = .ok (.getfield 7, 3) := by decide +kernel
theorem dX9_goes_259 : decode cX9_goes 259 = .ok (.sipush 319, 3) := by decide +kernel
theorem dX9_goes_262 : decode cX9_goes 262 = .ok (.iload 4, 2) := by decide +kernel
theorem dX9_goes_264 : decode cX9_goes 264 = .ok (.iastore, 1) := by decide +kernel
theorem dX9_goes_265 : decode cX9_goes 265 = .ok (.aload_n 0, 1) := by decide +kernel
theorem dX9_goes_266 : decode cX9_goes 266 = .ok (.getfield 7, 3) := by decide +kernel
theorem dX9_goes_269 : decode cX9_goes 269 = .ok (.sipush 320, 3) := by decide +kernel
theorem dX9_goes_272 : decode cX9_goes 272 = .ok (.iload_n 2, 1) := by decide +kernel
theorem dX9_goes_273 : decode cX9_goes 273 = .ok (.iastore, 1) := by decide +kernel
theorem dX9_goes_274 : decode cX9_goes 274 = .ok (.aload_n 0, 1) := by decide +kernel
theorem dX9_goes_275 : decode cX9_goes 275 = .ok (.getfield 7, 3) := by decide +kernel
theorem dX9_goes_278 : decode cX9_goes 278 = .ok (.sipush 321, 3) := by decide +kernel
theorem dX9_goes_281 : decode cX9_goes 281 = .ok (.iload_n 3, 1) := by decide +kernel
theorem dX9_goes_282 : decode cX9_goes 282 = .ok (.iastore, 1) := by decide +kernel
theorem dX9_goes_283 : decode cX9_goes 283 = .ok (.aload_n 0, 1) := by decide +kernel
theorem dX9_goes_284 : decode cX9_goes 284 = .ok (.getfield 7, 3) := by decide +kernel
theorem dX9_goes_287 : decode cX9_goes 287 = .ok (.sipush 322, 3) := by decide +kernel
theorem dX9_goes_290 : decode cX9_goes 290 = .ok (.iload 5, 2) := by decide +kernel
theorem dX9_goes_292 : decode cX9_goes 292 = .ok (.iastore, 1) := by decide +kernel
theorem dX9_goes_293 : decode cX9_goes 293 = .ok (.aload_n 0, 1) := by decide +kernel
theorem dX9_goes_294 : decode cX9_goes 294 = .ok (.getfield 7, 3) := by decide +kernel
theorem dX9_goes_297 : decode cX9_goes 297 = .ok (.sipush 408, 3) := by decide +kernel
theorem dX9_goes_300 : decode cX9_goes 300 = .ok (.dup2, 1) := by decide +kernel
theorem dX9_goes_301 : decode cX9_goes 301 = .ok (.iaload, 1) := by decide +kernel
theorem dX9_goes_302 : decode cX9_goes 302 = .ok (.aload_n 0, 1) := by decide +kernel
theorem dX9_goes_303 : decode cX9_goes 303 = .ok (.getfield 7, 3) := by decide +kernel
theorem dX9_goes_306 : decode cX9_goes 306 = .ok (.sipush 408, 3) := by decide +kernel
theorem dX9_goes_309 : decode cX9_goes 309 = .ok (.iaload, 1) := by decide +kernel
theorem dX9_goes_310 : decode cX9_goes 310 = .ok (.bipush 6, 2) := by decide +kernel
theorem dX9_goes_312 : decode cX9_goes 312 = .ok (.if_icmp .ge 7, 3) := by decide +kernel
theorem dX9_goes_315 : decode cX9_goes 315 = .ok (.iconst 1, 1) := by decide +kernel
theorem dX9_goes_316 : decode cX9_goes 316 = .ok (.goto 4, 3) := by decide +kernel
theorem dX9_goes_319 : decode cX9_goes 319 = .ok (.iconst 0, 1) := by decide +kernel
theorem dX9_goes_320 : decode cX9_goes 320 = .ok (.iadd, 1) := by decide +kernel
theorem dX9_goes_321 : decode cX9_goes 321 = .ok (.iastore, 1) := by decide +kernel
theorem dX9_goes_322 : decode cX9_goes 322 = .ok (.aload_n 0, 1) := by decide +kernel
theorem dX9_goes_323 : decode cX9_goes 323 = .ok (.getfield 7, 3) := by decide +kernel
theorem dX9_goes_326 : decode cX9_goes 326 = .ok (.sipush 305, 3) := by decide +kernel
theorem dX9_goes_329 : decode cX9_goes 329 = .ok (.dup2, 1) := by decide +kernel
theorem dX9_goes_330 : decode cX9_goes 330 = .ok (.iaload, 1) := by decide +kernel
theorem dX9_goes_331 : decode cX9_goes 331 = .ok (.iconst 1, 1) := by decide +kernel
theorem dX9_goes_332 : decode cX9_goes 332 = .ok (.iadd, 1) := by decide +kernel
theorem dX9_goes_333 : decode cX9_goes 333 = .ok (.iastore, 1) := by decide +kernel
theorem dX9_goes_334 : decode cX9_goes 334 = .ok (.iload_n 2, 1) := by decide +kernel
theorem dX9_goes_335 : decode cX9_goes 335 = .ok (.iconst (-1), 1) := by decide +kernel
theorem dX9_goes_336 : decode cX9_goes 336 = .ok (.if_icmp .eq 116, 3) := by decide +kernel
theorem dX9_goes_339 : decode cX9_goes 339 = .ok (.aload_n 0, 1) := by decide +kernel
theorem dX9_goes_340 : decode cX9_goes 340 = .ok (.getfield 7, 3) := by decide +kernel
theorem dX9_goes_343 : decode cX9_goes 343 = .ok (.sipush 409, 3) := by decide +kernel
theorem dX9_goes_346 : decode cX9_goes 346 = .ok (.dup2, 1) := by decide +kernel
theorem dX9_goes_347 : decode cX9_goes 347 = .ok (.iaload, 1) := by decide +kernel
theorem dX9_goes_348 : decode cX9_goes 348 = .ok (.iconst 1, 1) := by decide +kernel
theorem dX9_goes_349 : decode cX9_goes 349 = .ok (.iadd, 1) := by decide +kernel
theorem dX9_goes_350 : decode cX9_goes 350 = .ok (.iastore, 1) := by decide +kernel
theorem dX9_goes_351 : decode cX9_goes 351 = .ok (.aload_n 0, 1) := by decide +kernel
theorem dX9_goes_352 : decode cX9_goes 352 = .ok (.getfield 7, 3) := by decide +kernel
theorem dX9_goes_355 : decode cX9_goes 355 = .ok (.sipush 422, 3) := by decide +kernel
theorem dX9_goes_358 : decode cX9_goes 358 = .ok (.iload_n 2, 1) := by decide +kernel
theorem dX9_goes_359 : decode cX9_goes 359 = .ok (.iadd, 1) := by decide +kernel
theorem dX9_goes_360 : decode cX9_goes 360 = .ok (.dup2, 1) := by decide +kernel
theorem dX9_goes_361 : decode cX9_goes 361 = .ok (.iaload, 1) := by decide +kernel
theorem dX9_goes_362 : decode cX9_goes 362 = .ok (.iconst 1, 1) := by decide +kernel
theorem dX9_goes_363 : decode cX9_goes 363 = .ok (.iadd, 1) := by decide +kernel
theorem dX9_goes_364 : decode cX9_goes 364 = .ok (.iastore, 1) := by decide +kernel
theorem dX9_goes_365 : decode cX9_goes 365 = .ok (.iconst 0, 1) := by decide +kernel
theorem dX9_goes_366 : decode cX9_goes 366 = .ok (.istore 6, 2) := by decide +kernel
theorem dX9_goes_368 : decode cX9_goes 368 = .ok (.iconst 0, 1) := by decide +kernel
theorem dX9_goes_369 : decode cX9_goes 369 = .ok (.istore 7, 2) := by decide +kernel
theorem dX9_goes_371 : decode cX9_goes 371 = .ok (.iload 7, 2) := by decide +kernel
theorem dX9_goes_373 : decode cX9_goes 373 = .ok (.iload 5, 2) := by decide +kernel
theorem dX9_goes_375 : decode cX9_goes 375 = .ok (.if_icmp .ge 77, 3) := by decide +kernel
theorem dX9_goes_378 : decode cX9_goes 378 = .ok (.aload_n 0, 1) := by decide +kernel
theorem dX9_goes_379 : decode cX9_goes 379 = .ok (.getfield 7, 3) := by decide +kernel
theorem dX9_goes_382 : decode cX9_goes 382 = .ok (.sipush 192, 3) := by decide +kernel
theorem dX9_goes_385 : decode cX9_goes 385 = .ok (.bipush 14, 2) := by decide +kernel
theorem dX9_goes_387 : decode cX9_goes 387 = .ok (.iload_n 1, 1) := by decide +kernel
theorem dX9_goes_388 : decode cX9_goes 388 = .ok (.imul, 1) := by decide +kernel
theorem dX9_goes_389 : decode cX9_goes 389 = .ok (.iadd, 1) := by decide +kernel
theorem dX9_goes_390 : decode cX9_goes 390 = .ok (.iconst 2, 1) := by decide +kernel
theorem dX9_goes_391 : decode cX9_goes 391 = .ok (.iadd, 1) := by decide +kernel
theorem dX9_goes_392 : decode cX9_goes 392 = .ok (.iload 7, 2) := by decide +kernel
theorem dX9_goes_394 : decode cX9_goes 394 = .ok (.iadd, 1) := by decide +kernel
theorem dX9_goes_395 : decode cX9_goes 395 = .ok (.iaload, 1) := by decide +kernel
theorem dX9_goes_396 : decode cX9_goes 396 = .ok (.istore 8, 2) := by decide +kernel
theorem dX9_goes_398 : decode cX9_goes 398 = .ok (.aload_n 0, 1) := by decide +kernel
theorem dX9_goes_399 : decode cX9_goes 399 = .ok (.getfield 7, 3) := by decide +kernel
theorem dX9_goes_402 : decode cX9_goes 402 = .ok (.sipush 428, 3) := by decide +kernel
theorem dX9_goes_405 : decode cX9_goes 405 = .ok (.iload 8, 2) := by decide +kernel
theorem dX9_goes_407 : decode cX9_goes 407 = .ok (.iadd, 1) := by decide +kernel
theorem dX9_goes_408 : decode cX9_goes 408 = .ok (.dup2, 1) := by decide +kernel
theorem dX9_goes_409 : decode cX9_goes 409 = .ok (.iaload, 1) := by decide +kernel
theorem dX9_goes_410 : decode cX9_goes 410 = .ok (.iload 6, 2) := by decide +kernel
theorem dX9_goes_412 : decode cX9_goes 412 = .ok (.iload 8, 2) := by decide +kernel
theorem dX9_goes_414 : decode cX9_goes 414 = .ok (.ishr, 1) := by decide +kernel
theorem dX9_goes_415 : decode cX9_goes 415 = .ok (.iconst 1, 1) := by decide +kernel
theorem dX9_goes_416 : decode cX9_goes 416 = .ok (.iand, 1) := by decide +kernel
theorem dX9_goes_417 : decode cX9_goes 417 = .ok (.ifCond .ne 17, 3) := by decide +kernel
theorem dX9_goes_420 : decode cX9_goes 420 = .ok (.aload_n 0, 1) := by decide +kernel
theorem dX9_goes_421 : decode cX9_goes 421 = .ok (.iload 8, 2) := by decide +kernel
theorem dX9_goes_423 : decode cX9_goes 423 = .ok (.invokevirtual 95, 3) := by decide +kernel
theorem dX9_goes_426 : decode cX9_goes 426 = .ok (.iconst (-1), 1) := by decide +kernel
theorem dX9_goes_427 : decode cX9_goes 427 = .ok (.if_icmp .eq 7, 3) := by decide +kernel
theorem dX9_goes_430 : decode cX9_goes 430 = .ok (.iconst 1, 1) := by decide +kernel
theorem dX9_goes_431 : decode cX9_goes 431 = .ok (.goto 4, 3) := by decide +kernel
theorem dX9_goes_434 : decode cX9_goes 434 = .ok (.iconst 0, 1) := by decide +kernel
theorem dX9_goes_435 : decode cX9_goes 435 = .ok (.iadd, 1) := by decide +kernel
theorem dX9_goes_436 : decode cX9_goes 436 = .ok (.iastore, 1) := by decide +kernel
theorem dX9_goes_437 : decode cX9_goes 437 = .ok (.iload 6, 2) := by decide +kernel
theorem dX9_goes_439 : decode cX9_goes 439 = .ok (.iconst 1, 1) := by decide +kernel
theorem dX9_goes_440 : decode cX9_goes 440 = .ok (.iload 8, 2) := by decide +kernel
theorem dX9_goes_442 : decode cX9_goes 442 = .ok (.ishl, 1) := by decide +kernel
theorem dX9_goes_443 : decode cX9_goes 443 = .ok (.ior, 1) := by decide +kernel
theorem dX9_goes_444 : decode cX9_goes 444 = .ok (.istore 6, 2) := by decide +kernel
theorem dX9_goes_446 : decode cX9_goes 446 = .ok (.iinc 7 1, 3) := by decide +kernel
theorem dX9_goes_449 : decode cX9_goes 449 = .ok (.goto (-78), 3) := by decide +kernel
theorem dX9_goes_452 : decode cX9_goes 452 = .ok (.aload_n 0, 1) := by decide +kernel
theorem dX9_goes_453 : decode cX9_goes 453 = .ok (.getfield 7, 3) := by decide +kernel
theorem dX9_goes_456 : decode cX9_goes 456 = .ok (.sipush 304, 3) := by decide +kernel
theorem dX9_goes_459 : decode cX9_goes 459 = .ok (.dup2, 1) := by decide +kernel
theorem dX9_goes_460 : decode cX9_goes 460 = .ok (.iaload, 1) := by decide +kernel
theorem dX9_goes_461 : decode cX9_goes 461 = .ok (.iconst 1, 1) := by decide +kernel
theorem dX9_goes_462 : decode cX9_goes 462 = .ok (.isub, 1) := by decide +kernel
theorem dX9_goes_463 : decode cX9_goes 463 = .ok (.iastore, 1) := by decide +kernel
theorem dX9_goes_464 : decode cX9_goes 464 = .ok (.bipush 14, 2) := by decide +kernel
theorem dX9_goes_466 : decode cX9_goes 466 = .ok (.iload_n 1, 1) := by decide +kernel
theorem dX9_goes_467 : decode cX9_goes 467 = .ok (.imul, 1) := by decide +kernel
theorem dX9_goes_468 : decode cX9_goes 468 = .ok (.istore 6, 2) := by decide +kernel
theorem dX9_goes_470 : decode cX9_goes 470 = .ok (.iload 6, 2) := by decide +kernel
theorem dX9_goes_472 : decode cX9_goes 472 = .ok (.bipush 14, 2) := by decide +kernel
theorem dX9_goes_474 : decode cX9_goes 474 = .ok (.aload_n 0, 1) := by decide +kernel
theorem dX9_goes_475 : decode cX9_goes 475 = .ok (.getfield 7, 3) := by decide +kernel
theorem dX9_goes_478 : decode cX9_goes 478 = .ok (.sipush 304, 3) := by decide +kernel
theorem dX9_goes_481 : decode cX9_goes 481 = .ok (.iaload, 1) := by decide +kernel
theorem dX9_goes_482 : decode cX9_goes 482 = .ok (.imul, 1) := by decide +kernel
theorem dX9_goes_483 : decode cX9_goes 483 = .ok (.if_icmp .ge 34, 3) := by decide +kernel
theorem dX9_goes_486 : decode cX9_goes 486 = .ok (.aload_n 0, 1) := by decide +kernel
theorem dX9_goes_487 : decode cX9_goes 487 = .ok (.getfield 7, 3) := by decide +kernel
theorem dX9_goes_490 : decode cX9_goes 490 = .ok (.sipush 192, 3) := by decide +kernel
theorem dX9_goes_493 : decode cX9_goes 493 = .ok (.iload 6, 2) := by decide +kernel
theorem dX9_goes_495 : decode cX9_goes 495 = .ok (.iadd, 1) := by decide +kernel
theorem dX9_goes_496 : decode cX9_goes 496 = .ok (.aload_n 0, 1) := by decide +kernel
theorem dX9_goes_497 : decode cX9_goes 497 = .ok (.getfield 7, 3) := by decide +kernel
theorem dX9_goes_500 : decode cX9_goes 500 = .ok (.sipush 192, 3) := by decide +kernel
theorem dX9_goes_503 : decode cX9_goes 503 = .ok (.iload 6, 2) := by decide +kernel
theorem dX9_goes_505 : decode cX9_goes 505 = .ok (.iadd, 1) := by decide +kernel
theorem dX9_goes_506 : decode cX9_goes 506 = .ok (.bipush 14, 2) := by decide +kernel
theorem dX9_goes_508 : decode cX9_goes 508 = .ok (.iadd, 1) := by decide +kernel
theorem dX9_goes_509 : decode cX9_goes 509 = .ok (.iaload, 1) := by decide +kernel
theorem dX9_goes_510 : decode cX9_goes 510 = .ok (.iastore, 1) := by decide +kernel
theorem dX9_goes_511 : decode cX9_goes 511 = .ok (.iinc 6 1, 3) := by decide +kernel
theorem dX9_goes_514 : decode cX9_goes 514 = .ok (.goto (-44), 3) := by decide +kernel
theorem dX9_goes_517 : decode cX9_goes 517 = .ok (.return_, 1) := by decide +kernel
set_option maxRecDepth 20000 in
theorem ggX9_go_X9_refused : GoodIn wsX9_go wsX9_refused := goodIn_r _ [6, 7, 52, 53, 54, 55, 56, 57, 58, 59, 60, 61, 62, 63, 64, 65, 66, 67, 68, 69, 70, 71, 72, 73] (by decide +kernel) (by decide +kernel)
set_option maxRecDepth 20000 in
theorem gX9_go_X9_refused : GoodIn wsX9_go (wsV RX9 53 RX9 yX9_refused wsX9_refused) := goodIn_app (goodIn_of _ (by decide +kernel)) ggX9_go_X9_refused
set_option maxRecDepth 20000 in
theorem ggX9_go_X9_saves : GoodIn wsX9_go wsX9_saves := goodIn_r _ [11, 12, 13, 1, 52, 53, 54, 55, 56, 57, 58, 59, 60, 61, 62, 63, 64, 65, 66, 67, 68, 69, 70, 71, 72, 73] (by decide +kernel) (by decide +kernel)
set_option maxRecDepth 20000 in
theorem gX9_go_X9_saves : GoodIn wsX9_go (wsV RX9 56 RX9 yX9_saves wsX9_saves) := goodIn_app (goodIn_of _ (by decide +kernel)) ggX9_go_X9_saves
set_option maxRecDepth 20000 in
theorem ggX9_go_X9_goes : GoodIn wsX9_go wsX9_goes := goodIn_r _ [17, 1, 18, 19, 20, 21, 22, 23, 24, 25, 5, 26, 27, 28, 29, 30, 31, 32, 33, 34, 35, 36, 37, 38, 39, 40, 41, 42, 43, 44, 45, 46, 47, 48, 49, 50, 51, 52, 53, 54, 55, 56, 57, 58, 59, 60, 61, 62, 63, 64, 65, 66, 67, 68, 69, 70, 71, 72, 73] (by decide +kernel) (by decide +kernel)
set_option maxRecDepth 20000 in
theorem gX9_go_X9_goes : GoodIn wsX9_go (wsV RX9 98 RX9 yX9_goes wsX9_goes) := goodIn_app (goodIn_of _ (by decide +kernel)) ggX9_go_X9_goes
theorem dX9_go_0 : decode cX9_go 0 = .ok (.aload_n 0, 1) := by decide +kernel
theorem dX9_go_1 : decode cX9_go 1 = .ok (.aload_n 0, 1) := by decide +kernel
theorem dX9_go_2 : decode cX9_go 2 = .ok (.getfield 7, 3) := by decide +kernel
theorem dX9_go_5 : decode cX9_go 5 = .ok (.sipush 304, 3) := by decide +kernel
theorem dX9_go_8 : decode cX9_go 8 = .ok (.iaload, 1) := by decide +kernel
theorem dX9_go_9 : decode cX9_go 9 = .ok (.ifCond .ne 7, 3) := by decide +kernel
theorem dX9_go_12 : decode cX9_go 12 = .ok (.iconst 1, 1) := by decide +kernel
theorem dX9_go_13 : decode cX9_go 13 = .ok (.goto 4, 3) := by decide +kernel
theorem dX9_go_16 : decode cX9_go 16 = .ok (.iconst 0, 1) := by decide +kernel
theorem dX9_go_17 : decode cX9_go 17 = .ok (.invokevirtual 53, 3) := by decide +kernel
theorem dX9_go_20 : decode cX9_go 20 = .ok (.ifCond .eq 5, 3) := by decide +kernel
theorem dX9_go_23 : decode cX9_go 23 = .ok (.iconst 0, 1) := by decide +kernel
theorem dX9_go_24 : decode cX9_go 24 = .ok (.ireturn, 1) := by decide +kernel
theorem dX9_go_25 : decode cX9_go 25 = .ok (.aload_n 0, 1) := by decide +kernel
theorem dX9_go_26 : decode cX9_go 26 = .ok (.invokevirtual 56, 3) := by decide +kernel
theorem dX9_go_29 : decode cX9_go 29 = .ok (.aload_n 0, 1) := by decide +kernel
theorem dX9_go_30 : decode cX9_go 30 = .ok (.invokevirtual 98, 3) := by decide +kernel
theorem dX9_go_33 : decode cX9_go 33 = .ok (.aload_n 0, 1) := by decide +kernel
theorem dX9_go_34 : decode cX9_go 34 = .ok (.getfield 7, 3) := by decide +kernel
theorem dX9_go_37 : decode cX9_go 37 = .ok (.sipush 306, 3) := by decide +kernel
theorem dX9_go_40 : decode cX9_go 40 = .ok (.iaload, 1) := by decide +kernel
theorem dX9_go_41 : decode cX9_go 41 = .ok (.ireturn, 1) := by decide +kernel
set_option maxRecDepth 20000 in
theorem ggX9_append_X9_in : GoodIn wsX9_append wsX9_in := goodIn_r _ [6] (by decide +kernel) (by decide +kernel)
set_option maxRecDepth 20000 in
theorem gX9_append_X9_in : GoodIn wsX9_append (va_wsS RX9 35 yX9_in wsX9_in) := goodIn_app (goodIn_of _ (by decide +kernel)) ggX9_append_X9_in
set_option maxRecDepth 20000 in
theorem ggX9_append_X9_refused : GoodIn wsX9_append wsX9_refused := goodIn_r _ [10, 11, 12, 13, 14, 15, 16, 17, 18, 19, 20, 21, 22, 23, 24, 25, 26, 27, 28, 29, 30, 31, 32, 33] (by decide +kernel) (by decide +kernel)
set_option maxRecDepth 20000 in
theorem gX9_append_X9_refused : GoodIn wsX9_append (wsV RX9 53 RX9 yX9_refused wsX9_refused) := goodIn_app (goodIn_of _ (by decide +kernel)) ggX9_append_X9_refused
theorem dX9_append_0 : decode cX9_append 0 = .ok (.aload_n 0, 1) := by decide +kernel
theorem dX9_append_1 : decode cX9_append 1 = .ok (.iload_n 1, 1) := by decide +kernel
theorem dX9_append_2 : decode cX9_append 2 = .ok (.bipush 33, 2) := by decide +kernel
theorem dX9_append_4 : decode cX9_append 4 = .ok (.bipush 126, 2) := by decide +kernel
theorem dX9_append_6 : decode cX9_append 6 = .ok (.invokestatic 35, 3) := by decide +kernel
theorem dX9_append_9 : decode cX9_append 9 = .ok (.ifCond .ne 7, 3) := by decide +kernel
theorem dX9_append_12 : decode cX9_append 12 = .ok (.iconst 1, 1) := by decide +kernel
theorem dX9_append_13 : decode cX9_append 13 = .ok (.goto 17, 3) := by decide +kernel
theorem dX9_append_16 : decode cX9_append 16 = .ok (.aload_n 0, 1) := by decide +kernel
theorem dX9_append_17 : decode cX9_append 17 = .ok (.getfield 101, 3) := by decide +kernel
theorem dX9_append_20 : decode cX9_append 20 = .ok (.bipush 60, 2) := by decide +kernel
theorem dX9_append_22 : decode cX9_append 22 = .ok (.if_icmp .ne 7, 3) := by decide +kernel
theorem dX9_append_25 : decode cX9_append 25 = .ok (.iconst 2, 1) := by decide +kernel
theorem dX9_append_26 : decode cX9_append 26 = .ok (.goto 4, 3) := by decide +kernel
theorem dX9_append_29 : decode cX9_append 29 = .ok (.iconst 0, 1) := by decide +kernel
theorem dX9_append_30 : decode cX9_append 30 = .ok (.invokevirtual 53, 3) := by decide +kernel
theorem dX9_append_33 : decode cX9_append 33 = .ok (.ifCond .eq 5, 3) := by decide +kernel
theorem dX9_append_36 : decode cX9_append 36 = .ok (.iconst 0, 1) := by decide +kernel
theorem dX9_append_37 : decode cX9_append 37 = .ok (.ireturn, 1) := by decide +kernel
theorem dX9_append_38 : decode cX9_append 38 = .ok (.aload_n 0, 1) := by decide +kernel
theorem dX9_append_39 : decode cX9_append 39 = .ok (.getfield 19, 3) := by decide +kernel
theorem dX9_append_42 : decode cX9_append 42 = .ok (.aload_n 0, 1) := by decide +kernel
theorem dX9_append_43 : decode cX9_append 43 = .ok (.getfield 101, 3) := by decide +kernel
theorem dX9_append_46 : decode cX9_append 46 = .ok (.iload_n 1, 1) := by decide +kernel
theorem dX9_append_47 : decode cX9_append 47 = .ok (.iastore, 1) := by decide +kernel
theorem dX9_append_48 : decode cX9_append 48 = .ok (.aload_n 0, 1) := by decide +kernel
theorem dX9_append_49 : decode cX9_append 49 = .ok (.dup, 1) := by decide +kernel
theorem dX9_append_50 : decode cX9_append 50 = .ok (.getfield 101, 3) := by decide +kernel
theorem dX9_append_53 : decode cX9_append 53 = .ok (.iconst 1, 1) := by decide +kernel
theorem dX9_append_54 : decode cX9_append 54 = .ok (.iadd, 1) := by decide +kernel
theorem dX9_append_55 : decode cX9_append 55 = .ok (.putfield 101, 3) := by decide +kernel
theorem dX9_append_58 : decode cX9_append 58 = .ok (.aload_n 0, 1) := by decide +kernel
theorem dX9_append_59 : decode cX9_append 59 = .ok (.getfield 101, 3) := by decide +kernel
theorem dX9_append_62 : decode cX9_append 62 = .ok (.ireturn, 1) := by decide +kernel
theorem dX9_clearBuffer_0 : decode cX9_clearBuffer 0 = .ok (.aload_n 0, 1) := by decide +kernel
theorem dX9_clearBuffer_1 : decode cX9_clearBuffer 1 = .ok (.iconst 0, 1) := by decide +kernel
theorem dX9_clearBuffer_2 : decode cX9_clearBuffer 2 = .ok (.putfield 31, 3) := by decide +kernel
theorem dX9_clearBuffer_5 : decode cX9_clearBuffer 5 = .ok (.aload_n 0, 1) := by decide +kernel
theorem dX9_clearBuffer_6 : decode cX9_clearBuffer 6 = .ok (.getfield 101, 3) := by decide +kernel
theorem dX9_clearBuffer_9 : decode cX9_clearBuffer 9 = .ok (.istore_n 1, 1) := by decide +kernel
theorem dX9_clearBuffer_10 : decode cX9_clearBuffer 10 = .ok (.aload_n 0, 1) := by decide +kernel
theorem dX9_clearBuffer_11 : decode cX9_clearBuffer 11 = .ok (.iconst 0, 1) := by decide +kernel
theorem dX9_clearBuffer_12 : decode cX9_clearBuffer 12 = .ok (.putfield 101, 3) := by decide +kernel
theorem dX9_clearBuffer_15 : decode cX9_clearBuffer 15 = .ok (.iload_n 1, 1) := by decide +kernel
theorem dX9_clearBuffer_16 : decode cX9_clearBuffer 16 = .ok (.ireturn, 1) := by decide +kernel
theorem dX9_next_0 : decode cX9_next 0 = .ok (.aload_n 0, 1) := by decide +kernel
theorem dX9_next_1 : decode cX9_next 1 = .ok (.getfield 104, 3) := by decide +kernel
theorem dX9_next_4 : decode cX9_next 4 = .ok (.aload_n 0, 1) := by decide +kernel
theorem dX9_next_5 : decode cX9_next 5 = .ok (.getfield 101, 3) := by decide +kernel
theorem dX9_next_8 : decode cX9_next 8 = .ok (.if_icmp .ge 15, 3) := by decide +kernel
theorem dX9_next_11 : decode cX9_next 11 = .ok (.aload_n 0, 1) := by decide +kernel
theorem dX9_next_12 : decode cX9_next 12 = .ok (.getfield 19, 3) := by decide +kernel
theorem dX9_next_15 : decode cX9_next 15 = .ok (.aload_n 0, 1) := by decide +kernel
theorem dX9_next_16 : decode cX9_next 16 = .ok (.getfield 104, 3) := by decide +kernel
theorem dX9_next_19 : decode cX9_next 19 = .ok (.iaload, 1) := by decide +kernel
theorem dX9_next_20 : decode cX9_next 20 = .ok (.goto 4, 3) := by decide +kernel
theorem dX9_next_23 : decode cX9_next 23 = .ok (.iconst 0, 1) := by decide +kernel
theorem dX9_next_24 : decode cX9_next 24 = .ok (.ireturn, 1) := by decide +kernel
set_option maxRecDepth 20000 in
theorem ggX9_sign_X9_next : GoodIn wsX9_sign wsX9_next := goodIn_r _ [7, 2, 8, 9, 10, 11, 12, 13, 14, 15, 16, 17, 18, 19, 20, 21, 22, 23, 24, 25, 26, 27, 28, 29, 30, 31] (by decide +kernel) (by decide +kernel)
set_option maxRecDepth 20000 in
theorem gX9_sign_X9_next : GoodIn wsX9_sign (wsV RX9 110 RX9 yX9_next wsX9_next) := goodIn_app (goodIn_of _ (by decide +kernel)) ggX9_sign_X9_next
theorem dX9_sign_0 : decode cX9_sign 0 = .ok (.aload_n 0, 1) := by decide +kernel
theorem dX9_sign_1 : decode cX9_sign 1 = .ok (.aload_n 0, 1) := by decide +kernel
theorem dX9_sign_2 : decode cX9_sign 2 = .ok (.getfield 107, 3) := by decide +kernel
theorem dX9_sign_5 : decode cX9_sign 5 = .ok (.ifCond .ne 11, 3) := by decide +kernel
theorem dX9_sign_8 : decode cX9_sign 8 = .ok (.aload_n 0, 1) := by decide +kernel
theorem dX9_sign_9 : decode cX9_sign 9 = .ok (.invokevirtual 110, 3) := by decide +kernel
theorem dX9_sign_12 : decode cX9_sign 12 = .ok (.iload_n 1, 1) := by decide +kernel
theorem dX9_sign_13 : decode cX9_sign 13 = .ok (.if_icmp .eq 7, 3) := by decide +kernel
theorem dX9_sign_16 : decode cX9_sign 16 = .ok (.iconst 1, 1) := by decide +kernel
theorem dX9_sign_17 : decode cX9_sign 17 = .ok (.goto 4, 3) := by decide +kernel
theorem dX9_sign_20 : decode cX9_sign 20 = .ok (.iconst 0, 1) := by decide +kernel
theorem dX9_sign_21 : decode cX9_sign 21 = .ok (.putfield 107, 3) := by decide +kernel
theorem dX9_sign_24 : decode cX9_sign 24 = .ok (.aload_n 0, 1) := by decide +kernel
theorem dX9_sign_25 : decode cX9_sign 25 = .ok (.dup, 1) := by decide +kernel
theorem dX9_sign_26 : decode cX9_sign 26 = .ok (.getfield 104, 3) := by decide +kernel
theorem dX9_sign_29 : decode cX9_sign 29 = .ok (.aload_n 0, 1) := by decide +kernel
theorem dX9_sign_30 : decode cX9_sign 30 = .ok (.getfield 107, 3) := by decide +kernel
theorem dX9_sign_33 : decode cX9_sign 33 = .ok (.ifCond .eq 7, 3) := by decide +kernel
theorem dX9_sign_36 : decode cX9_sign 36 = .ok (.iconst 0, 1) := by decide +kernel
theorem dX9_sign_37 : decode cX9_sign 37 = .ok (.goto 4, 3) := by decide +kernel
theorem dX9_sign_40 : decode cX9_sign 40 = .ok (.iconst 1, 1) := by decide +kernel
theorem dX9_sign_41 : decode cX9_sign 41 = .ok (.iadd, 1) := by decide +kernel
theorem dX9_sign_42 : decode cX9_sign 42 = .ok (.putfield 104, 3) := by decide +kernel
theorem dX9_sign_45 : decode cX9_sign 45 = .ok (.return_, 1) := by decide +kernel
set_option maxRecDepth 20000 in
theorem ggX9_digit_X9_next : GoodIn wsX9_digit wsX9_next := goodIn_r _ [7, 2, 8, 9, 13, 14, 15, 16, 17, 18, 19, 20, 21, 22, 23, 24, 25, 26, 27, 28, 29, 30, 31, 32, 33, 34] (by decide +kernel) (by decide +kernel)
set_option maxRecDepth 20000 in
theorem gX9_digit_X9_next : GoodIn wsX9_digit (wsV RX9 110 RX9 yX9_next wsX9_next) := goodIn_app (goodIn_of _ (by decide +kernel)) ggX9_digit_X9_next
set_option maxRecDepth 20000 in
theorem ggX9_digit_X9_in : GoodIn wsX9_digit wsX9_in := goodIn_r _ [12] (by decide +kernel) (by decide +kernel)
set_option maxRecDepth 20000 in
theorem gX9_digit_X9_in : GoodIn wsX9_digit (va_wsS RX9 35 yX9_in wsX9_in) := goodIn_app (goodIn_of _ (by decide +kernel)) ggX9_digit_X9_in
theorem dX9_digit_0 : decode cX9_digit 0 = .ok (.aload_n 0, 1) := by decide +kernel
theorem dX9_digit_1 : decode cX9_digit 1 = .ok (.invokevirtual 110, 3) := by decide +kernel
theorem dX9_digit_4 : decode cX9_digit 4 = .ok (.bipush 48, 2) := by decide +kernel
theorem dX9_digit_6 : decode cX9_digit 6 = .ok (.isub, 1) := by decide +kernel
theorem dX9_digit_7 : decode cX9_digit 7 = .ok (.istore_n 3, 1) := by decide +kernel
theorem dX9_digit_8 : decode cX9_digit 8 = .ok (.aload_n 0, 1) := by decide +kernel
theorem dX9_digit_9 : decode cX9_digit 9 = .ok (.aload_n 0, 1) := by decide +kernel
theorem dX9_digit_10 : decode cX9_digit 10 = .ok (.getfield 107, 3) := by decide +kernel
theorem dX9_digit_13 : decode cX9_digit 13 = .ok (.ifCond .ne 12, 3) := by decide +kernel
theorem dX9_digit_16 : decode cX9_digit 16 = .ok (.iload_n 3, 1) := by decide +kernel
theorem dX9_digit_17 : decode cX9_digit 17 = .ok (.iload_n 1, 1) := by decide +kernel
theorem dX9_digit_18 : decode cX9_digit 18 = .ok (.iload_n 2, 1) := by decide +kernel
theorem dX9_digit_19 : decode cX9_digit 19 = .ok (.invokestatic 35, 3) := by decide +kernel
theorem dX9_digit_22 : decode cX9_digit 22 = .ok (.ifCond .ne 7, 3) := by decide +kernel
theorem dX9_digit_25 : decode cX9_digit 25 = .ok (.iconst 1, 1) := by decide +kernel
theorem dX9_digit_26 : decode cX9_digit 26 = .ok (.goto 4, 3) := by decide +kernel
theorem dX9_digit_29 : decode cX9_digit 29 = .ok (.iconst 0, 1) := by decide +kernel
theorem dX9_digit_30 : decode cX9_digit 30 = .ok (.putfield 107, 3) := by decide +kernel
theorem dX9_digit_33 : decode cX9_digit 33 = .ok (.aload_n 0, 1) := by decide +kernel
theorem dX9_digit_34 : decode cX9_digit 34 = .ok (.dup, 1) := by decide +kernel
theorem dX9_digit_35 : decode cX9_digit 35 = .ok (.getfield 104, 3) := by decide +kernel
theorem dX9_digit_38 : decode cX9_digit 38 = .ok (.aload_n 0, 1) := by decide +kernel
theorem dX9_digit_39 : decode cX9_digit 39 = .ok (.getfield 107, 3) := by decide +kernel
theorem dX9_digit_42 : decode cX9_digit 42 = .ok (.ifCond .eq 7, 3) := by decide +kernel
theorem dX9_digit_45 : decode cX9_digit 45 = .ok (.iconst 0, 1) := by decide +kernel
theorem dX9_digit_46 : decode cX9_digit 46 = .ok (.goto 4, 3) := by decide +kernel
theorem dX9_digit_49 : decode cX9_digit 49 = .ok (.iconst 1, 1) := by decide +kernel
theorem dX9_digit_50 : decode cX9_digit 50 = .ok (.iadd, 1) := by decide +kernel
theorem dX9_digit_51 : decode cX9_digit 51 = .ok (.putfield 104, 3) := by decide +kernel
theorem dX9_digit_54 : decode cX9_digit 54 = .ok (.iload_n 3, 1) := by decide +kernel
theorem dX9_digit_55 : decode cX9_digit 55 = .ok (.ireturn, 1) := by decide +kernel
set_option maxRecDepth 20000 in
theorem ggX9_word_X9_digit : GoodIn wsX9_word wsX9_digit := goodIn_r _ [7, 1, 2, 8, 9, 10, 6, 11, 12, 13, 14, 15, 16, 17, 18, 19, 20, 21, 22, 23, 24, 25, 26, 27, 28, 29, 30, 31, 32, 33, 34, 35, 36, 37, 38] (by decide +kernel) (by decide +kernel)
set_option maxRecDepth 20000 in
theorem gX9_word_X9_digit : GoodIn wsX9_word (wsV RX9 114 RX9 yX9_digit wsX9_digit) := goodIn_app (goodIn_of _ (by decide +kernel)) ggX9_word_X9_digit
set_option maxRecDepth 20000 in
theorem ggX9_word_X9_in : GoodIn wsX9_word wsX9_in := goodIn_r _ [16] (by decide +kernel) (by decide +kernel)
set_option maxRecDepth 20000 in
theorem gX9_word_X9_in : GoodIn wsX9_word (va_wsS RX9 35 yX9_in wsX9_in) := goodIn_app (goodIn_of _ (by decide +kernel)) ggX9_word_X9_in
set_option maxRecDepth 20000 in
theorem ggX9_word_X9_next : GoodIn wsX9_word wsX9_next := goodIn_r _ [11, 2, 12, 13, 17, 18, 19, 20, 21, 22, 23, 24, 25, 26, 27, 28, 29, 30, 31, 32, 33, 34, 35, 36, 37, 38] (by decide +kernel) (by decide +kernel)
set_option maxRecDepth 20000 in
theorem gX9_word_X9_next : GoodIn wsX9_word (wsV RX9 110 RX9 yX9_next wsX9_next) := goodIn_app (goodIn_of _ (by decide +kernel)) ggX9_word_X9_next
theorem dX9_word_0 : decode cX9_word 0 = .ok (.aload_n 0, 1) := by decide +kernel
theorem dX9_word_1 : decode cX9_word 1 = .ok (.iconst 0, 1) := by decide +kernel
theorem dX9_word_2 : decode cX9_word 2 = .ok (.bipush 9, 2) := by decide +kernel
theorem dX9_word_4 : decode cX9_word 4 = .ok (.invokevirtual 114, 3) := by decide +kernel
theorem dX9_word_7 : decode cX9_word 7 = .ok (.istore_n 1, 1) := by decide +kernel
theorem dX9_word_8 : decode cX9_word 8 = .ok (.aload_n 0, 1) := by decide +kernel
theorem dX9_word_9 : decode cX9_word 9 = .ok (.getfield 107, 3) := by decide +kernel
theorem dX9_word_12 : decode cX9_word 12 = .ok (.ifCond .ne 49, 3) := by decide +kernel
theorem dX9_word_15 : decode cX9_word 15 = .ok (.iload_n 1, 1) := by decide +kernel
theorem dX9_word_16 : decode cX9_word 16 = .ok (.iconst 1, 1) := by decide +kernel
theorem dX9_word_17 : decode cX9_word 17 = .ok (.iconst 2, 1) := by decide +kernel
theorem dX9_word_18 : decode cX9_word 18 = .ok (.invokestatic 35, 3) := by decide +kernel
theorem dX9_word_21 : decode cX9_word 21 = .ok (.ifCond .eq 40, 3) := by decide +kernel
theorem dX9_word_24 : decode cX9_word 24 = .ok (.aload_n 0, 1) := by decide +kernel
theorem dX9_word_25 : decode cX9_word 25 = .ok (.invokevirtual 110, 3) := by decide +kernel
theorem dX9_word_28 : decode cX9_word 28 = .ok (.bipush 48, 2) := by decide +kernel
theorem dX9_word_30 : decode cX9_word 30 = .ok (.bipush 57, 2) := by decide +kernel
theorem dX9_word_32 : decode cX9_word 32 = .ok (.invokestatic 35, 3) := by decide +kernel
theorem dX9_word_35 : decode cX9_word 35 = .ok (.ifCond .eq 26, 3) := by decide +kernel
theorem dX9_word_38 : decode cX9_word 38 = .ok (.bipush 10, 2) := by decide +kernel
theorem dX9_word_40 : decode cX9_word 40 = .ok (.iload_n 1, 1) := by decide +kernel
theorem dX9_word_41 : decode cX9_word 41 = .ok (.imul, 1) := by decide +kernel
theorem dX9_word_42 : decode cX9_word 42 = .ok (.aload_n 0, 1) := by decide +kernel
theorem dX9_word_43 : decode cX9_word 43 = .ok (.invokevirtual 110, 3) := by decide +kernel
theorem dX9_word_46 : decode cX9_word 46 = .ok (.iadd, 1) := by decide +kernel
theorem dX9_word_47 : decode cX9_word 47 = .ok (.bipush 48, 2) := by decide +kernel
theorem dX9_word_49 : decode cX9_word 49 = .ok (.isub, 1) := by decide +kernel
theorem dX9_word_50 : decode cX9_word 50 = .ok (.istore_n 1, 1) := by decide +kernel
theorem dX9_word_51 : decode cX9_word 51 = .ok (.aload_n 0, 1) := by decide +kernel
theorem dX9_word_52 : decode cX9_word 52 = .ok (.dup, 1) := by decide +kernel
theorem dX9_word_53 : decode cX9_word 53 = .ok (.getfield 104, 3) := by decide +kernel
theorem dX9_word_56 : decode cX9_word 56 = .ok (.iconst 1, 1) := by decide +kernel
theorem dX9_word_57 : decode cX9_word 57 = .ok (.iadd, 1) := by decide +kernel
theorem dX9_word_58 : decode cX9_word 58 = .ok (.putfield 104, 3) := by decide +kernel
theorem dX9_word_61 : decode cX9_word 61 = .ok (.iload_n 1, 1) := by decide +kernel
theorem dX9_word_62 : decode cX9_word 62 = .ok (.ireturn, 1) := by decide +kernel
set_option maxRecDepth 20000 in
theorem ggX9_says_X9_word : GoodIn wsX9_says wsX9_word := goodIn_r _ [10, 2, 4, 11, 12, 13, 9, 14, 15, 16, 17, 18, 19, 20, 21, 22, 23, 24, 25, 26, 27, 28, 29, 30, 31, 32, 33, 34, 35, 36, 37, 38, 39, 40, 41, 42, 43, 44, 45] (by decide +kernel) (by decide +kernel)
set_option maxRecDepth 20000 in
theorem gX9_says_X9_word : GoodIn wsX9_says (wsV RX9 120 RX9 yX9_word wsX9_word) := goodIn_app (goodIn_of _ (by decide +kernel)) ggX9_says_X9_word
set_option maxRecDepth 20000 in
theorem ggX9_says_X9_next : GoodIn wsX9_says wsX9_next := goodIn_r _ [18, 4, 19, 20, 24, 25, 26, 27, 28, 29, 30, 31, 32, 33, 34, 35, 36, 37, 38, 39, 40, 41, 42, 43, 44, 45] (by decide +kernel) (by decide +kernel)
set_option maxRecDepth 20000 in
theorem gX9_says_X9_next : GoodIn wsX9_says (wsV RX9 110 RX9 yX9_next wsX9_next) := goodIn_app (goodIn_of _ (by decide +kernel)) ggX9_says_X9_next
set_option maxRecDepth 20000 in
theorem ggX9_says_X9_digit : GoodIn wsX9_says wsX9_digit := goodIn_r _ [14, 2, 4, 15, 16, 17, 9, 18, 19, 20, 21, 22, 23, 24, 25, 26, 27, 28, 29, 30, 31, 32, 33, 34, 35, 36, 37, 38, 39, 40, 41, 42, 43, 44, 45] (by decide +kernel) (by decide +kernel)
set_option maxRecDepth 20000 in
theorem gX9_says_X9_digit : GoodIn wsX9_says (wsV RX9 114 RX9 yX9_digit wsX9_digit) := goodIn_app (goodIn_of _ (by decide +kernel)) ggX9_says_X9_digit
theorem dX9_says_0 : decode cX9_says 0 = .ok (.aload_n 0, 1) := by decide +kernel
theorem dX9_says_1 : decode cX9_says 1 = .ok (.iconst 0, 1) := by decide +kernel
theorem dX9_says_2 : decode cX9_says 2 = .ok (.putfield 117, 3) := by decide +kernel
theorem dX9_says_5 : decode cX9_says 5 = .ok (.iconst 1, 1) := by decide +kernel
theorem dX9_says_6 : decode cX9_says 6 = .ok (.istore_n 1, 1) := by decide +kernel
theorem dX9_says_7 : decode cX9_says 7 = .ok (.iload_n 1, 1) := by decide +kernel
theorem dX9_says_8 : decode cX9_says 8 = .ok (.ifCond .eq 90, 3) := by decide +kernel
theorem dX9_says_11 : decode cX9_says 11 = .ok (.aload_n 0, 1) := by decide +kernel
theorem dX9_says_12 : decode cX9_says 12 = .ok (.invokevirtual 120, 3) := by decide +kernel
theorem dX9_says_15 : decode cX9_says 15 = .ok (.istore_n 2, 1) := by decide +kernel
theorem dX9_says_16 : decode cX9_says 16 = .ok (.aload_n 0, 1) := by decide +kernel
theorem dX9_says_17 : decode cX9_says 17 = .ok (.getfield 107, 3) := by decide +kernel
theorem dX9_says_20 : decode cX9_says 20 = .ok (.ifCond .ne 7, 3) := by decide +kernel
theorem dX9_says_23 : decode cX9_says 23 = .ok (.iconst 1, 1) := by decide +kernel
theorem dX9_says_24 : decode cX9_says 24 = .ok (.goto 4, 3) := by decide +kernel
theorem dX9_says_27 : decode cX9_says 27 = .ok (.iconst 0, 1) := by decide +kernel
theorem dX9_says_28 : decode cX9_says 28 = .ok (.istore_n 1, 1) := by decide +kernel
theorem dX9_says_29 : decode cX9_says 29 = .ok (.iload_n 1, 1) := by decide +kernel
theorem dX9_says_30 : decode cX9_says 30 = .ok (.ifCond .eq 65, 3) := by decide +kernel
theorem dX9_says_33 : decode cX9_says 33 = .ok (.aload_n 0, 1) := by decide +kernel
theorem dX9_says_34 : decode cX9_says 34 = .ok (.getfield 28, 3) := by decide +kernel
theorem dX9_says_37 : decode cX9_says 37 = .ok (.aload_n 0, 1) := by decide +kernel
theorem dX9_says_38 : decode cX9_says 38 = .ok (.getfield 117, 3) := by decide +kernel
theorem dX9_says_41 : decode cX9_says 41 = .ok (.iload_n 2, 1) := by decide +kernel
theorem dX9_says_42 : decode cX9_says 42 = .ok (.iastore, 1) := by decide +kernel
theorem dX9_says_43 : decode cX9_says 43 = .ok (.aload_n 0, 1) := by decide +kernel
theorem dX9_says_44 : decode cX9_says 44 = .ok (.dup, 1) := by decide +kernel
theorem dX9_says_45 : decode cX9_says 45 = .ok (.getfield 117, 3) := by decide +kernel
theorem dX9_says_48 : decode cX9_says 48 = .ok (.iconst 1, 1) := by decide +kernel
theorem dX9_says_49 : decode cX9_says 49 = .ok (.iadd, 1) := by decide +kernel
theorem dX9_says_50 : decode cX9_says 50 = .ok (.putfield 117, 3) := by decide +kernel
theorem dX9_says_53 : decode cX9_says 53 = .ok (.aload_n 0, 1) := by decide +kernel
theorem dX9_says_54 : decode cX9_says 54 = .ok (.invokevirtual 110, 3) := by decide +kernel
theorem dX9_says_57 : decode cX9_says 57 = .ok (.bipush 44, 2) := by decide +kernel
theorem dX9_says_59 : decode cX9_says 59 = .ok (.if_icmp .ne 16, 3) := by decide +kernel
theorem dX9_says_62 : decode cX9_says 62 = .ok (.aload_n 0, 1) := by decide +kernel
theorem dX9_says_63 : decode cX9_says 63 = .ok (.getfield 117, 3) := by decide +kernel
theorem dX9_says_66 : decode cX9_says 66 = .ok (.bipush 12, 2) := by decide +kernel
theorem dX9_says_68 : decode cX9_says 68 = .ok (.if_icmp .ge 7, 3) := by decide +kernel
theorem dX9_says_71 : decode cX9_says 71 = .ok (.iconst 1, 1) := by decide +kernel
theorem dX9_says_72 : decode cX9_says 72 = .ok (.goto 4, 3) := by decide +kernel
theorem dX9_says_75 : decode cX9_says 75 = .ok (.iconst 0, 1) := by decide +kernel
theorem dX9_says_76 : decode cX9_says 76 = .ok (.istore_n 1, 1) := by decide +kernel
theorem dX9_says_77 : decode cX9_says 77 = .ok (.aload_n 0, 1) := by decide +kernel
theorem dX9_says_78 : decode cX9_says 78 = .ok (.dup, 1) := by decide +kernel
theorem dX9_says_79 : decode cX9_says 79 = .ok (.getfield 104, 3) := by decide +kernel
theorem dX9_says_82 : decode cX9_says 82 = .ok (.iload_n 1, 1) := by decide +kernel
theorem dX9_says_83 : decode cX9_says 83 = .ok (.ifCond .eq 7, 3) := by decide +kernel
theorem dX9_says_86 : decode cX9_says 86 = .ok (.iconst 1, 1) := by decide +kernel
theorem dX9_says_87 : decode cX9_says 87 = .ok (.goto 4, 3) := by decide +kernel
theorem dX9_says_90 : decode cX9_says 90 = .ok (.iconst 0, 1) := by decide +kernel
theorem dX9_says_91 : decode cX9_says 91 = .ok (.iadd, 1) := by decide +kernel
theorem dX9_says_92 : decode cX9_says 92 = .ok (.putfield 104, 3) := by decide +kernel
theorem dX9_says_95 : decode cX9_says 95 = .ok (.goto (-88), 3) := by decide +kernel
theorem dX9_says_98 : decode cX9_says 98 = .ok (.aload_n 0, 1) := by decide +kernel
theorem dX9_says_99 : decode cX9_says 99 = .ok (.iconst 1, 1) := by decide +kernel
theorem dX9_says_100 : decode cX9_says 100 = .ok (.putfield 123, 3) := by decide +kernel
theorem dX9_says_103 : decode cX9_says 103 = .ok (.aload_n 0, 1) := by decide +kernel
theorem dX9_says_104 : decode cX9_says 104 = .ok (.getfield 107, 3) := by decide +kernel
theorem dX9_says_107 : decode cX9_says 107 = .ok (.ifCond .ne 33, 3) := by decide +kernel
theorem dX9_says_110 : decode cX9_says 110 = .ok (.aload_n 0, 1) := by decide +kernel
theorem dX9_says_111 : decode cX9_says 111 = .ok (.invokevirtual 110, 3) := by decide +kernel
theorem dX9_says_114 : decode cX9_says 114 = .ok (.bipush 35, 2) := by decide +kernel
theorem dX9_says_116 : decode cX9_says 116 = .ok (.if_icmp .ne 24, 3) := by decide +kernel
theorem dX9_says_119 : decode cX9_says 119 = .ok (.aload_n 0, 1) := by decide +kernel
theorem dX9_says_120 : decode cX9_says 120 = .ok (.dup, 1) := by decide +kernel
theorem dX9_says_121 : decode cX9_says 121 = .ok (.getfield 104, 3) := by decide +kernel
theorem dX9_says_124 : decode cX9_says 124 = .ok (.iconst 1, 1) := by decide +kernel
theorem dX9_says_125 : decode cX9_says 125 = .ok (.iadd, 1) := by decide +kernel
theorem dX9_says_126 : decode cX9_says 126 = .ok (.putfield 104, 3) := by decide +kernel
theorem dX9_says_129 : decode cX9_says 129 = .ok (.aload_n 0, 1) := by decide +kernel
theorem dX9_says_130 : decode cX9_says 130 = .ok (.aload_n 0, 1) := by decide +kernel
theorem dX9_says_131 : decode cX9_says 131 = .ok (.iconst 1, 1) := by decide +kernel
theorem dX9_says_132 : decode cX9_says 132 = .ok (.bipush 9, 2) := by decide +kernel
theorem dX9_says_134 : decode cX9_says 134 = .ok (.invokevirtual 114, 3) := by decide +kernel
theorem dX9_says_137 : decode cX9_says 137 = .ok (.putfield 123, 3) := by decide +kernel
theorem dX9_says_140 : decode cX9_says 140 = .ok (.return_, 1) := by decide +kernel
set_option maxRecDepth 20000 in
theorem ggX9_part_X9_next : GoodIn wsX9_part wsX9_next := goodIn_r _ [11, 3, 12, 13, 35, 36, 37, 38, 39, 40, 41, 42, 43, 44, 45, 46, 47, 48, 49, 50, 51, 52, 53, 54, 55, 56] (by decide +kernel) (by decide +kernel)
set_option maxRecDepth 20000 in
theorem gX9_part_X9_next : GoodIn wsX9_part (wsV RX9 110 RX9 yX9_next wsX9_next) := goodIn_app (goodIn_of _ (by decide +kernel)) ggX9_part_X9_next
set_option maxRecDepth 20000 in
theorem ggX9_part_X9_sign : GoodIn wsX9_part wsX9_sign := goodIn_r _ [17, 1, 3, 7, 8, 9, 10, 11, 12, 13, 35, 36, 37, 38, 39, 40, 41, 42, 43, 44, 45, 46, 47, 48, 49, 50, 51, 52, 53, 54, 55, 56] (by decide +kernel) (by decide +kernel)
set_option maxRecDepth 20000 in
theorem gX9_part_X9_sign : GoodIn wsX9_part (wsV RX9 129 RX9 yX9_sign wsX9_sign) := goodIn_app (goodIn_of _ (by decide +kernel)) ggX9_part_X9_sign
set_option maxRecDepth 20000 in
theorem ggX9_part_X9_says : GoodIn wsX9_part wsX9_says := goodIn_r _ [21, 22, 1, 23, 3, 4, 24, 25, 26, 10, 27, 28, 29, 30, 31, 7, 8, 9, 11, 12, 13, 32, 33, 34, 35, 36, 37, 38, 39, 40, 41, 42, 43, 44, 45, 46, 47, 48, 49, 50, 51, 52, 53, 54, 55, 56] (by decide +kernel) (by decide +kernel)
set_option maxRecDepth 20000 in
theorem gX9_part_X9_says : GoodIn wsX9_part (wsV RX9 132 RX9 yX9_says wsX9_says) := goodIn_app (goodIn_of _ (by decide +kernel)) ggX9_part_X9_says
set_option maxRecDepth 20000 in
theorem ggX9_part_X9_digit : GoodIn wsX9_part wsX9_digit := goodIn_r _ [31, 1, 3, 7, 8, 9, 10, 11, 12, 13, 32, 33, 34, 35, 36, 37, 38, 39, 40, 41, 42, 43, 44, 45, 46, 47, 48, 49, 50, 51, 52, 53, 54, 55, 56] (by decide +kernel) (by decide +kernel)
set_option maxRecDepth 20000 in
theorem gX9_part_X9_digit : GoodIn wsX9_part (wsV RX9 114 RX9 yX9_digit wsX9_digit) := goodIn_app (goodIn_of _ (by decide +kernel)) ggX9_part_X9_digit
set_option maxRecDepth 20000 in
theorem ggX9_part_X9_word : GoodIn wsX9_part wsX9_word := goodIn_r _ [27, 1, 3, 28, 29, 30, 10, 31, 7, 8, 9, 11, 12, 13, 32, 33, 34, 35, 36, 37, 38, 39, 40, 41, 42, 43, 44, 45, 46, 47, 48, 49, 50, 51, 52, 53, 54, 55, 56] (by decide +kernel) (by decide +kernel)
set_option maxRecDepth 20000 in
theorem gX9_part_X9_word : GoodIn wsX9_part (wsV RX9 120 RX9 yX9_word wsX9_word) := goodIn_app (goodIn_of _ (by decide +kernel)) ggX9_part_X9_word
theorem dX9_part_0 : decode cX9_part 0 = .ok (.aload_n 0, 1) := by decide +kernel
theorem dX9_part_1 : decode cX9_part 1 = .ok (.aload_n 0, 1) := by decide +kernel
theorem dX9_part_2 : decode cX9_part 2 = .ok (.getfield 107, 3) := by decide +kernel
theorem dX9_part_5 : decode cX9_part 5 = .ok (.ifCond .eq 7, 3) := by decide +kernel
theorem dX9_part_8 : decode cX9_part 8 = .ok (.iconst 0, 1) := by decide +kernel
theorem dX9_part_9 : decode cX9_part 9 = .ok (.goto 7, 3) := by decide +kernel
theorem dX9_part_12 : decode cX9_part 12 = .ok (.aload_n 0, 1) := by decide +kernel
theorem dX9_part_13 : decode cX9_part 13 = .ok (.invokevirtual 110, 3) := by decide +kernel
theorem dX9_part_16 : decode cX9_part 16 = .ok (.putfield 126, 3) := by decide +kernel
theorem dX9_part_19 : decode cX9_part 19 = .ok (.aload_n 0, 1) := by decide +kernel
theorem dX9_part_20 : decode cX9_part 20 = .ok (.getfield 126, 3) := by decide +kernel
theorem dX9_part_23 : decode cX9_part 23 = .ok (.lookupswitch 286 #[(101, 97), (102, 97), (103, 78), (115, 49), (116, 177)], 49) := by decide +kernel
theorem dX9_part_72 : decode cX9_part 72 = .ok (.aload_n 0, 1) := by decide +kernel
theorem dX9_part_73 : decode cX9_part 73 = .ok (.dup, 1) := by decide +kernel
theorem dX9_part_74 : decode cX9_part 74 = .ok (.getfield 104, 3) := by decide +kernel
theorem dX9_part_77 : decode cX9_part 77 = .ok (.iconst 1, 1) := by decide +kernel
theorem dX9_part_78 : decode cX9_part 78 = .ok (.iadd, 1) := by decide +kernel
theorem dX9_part_79 : decode cX9_part 79 = .ok (.putfield 104, 3) := by decide +kernel
theorem dX9_part_82 : decode cX9_part 82 = .ok (.aload_n 0, 1) := by decide +kernel
theorem dX9_part_83 : decode cX9_part 83 = .ok (.bipush 97, 2) := by decide +kernel
theorem dX9_part_85 : decode cX9_part 85 = .ok (.invokevirtual 129, 3) := by decide +kernel
theorem dX9_part_88 : decode cX9_part 88 = .ok (.aload_n 0, 1) := by decide +kernel
theorem dX9_part_89 : decode cX9_part 89 = .ok (.bipush 121, 2) := by decide +kernel
theorem dX9_part_91 : decode cX9_part 91 = .ok (.invokevirtual 129, 3) := by decide +kernel
theorem dX9_part_94 : decode cX9_part 94 = .ok (.aload_n 0, 1) := by decide +kernel
theorem dX9_part_95 : decode cX9_part 95 = .ok (.invokevirtual 132, 3) := by decide +kernel
theorem dX9_part_98 : decode cX9_part 98 = .ok (.goto 216, 3) := by decide +kernel
theorem dX9_part_101 : decode cX9_part 101 = .ok (.aload_n 0, 1) := by decide +kernel
theorem dX9_part_102 : decode cX9_part 102 = .ok (.dup, 1) := by decide +kernel
theorem dX9_part_103 : decode cX9_part 103 = .ok (.getfield 104, 3) := by decide +kernel
theorem dX9_part_106 : decode cX9_part 106 = .ok (.iconst 1, 1) := by decide +kernel
theorem dX9_part_107 : decode cX9_part 107 = .ok (.iadd, 1) := by decide +kernel
theorem dX9_part_108 : decode cX9_part 108 = .ok (.putfield 104, 3) := by decide +kernel
theorem dX9_part_111 : decode cX9_part 111 = .ok (.aload_n 0, 1) := by decide +kernel
theorem dX9_part_112 : decode cX9_part 112 = .ok (.bipush 111, 2) := by decide +kernel
theorem dX9_part_114 : decode cX9_part 114 = .ok (.invokevirtual 129, 3) := by decide +kernel
theorem dX9_part_117 : decode cX9_part 117 = .ok (.goto 197, 3) := by decide +kernel
theorem dX9_part_120 : decode cX9_part 120 = .ok (.aload_n 0, 1) := by decide +kernel
theorem dX9_part_121 : decode cX9_part 121 = .ok (.dup, 1) := by decide +kernel
theorem dX9_part_122 : decode cX9_part 122 = .ok (.getfield 104, 3) := by decide +kernel
theorem dX9_part_125 : decode cX9_part 125 = .ok (.iconst 1, 1) := by decide +kernel
theorem dX9_part_126 : decode cX9_part 126 = .ok (.iadd, 1) := by decide +kernel
theorem dX9_part_127 : decode cX9_part 127 = .ok (.putfield 104, 3) := by decide +kernel
theorem dX9_part_130 : decode cX9_part 130 = .ok (.aload_n 0, 1) := by decide +kernel
theorem dX9_part_131 : decode cX9_part 131 = .ok (.aload_n 0, 1) := by decide +kernel
theorem dX9_part_132 : decode cX9_part 132 = .ok (.getfield 126, 3) := by decide +kernel
theorem dX9_part_135 : decode cX9_part 135 = .ok (.bipush 101, 2) := by decide +kernel
theorem dX9_part_137 : decode cX9_part 137 = .ok (.if_icmp .ne 8, 3) := by decide +kernel
theorem dX9_part_140 : decode cX9_part 140 = .ok (.bipush 97, 2) := by decide +kernel
theorem dX9_part_142 : decode cX9_part 142 = .ok (.goto 5, 3) := by decide +kernel
theorem dX9_part_145 : decode cX9_part 145 = .ok (.bipush 101, 2) := by decide +kernel
theorem dX9_part_147 : decode cX9_part 147 = .ok (.invokevirtual 129, 3) := by decide +kernel
theorem dX9_part_150 : decode cX9_part 150 = .ok (.aload_n 0, 1) := by decide +kernel
theorem dX9_part_151 : decode cX9_part 151 = .ok (.aload_n 0, 1) := by decide +kernel
theorem dX9_part_152 : decode cX9_part 152 = .ok (.getfield 126, 3) := by decide +kernel
theorem dX9_part_155 : decode cX9_part 155 = .ok (.bipush 101, 2) := by decide +kernel
theorem dX9_part_157 : decode cX9_part 157 = .ok (.if_icmp .ne 8, 3) := by decide +kernel
theorem dX9_part_160 : decode cX9_part 160 = .ok (.bipush 114, 2) := by decide +kernel
theorem dX9_part_162 : decode cX9_part 162 = .ok (.goto 5, 3) := by decide +kernel
theorem dX9_part_165 : decode cX9_part 165 = .ok (.bipush 101, 2) := by decide +kernel
theorem dX9_part_167 : decode cX9_part 167 = .ok (.invokevirtual 129, 3) := by decide +kernel
theorem dX9_part_170 : decode cX9_part 170 = .ok (.aload_n 0, 1) := by decide +kernel
theorem dX9_part_171 : decode cX9_part 171 = .ok (.aload_n 0, 1) := by decide +kernel
theorem dX9_part_172 : decode cX9_part 172 = .ok (.iconst 0, 1) := by decide +kernel
theorem dX9_part_173 : decode cX9_part 173 = .ok (.iconst 5, 1) := by decide +kernel
theorem dX9_part_174 : decode cX9_part 174 = .ok (.invokevirtual 114, 3) := by decide +kernel
theorem dX9_part_177 : decode cX9_part 177 = .ok (.putfield 123, 3) := by decide +kernel
theorem dX9_part_180 : decode cX9_part 180 = .ok (.aload_n 0, 1) := by decide +kernel
theorem dX9_part_181 : decode cX9_part 181 = .ok (.bipush 61, 2) := by decide +kernel
theorem dX9_part_183 : decode cX9_part 183 = .ok (.invokevirtual 129, 3) := by decide +kernel
theorem dX9_part_186 : decode cX9_part 186 = .ok (.aload_n 0, 1) := by decide +kernel
theorem dX9_part_187 : decode cX9_part 187 = .ok (.aload_n 0, 1) := by decide +kernel
theorem dX9_part_188 : decode cX9_part 188 = .ok (.iconst 0, 1) := by decide +kernel
theorem dX9_part_189 : decode cX9_part 189 = .ok (.bipush 9, 2) := by decide +kernel
theorem dX9_part_191 : decode cX9_part 191 = .ok (.invokevirtual 114, 3) := by decide +kernel
theorem dX9_part_194 : decode cX9_part 194 = .ok (.putfield 135, 3) := by decide +kernel
theorem dX9_part_197 : decode cX9_part 197 = .ok (.goto 117, 3) := by decide +kernel
theorem dX9_part_200 : decode cX9_part 200 = .ok (.aload_n 0, 1) := by decide +kernel
theorem dX9_part_201 : decode cX9_part 201 = .ok (.dup, 1) := by decide +kernel
theorem dX9_part_202 : decode cX9_part 202 = .ok (.getfield 104, 3) := by decide +kernel
theorem dX9_part_205 : decode cX9_part 205 = .ok (.iconst 1, 1) := by decide +kernel
theorem dX9_part_206 : decode cX9_part 206 = .ok (.iadd, 1) := by decide +kernel
theorem dX9_part_207 : decode cX9_part 207 = .ok (.putfield 104, 3) := by decide +kernel
theorem dX9_part_210 : decode cX9_part 210 = .ok (.aload_n 0, 1) := by decide +kernel
theorem dX9_part_211 : decode cX9_part 211 = .ok (.bipush 101, 2) := by decide +kernel
theorem dX9_part_213 : decode cX9_part 213 = .ok (.invokevirtual 129, 3) := by decide +kernel
theorem dX9_part_216 : decode cX9_part 216 = .ok (.aload_n 0, 1) := by decide +kernel
theorem dX9_part_217 : decode cX9_part 217 = .ok (.bipush 97, 2) := by decide +kernel
theorem dX9_part_219 : decode cX9_part 219 = .ok (.invokevirtual 129, 3) := by decide +kernel
theorem dX9_part_222 : decode cX9_part 222 = .ok (.aload_n 0, 1) := by decide +kernel
theorem dX9_part_223 : decode cX9_part 223 = .ok (.bipush 99, 2) := by decide +kernel
theorem dX9_part_225 : decode cX9_part 225 = .ok (.invokevirtual 129, 3) := by decide +kernel
theorem dX9_part_228 : decode cX9_part 228 = .ok (.aload_n 0, 1) := by decide +kernel
theorem dX9_part_229 : decode cX9_part 229 = .ok (.bipush 104, 2) := by decide +kernel
theorem dX9_part_231 : decode cX9_part 231 = .ok (.invokevirtual 129, 3) := by decide +kernel
theorem dX9_part_234 : decode cX9_part 234 = .ok (.aload_n 0, 1) := by decide +kernel
theorem dX9_part_235 : decode cX9_part 235 = .ok (.aload_n 0, 1) := by decide +kernel
theorem dX9_part_236 : decode cX9_part 236 = .ok (.iconst 0, 1) := by decide +kernel
theorem dX9_part_237 : decode cX9_part 237 = .ok (.iconst 5, 1) := by decide +kernel
theorem dX9_part_238 : decode cX9_part 238 = .ok (.invokevirtual 114, 3) := by decide +kernel
theorem dX9_part_241 : decode cX9_part 241 = .ok (.putfield 123, 3) := by decide +kernel
theorem dX9_part_244 : decode cX9_part 244 = .ok (.aload_n 0, 1) := by decide +kernel
theorem dX9_part_245 : decode cX9_part 245 = .ok (.bipush 58, 2) := by decide +kernel
theorem dX9_part_247 : decode cX9_part 247 = .ok (.invokevirtual 129, 3) := by decide +kernel
theorem dX9_part_250 : decode cX9_part 250 = .ok (.aload_n 0, 1) := by decide +kernel
theorem dX9_part_251 : decode cX9_part 251 = .ok (.aload_n 0, 1) := by decide +kernel
theorem dX9_part_252 : decode cX9_part 252 = .ok (.invokevirtual 120, 3) := by decide +kernel
theorem dX9_part_255 : decode cX9_part 255 = .ok (.putfield 135, 3) := by decide +kernel
theorem dX9_part_258 : decode cX9_part 258 = .ok (.aload_n 0, 1) := by decide +kernel
theorem dX9_part_259 : decode cX9_part 259 = .ok (.bipush 61, 2) := by decide +kernel
theorem dX9_part_261 : decode cX9_part 261 = .ok (.invokevirtual 129, 3) := by decide +kernel
theorem dX9_part_264 : decode cX9_part 264 = .ok (.aload_n 0, 1) := by decide +kernel
theorem dX9_part_265 : decode cX9_part 265 = .ok (.getfield 107, 3) := by decide +kernel
theorem dX9_part_268 : decode cX9_part 268 = .ok (.ifCond .ne 30, 3) := by decide +kernel
theorem dX9_part_271 : decode cX9_part 271 = .ok (.aload_n 0, 1) := by decide +kernel
theorem dX9_part_272 : decode cX9_part 272 = .ok (.invokevirtual 110, 3) := by decide +kernel
theorem dX9_part_275 : decode cX9_part 275 = .ok (.bipush 63, 2) := by decide +kernel
theorem dX9_part_277 : decode cX9_part 277 = .ok (.if_icmp .ne 21, 3) := by decide +kernel
theorem dX9_part_280 : decode cX9_part 280 = .ok (.aload_n 0, 1) := by decide +kernel
theorem dX9_part_281 : decode cX9_part 281 = .ok (.dup, 1) := by decide +kernel
theorem dX9_part_282 : decode cX9_part 282 = .ok (.getfield 104, 3) := by decide +kernel
theorem dX9_part_285 : decode cX9_part 285 = .ok (.iconst 1, 1) := by decide +kernel
theorem dX9_part_286 : decode cX9_part 286 = .ok (.iadd, 1) := by decide +kernel
theorem dX9_part_287 : decode cX9_part 287 = .ok (.putfield 104, 3) := by decide +kernel
theorem dX9_part_290 : decode cX9_part 290 = .ok (.aload_n 0, 1) := by decide +kernel
theorem dX9_part_291 : decode cX9_part 291 = .ok (.iconst (-1), 1) := by decide +kernel
theorem dX9_part_292 : decode cX9_part 292 = .ok (.putfield 138, 3) := by decide +kernel
theorem dX9_part_295 : decode cX9_part 295 = .ok (.goto 19, 3) := by decide +kernel
theorem dX9_part_298 : decode cX9_part 298 = .ok (.aload_n 0, 1) := by decide +kernel
theorem dX9_part_299 : decode cX9_part 299 = .ok (.aload_n 0, 1) := by decide +kernel
theorem dX9_part_300 : decode cX9_part 300 = .ok (.invokevirtual 120, 3) := by decide +kernel
theorem dX9_part_303 : decode cX9_part 303 = .ok (.putfield 138, 3) := by decide +kernel
theorem dX9_part_306 : decode cX9_part 306 = .ok (.goto 8, 3) := by decide +kernel
theorem dX9_part_309 : decode cX9_part 309 = .ok (.aload_n 0, 1) := by decide +kernel
theorem dX9_part_310 : decode cX9_part 310 = .ok (.iconst 1, 1) := by decide +kernel
theorem dX9_part_311 : decode cX9_part 311 = .ok (.putfield 107, 3) := by decide +kernel
theorem dX9_part_314 : decode cX9_part 314 = .ok (.return_, 1) := by decide +kernel
set_option maxRecDepth 20000 in
theorem ggX9_isWhole_X9_part : GoodIn wsX9_isWhole wsX9_part := goodIn_r _ [8, 2, 9, 1, 10, 11, 12, 13, 14, 15, 7, 16, 3, 17, 18, 19, 20, 21, 22, 23, 24, 25, 26, 27, 28, 29, 30, 31, 32, 33, 34, 35, 36, 37, 38, 39, 40, 41, 42, 43, 44, 45, 46, 47, 48, 49, 50, 51, 52, 53, 54, 55, 56, 57, 58, 59, 60] (by decide +kernel) (by decide +kernel)
set_option maxRecDepth 20000 in
theorem gX9_isWhole_X9_part : GoodIn wsX9_isWhole (wsV RX9 141 RX9 yX9_part wsX9_part) := goodIn_app (goodIn_of _ (by decide +kernel)) ggX9_isWhole_X9_part
set_option maxRecDepth 20000 in
theorem ggX9_isWhole_X9_sign : GoodIn wsX9_isWhole wsX9_sign := goodIn_r _ [21, 2, 1, 13, 14, 15, 7, 16, 3, 17, 39, 40, 41, 42, 43, 44, 45, 46, 47, 48, 49, 50, 51, 52, 53, 54, 55, 56, 57, 58, 59, 60] (by decide +kernel) (by decide +kernel)
set_option maxRecDepth 20000 in
theorem gX9_isWhole_X9_sign : GoodIn wsX9_isWhole (wsV RX9 129 RX9 yX9_sign wsX9_sign) := goodIn_app (goodIn_of _ (by decide +kernel)) ggX9_isWhole_X9_sign
theorem dX9_isWhole_0 : decode cX9_isWhole 0 = .ok (.aload_n 0, 1) := by decide +kernel
theorem dX9_isWhole_1 : decode cX9_isWhole 1 = .ok (.iconst 0, 1) := by decide +kernel
theorem dX9_isWhole_2 : decode cX9_isWhole 2 = .ok (.putfield 104, 3) := by decide +kernel
theorem dX9_isWhole_5 : decode cX9_isWhole 5 = .ok (.aload_n 0, 1) := by decide +kernel
theorem dX9_isWhole_6 : decode cX9_isWhole 6 = .ok (.iconst 0, 1) := by decide +kernel
theorem dX9_isWhole_7 : decode cX9_isWhole 7 = .ok (.putfield 107, 3) := by decide +kernel
theorem dX9_isWhole_10 : decode cX9_isWhole 10 = .ok (.iconst 1, 1) := by decide +kernel
theorem dX9_isWhole_11 : decode cX9_isWhole 11 = .ok (.istore_n 1, 1) := by decide +kernel
theorem dX9_isWhole_12 : decode cX9_isWhole 12 = .ok (.iload_n 1, 1) := by decide +kernel
theorem dX9_isWhole_13 : decode cX9_isWhole 13 = .ok (.ifCond .eq 57, 3) := by decide +kernel
theorem dX9_isWhole_16 : decode cX9_isWhole 16 = .ok (.aload_n 0, 1) := by decide +kernel
theorem dX9_isWhole_17 : decode cX9_isWhole 17 = .ok (.invokevirtual 141, 3) := by decide +kernel
theorem dX9_isWhole_20 : decode cX9_isWhole 20 = .ok (.aload_n 0, 1) := by decide +kernel
theorem dX9_isWhole_21 : decode cX9_isWhole 21 = .ok (.getfield 107, 3) := by decide +kernel
theorem dX9_isWhole_24 : decode cX9_isWhole 24 = .ok (.ifCond .ne 18, 3) := by decide +kernel
theorem dX9_isWhole_27 : decode cX9_isWhole 27 = .ok (.aload_n 0, 1) := by decide +kernel
theorem dX9_isWhole_28 : decode cX9_isWhole 28 = .ok (.getfield 104, 3) := by decide +kernel
theorem dX9_isWhole_31 : decode cX9_isWhole 31 = .ok (.aload_n 0, 1) := by decide +kernel
theorem dX9_isWhole_32 : decode cX9_isWhole 32 = .ok (.getfield 101, 3) := by decide +kernel
theorem dX9_isWhole_35 : decode cX9_isWhole 35 = .ok (.if_icmp .ge 7, 3) := by decide +kernel
theorem dX9_isWhole_38 : decode cX9_isWhole 38 = .ok (.iconst 1, 1) := by decide +kernel
theorem dX9_isWhole_39 : decode cX9_isWhole 39 = .ok (.goto 4, 3) := by decide +kernel
theorem dX9_isWhole_42 : decode cX9_isWhole 42 = .ok (.iconst 0, 1) := by decide +kernel
theorem dX9_isWhole_43 : decode cX9_isWhole 43 = .ok (.istore_n 1, 1) := by decide +kernel
theorem dX9_isWhole_44 : decode cX9_isWhole 44 = .ok (.iload_n 1, 1) := by decide +kernel
theorem dX9_isWhole_45 : decode cX9_isWhole 45 = .ok (.ifCond .eq (-33), 3) := by decide +kernel
theorem dX9_isWhole_48 : decode cX9_isWhole 48 = .ok (.aload_n 0, 1) := by decide +kernel
theorem dX9_isWhole_49 : decode cX9_isWhole 49 = .ok (.bipush 59, 2) := by decide +kernel
theorem dX9_isWhole_51 : decode cX9_isWhole 51 = .ok (.invokevirtual 129, 3) := by decide +kernel
theorem dX9_isWhole_54 : decode cX9_isWhole 54 = .ok (.aload_n 0, 1) := by decide +kernel
theorem dX9_isWhole_55 : decode cX9_isWhole 55 = .ok (.getfield 107, 3) := by decide +kernel
theorem dX9_isWhole_58 : decode cX9_isWhole 58 = .ok (.ifCond .ne 7, 3) := by decide +kernel
theorem dX9_isWhole_61 : decode cX9_isWhole 61 = .ok (.iconst 1, 1) := by decide +kernel
theorem dX9_isWhole_62 : decode cX9_isWhole 62 = .ok (.goto 4, 3) := by decide +kernel
theorem dX9_isWhole_65 : decode cX9_isWhole 65 = .ok (.iconst 0, 1) := by decide +kernel
theorem dX9_isWhole_66 : decode cX9_isWhole 66 = .ok (.istore_n 1, 1) := by decide +kernel
theorem dX9_isWhole_67 : decode cX9_isWhole 67 = .ok (.goto (-55), 3) := by decide +kernel
theorem dX9_isWhole_70 : decode cX9_isWhole 70 = .ok (.aload_n 0, 1) := by decide +kernel
theorem dX9_isWhole_71 : decode cX9_isWhole 71 = .ok (.getfield 107, 3) := by decide +kernel
theorem dX9_isWhole_74 : decode cX9_isWhole 74 = .ok (.ifCond .ne 7, 3) := by decide +kernel
theorem dX9_isWhole_77 : decode cX9_isWhole 77 = .ok (.iconst 1, 1) := by decide +kernel
theorem dX9_isWhole_78 : decode cX9_isWhole 78 = .ok (.goto 4, 3) := by decide +kernel
theorem dX9_isWhole_81 : decode cX9_isWhole 81 = .ok (.iconst 0, 1) := by decide +kernel
theorem dX9_isWhole_82 : decode cX9_isWhole 82 = .ok (.ireturn, 1) := by decide +kernel
set_option maxRecDepth 20000 in
theorem ggX9_firstError_X9_isWhole : GoodIn wsX9_firstError wsX9_isWhole := goodIn_r _ [8, 3, 9, 2, 10, 11, 12, 7, 13, 14, 15, 16, 17, 18, 19, 20, 21, 22, 23, 24, 25, 26, 27, 28, 29, 30, 31, 32, 33, 34, 35, 36, 37, 38, 39, 40, 41, 42, 43, 44, 45, 46, 47, 48, 49, 50, 51, 52, 53, 54, 55, 56, 57, 58, 59, 60, 61, 62, 63, 64, 65] (by decide +kernel) (by decide +kernel)
set_option maxRecDepth 20000 in
theorem gX9_firstError_X9_isWhole : GoodIn wsX9_firstError (wsV RX9 144 RX9 yX9_isWhole wsX9_isWhole) := goodIn_app (goodIn_of _ (by decide +kernel)) ggX9_firstError_X9_isWhole
theorem dX9_firstError_0 : decode cX9_firstError 0 = .ok (.aload_n 0, 1) := by decide +kernel
theorem dX9_firstError_1 : decode cX9_firstError 1 = .ok (.iconst 0, 1) := by decide +kernel
theorem dX9_firstError_2 : decode cX9_firstError 2 = .ok (.putfield 31, 3) := by decide +kernel
theorem dX9_firstError_5 : decode cX9_firstError 5 = .ok (.aload_n 0, 1) := by decide +kernel
theorem dX9_firstError_6 : decode cX9_firstError 6 = .ok (.invokevirtual 144, 3) := by decide +kernel
theorem dX9_firstError_9 : decode cX9_firstError 9 = .ok (.ifCond .eq 10, 3) := by decide +kernel
theorem dX9_firstError_12 : decode cX9_firstError 12 = .ok (.aload_n 0, 1) := by decide +kernel
theorem dX9_firstError_13 : decode cX9_firstError 13 = .ok (.getfield 101, 3) := by decide +kernel
theorem dX9_firstError_16 : decode cX9_firstError 16 = .ok (.goto 7, 3) := by decide +kernel
theorem dX9_firstError_19 : decode cX9_firstError 19 = .ok (.aload_n 0, 1) := by decide +kernel
theorem dX9_firstError_20 : decode cX9_firstError 20 = .ok (.getfield 104, 3) := by decide +kernel
theorem dX9_firstError_23 : decode cX9_firstError 23 = .ok (.ireturn, 1) := by decide +kernel
set_option maxRecDepth 20000 in
theorem ggX9_obeys_X9_goes : GoodIn wsX9_obeys wsX9_goes := goodIn_r _ [12, 2, 13, 14, 15, 16, 17, 18, 19, 20, 11, 21, 22, 23, 24, 25, 26, 27, 28, 29, 30, 31, 32, 33, 34, 35, 36, 37, 38, 39, 40, 41, 42, 43, 44, 45, 46, 47, 48, 49, 50, 51, 52, 53, 54, 55, 56, 57, 58, 59, 60, 61, 62, 63, 64, 65, 66, 67, 68] (by decide +kernel) (by decide +kernel)
set_option maxRecDepth 20000 in
theorem gX9_obeys_X9_goes : GoodIn wsX9_obeys (wsV RX9 98 RX9 yX9_goes wsX9_goes) := goodIn_app (goodIn_of _ (by decide +kernel)) ggX9_obeys_X9_goes
theorem dX9_obeys_0 : decode cX9_obeys 0 = .ok (.aload_n 0, 1) := by decide +kernel
theorem dX9_obeys_1 : decode cX9_obeys 1 = .ok (.getfield 126, 3) := by decide +kernel
theorem dX9_obeys_4 : decode cX9_obeys 4 = .ok (.lookupswitch 212 #[(101, 174), (102, 193), (103, 155), (115, 44)], 44) := by decide +kernel
theorem dX9_obeys_48 : decode cX9_obeys 48 = .ok (.aload_n 0, 1) := by decide +kernel
theorem dX9_obeys_49 : decode cX9_obeys 49 = .ok (.getfield 7, 3) := by decide +kernel
theorem dX9_obeys_52 : decode cX9_obeys 52 = .ok (.sipush 304, 3) := by decide +kernel
theorem dX9_obeys_55 : decode cX9_obeys 55 = .ok (.iaload, 1) := by decide +kernel
theorem dX9_obeys_56 : decode cX9_obeys 56 = .ok (.bipush 8, 2) := by decide +kernel
theorem dX9_obeys_58 : decode cX9_obeys 58 = .ok (.if_icmp .ne 5, 3) := by decide +kernel
theorem dX9_obeys_61 : decode cX9_obeys 61 = .ok (.iconst 1, 1) := by decide +kernel
theorem dX9_obeys_62 : decode cX9_obeys 62 = .ok (.ireturn, 1) := by decide +kernel
theorem dX9_obeys_63 : decode cX9_obeys 63 = .ok (.sipush 192, 3) := by decide +kernel
theorem dX9_obeys_66 : decode cX9_obeys 66 = .ok (.bipush 14, 2) := by decide +kernel
theorem dX9_obeys_68 : decode cX9_obeys 68 = .ok (.aload_n 0, 1) := by decide +kernel
theorem dX9_obeys_69 : decode cX9_obeys 69 = .ok (.getfield 7, 3) := by decide +kernel
theorem dX9_obeys_72 : decode cX9_obeys 72 = .ok (.sipush 304, 3) := by decide +kernel
theorem dX9_obeys_75 : decode cX9_obeys 75 = .ok (.iaload, 1) := by decide +kernel
theorem dX9_obeys_76 : decode cX9_obeys 76 = .ok (.imul, 1) := by decide +kernel
theorem dX9_obeys_77 : decode cX9_obeys 77 = .ok (.iadd, 1) := by decide +kernel
theorem dX9_obeys_78 : decode cX9_obeys 78 = .ok (.istore_n 1, 1) := by decide +kernel
theorem dX9_obeys_79 : decode cX9_obeys 79 = .ok (.aload_n 0, 1) := by decide +kernel
theorem dX9_obeys_80 : decode cX9_obeys 80 = .ok (.getfield 7, 3) := by decide +kernel
theorem dX9_obeys_83 : decode cX9_obeys 83 = .ok (.iload_n 1, 1) := by decide +kernel
theorem dX9_obeys_84 : decode cX9_obeys 84 = .ok (.iconst 0, 1) := by decide +kernel
theorem dX9_obeys_85 : decode cX9_obeys 85 = .ok (.iadd, 1) := by decide +kernel
theorem dX9_obeys_86 : decode cX9_obeys 86 = .ok (.aload_n 0, 1) := by decide +kernel
theorem dX9_obeys_87 : decode cX9_obeys 87 = .ok (.getfield 117, 3) := by decide +kernel
theorem dX9_obeys_90 : decode cX9_obeys 90 = .ok (.iastore, 1) := by decide +kernel
theorem dX9_obeys_91 : decode cX9_obeys 91 = .ok (.aload_n 0, 1) := by decide +kernel
theorem dX9_obeys_92 : decode cX9_obeys 92 = .ok (.getfield 7, 3) := by decide +kernel
theorem dX9_obeys_95 : decode cX9_obeys 95 = .ok (.iload_n 1, 1) := by decide +kernel
theorem dX9_obeys_96 : decode cX9_obeys 96 = .ok (.iconst 1, 1) := by decide +kernel
theorem dX9_obeys_97 : decode cX9_obeys 97 = .ok (.iadd, 1) := by decide +kernel
theorem dX9_obeys_98 : decode cX9_obeys 98 = .ok (.aload_n 0, 1) := by decide +kernel
theorem dX9_obeys_99 : decode cX9_obeys 99 = .ok (.getfield 123, 3) := by decide +kernel
theorem dX9_obeys_102 : decode cX9_obeys 102 = .ok (.iastore, 1) := by decide +kernel
theorem dX9_obeys_103 : decode cX9_obeys 103 = .ok (.iconst 0, 1) := by decide +kernel
theorem dX9_obeys_104 : decode cX9_obeys 104 = .ok (.istore_n 2, 1) := by decide +kernel
theorem dX9_obeys_105 : decode cX9_obeys 105 = .ok (.iload_n 2, 1) := by decide +kernel
theorem dX9_obeys_106 : decode cX9_obeys 106 = .ok (.bipush 12, 2) := by decide +kernel
theorem dX9_obeys_108 : decode cX9_obeys 108 = .ok (.if_icmp .ge 37, 3) := by decide +kernel
theorem dX9_obeys_111 : decode cX9_obeys 111 = .ok (.aload_n 0, 1) := by decide +kernel
theorem dX9_obeys_112 : decode cX9_obeys 112 = .ok (.getfield 7, 3) := by decide +kernel
theorem dX9_obeys_115 : decode cX9_obeys 115 = .ok (.iload_n 1, 1) := by decide +kernel
theorem dX9_obeys_116 : decode cX9_obeys 116 = .ok (.iconst 2, 1) := by decide +kernel
theorem dX9_obeys_117 : decode cX9_obeys 117 = .ok (.iadd, 1) := by decide +kernel
theorem dX9_obeys_118 : decode cX9_obeys 118 = .ok (.iload_n 2, 1) := by decide +kernel
theorem dX9_obeys_119 : decode cX9_obeys 119 = .ok (.iadd, 1) := by decide +kernel
theorem dX9_obeys_120 : decode cX9_obeys 120 = .ok (.iload_n 2, 1) := by decide +kernel
theorem dX9_obeys_121 : decode cX9_obeys 121 = .ok (.aload_n 0, 1) := by decide +kernel
theorem dX9_obeys_122 : decode cX9_obeys 122 = .ok (.getfield 117, 3) := by decide +kernel
theorem dX9_obeys_125 : decode cX9_obeys 125 = .ok (.if_icmp .ge 12, 3) := by decide +kernel
theorem dX9_obeys_128 : decode cX9_obeys 128 = .ok (.aload_n 0, 1) := by decide +kernel
theorem dX9_obeys_129 : decode cX9_obeys 129 = .ok (.getfield 28, 3) := by decide +kernel
theorem dX9_obeys_132 : decode cX9_obeys 132 = .ok (.iload_n 2, 1) := by decide +kernel
theorem dX9_obeys_133 : decode cX9_obeys 133 = .ok (.iaload, 1) := by decide +kernel
theorem dX9_obeys_134 : decode cX9_obeys 134 = .ok (.goto 4, 3) := by decide +kernel
theorem dX9_obeys_137 : decode cX9_obeys 137 = .ok (.iconst 0, 1) := by decide +kernel
theorem dX9_obeys_138 : decode cX9_obeys 138 = .ok (.iastore, 1) := by decide +kernel
theorem dX9_obeys_139 : decode cX9_obeys 139 = .ok (.iinc 2 1, 3) := by decide +kernel
theorem dX9_obeys_142 : decode cX9_obeys 142 = .ok (.goto (-37), 3) := by decide +kernel
theorem dX9_obeys_145 : decode cX9_obeys 145 = .ok (.aload_n 0, 1) := by decide +kernel
theorem dX9_obeys_146 : decode cX9_obeys 146 = .ok (.getfield 7, 3) := by decide +kernel
theorem dX9_obeys_149 : decode cX9_obeys 149 = .ok (.sipush 304, 3) := by decide +kernel
theorem dX9_obeys_152 : decode cX9_obeys 152 = .ok (.dup2, 1) := by decide +kernel
theorem dX9_obeys_153 : decode cX9_obeys 153 = .ok (.iaload, 1) := by decide +kernel
theorem dX9_obeys_154 : decode cX9_obeys 154 = .ok (.iconst 1, 1) := by decide +kernel
theorem dX9_obeys_155 : decode cX9_obeys 155 = .ok (.iadd, 1) := by decide +kernel
theorem dX9_obeys_156 : decode cX9_obeys 156 = .ok (.iastore, 1) := by decide +kernel
theorem dX9_obeys_157 : decode cX9_obeys 157 = .ok (.iconst 0, 1) := by decide +kernel
theorem dX9_obeys_158 : decode cX9_obeys 158 = .ok (.ireturn, 1) := by decide +kernel
theorem dX9_obeys_159 : decode cX9_obeys 159 = .ok (.aload_n 0, 1) := by decide +kernel
theorem dX9_obeys_160 : decode cX9_obeys 160 = .ok (.getfield 7, 3) := by decide +kernel
theorem dX9_obeys_163 : decode cX9_obeys 163 = .ok (.sipush 304, 3) := by decide +kernel
theorem dX9_obeys_166 : decode cX9_obeys 166 = .ok (.iaload, 1) := by decide +kernel
theorem dX9_obeys_167 : decode cX9_obeys 167 = .ok (.ifCond .ne 5, 3) := by decide +kernel
theorem dX9_obeys_170 : decode cX9_obeys 170 = .ok (.iconst 2, 1) := by decide +kernel
theorem dX9_obeys_171 : decode cX9_obeys 171 = .ok (.ireturn, 1) := by decide +kernel
theorem dX9_obeys_172 : decode cX9_obeys 172 = .ok (.aload_n 0, 1) := by decide +kernel
theorem dX9_obeys_173 : decode cX9_obeys 173 = .ok (.invokevirtual 98, 3) := by decide +kernel
theorem dX9_obeys_176 : decode cX9_obeys 176 = .ok (.iconst 0, 1) := by decide +kernel
theorem dX9_obeys_177 : decode cX9_obeys 177 = .ok (.ireturn, 1) := by decide +kernel
theorem dX9_obeys_178 : decode cX9_obeys 178 = .ok (.aload_n 0, 1) := by decide +kernel
theorem dX9_obeys_179 : decode cX9_obeys 179 = .ok (.getfield 7, 3) := by decide +kernel
theorem dX9_obeys_182 : decode cX9_obeys 182 = .ok (.sipush 180, 3) := by decide +kernel
theorem dX9_obeys_185 : decode cX9_obeys 185 = .ok (.aload_n 0, 1) := by decide +kernel
theorem dX9_obeys_186 : decode cX9_obeys 186 = .ok (.getfield 123, 3) := by decide +kernel
theorem dX9_obeys_189 : decode cX9_obeys 189 = .ok (.iadd, 1) := by decide +kernel
theorem dX9_obeys_190 : decode cX9_obeys 190 = .ok (.aload_n 0, 1) := by decide +kernel
theorem dX9_obeys_191 : decode cX9_obeys 191 = .ok (.getfield 135, 3) := by decide +kernel
theorem dX9_obeys_194 : decode cX9_obeys 194 = .ok (.iastore, 1) := by decide +kernel
theorem dX9_obeys_195 : decode cX9_obeys 195 = .ok (.iconst 0, 1) := by decide +kernel
theorem dX9_obeys_196 : decode cX9_obeys 196 = .ok (.ireturn, 1) := by decide +kernel
theorem dX9_obeys_197 : decode cX9_obeys 197 = .ok (.aload_n 0, 1) := by decide +kernel
theorem dX9_obeys_198 : decode cX9_obeys 198 = .ok (.getfield 7, 3) := by decide +kernel
theorem dX9_obeys_201 : decode cX9_obeys 201 = .ok (.sipush 186, 3) := by decide +kernel
theorem dX9_obeys_204 : decode cX9_obeys 204 = .ok (.aload_n 0, 1) := by decide +kernel
theorem dX9_obeys_205 : decode cX9_obeys 205 = .ok (.getfield 123, 3) := by decide +kernel
theorem dX9_obeys_208 : decode cX9_obeys 208 = .ok (.iadd, 1) := by decide +kernel
theorem dX9_obeys_209 : decode cX9_obeys 209 = .ok (.aload_n 0, 1) := by decide +kernel
theorem dX9_obeys_210 : decode cX9_obeys 210 = .ok (.getfield 135, 3) := by decide +kernel
theorem dX9_obeys_213 : decode cX9_obeys 213 = .ok (.iastore, 1) := by decide +kernel
theorem dX9_obeys_214 : decode cX9_obeys 214 = .ok (.iconst 0, 1) := by decide +kernel
theorem dX9_obeys_215 : decode cX9_obeys 215 = .ok (.ireturn, 1) := by decide +kernel
theorem dX9_obeys_216 : decode cX9_obeys 216 = .ok (.aload_n 0, 1) := by decide +kernel
theorem dX9_obeys_217 : decode cX9_obeys 217 = .ok (.getfield 7, 3) := by decide +kernel
theorem dX9_obeys_220 : decode cX9_obeys 220 = .ok (.iconst 0, 1) := by decide +kernel
theorem dX9_obeys_221 : decode cX9_obeys 221 = .ok (.bipush 30, 2) := by decide +kernel
theorem dX9_obeys_223 : decode cX9_obeys 223 = .ok (.aload_n 0, 1) := by decide +kernel
theorem dX9_obeys_224 : decode cX9_obeys 224 = .ok (.getfield 123, 3) := by decide +kernel
theorem dX9_obeys_227 : decode cX9_obeys 227 = .ok (.imul, 1) := by decide +kernel
theorem dX9_obeys_228 : decode cX9_obeys 228 = .ok (.iadd, 1) := by decide +kernel
theorem dX9_obeys_229 : decode cX9_obeys 229 = .ok (.aload_n 0, 1) := by decide +kernel
theorem dX9_obeys_230 : decode cX9_obeys 230 = .ok (.getfield 135, 3) := by decide +kernel
theorem dX9_obeys_233 : decode cX9_obeys 233 = .ok (.iadd, 1) := by decide +kernel
theorem dX9_obeys_234 : decode cX9_obeys 234 = .ok (.aload_n 0, 1) := by decide +kernel
theorem dX9_obeys_235 : decode cX9_obeys 235 = .ok (.getfield 138, 3) := by decide +kernel
theorem dX9_obeys_238 : decode cX9_obeys 238 = .ok (.iastore, 1) := by decide +kernel
theorem dX9_obeys_239 : decode cX9_obeys 239 = .ok (.iconst 0, 1) := by decide +kernel
theorem dX9_obeys_240 : decode cX9_obeys 240 = .ok (.ireturn, 1) := by decide +kernel
set_option maxRecDepth 20000 in
theorem ggX9_obey_X9_isWhole : GoodIn wsX9_obey wsX9_isWhole := goodIn_r _ [8, 1, 9, 2, 10, 11, 12, 7, 13, 14, 15, 16, 17, 18, 19, 20, 21, 22, 23, 24, 25, 26, 27, 28, 29, 30, 31, 32, 33, 34, 35, 36, 37, 38, 39, 40, 41, 42, 43, 97, 98, 99, 100, 101, 102, 103, 104, 105, 106, 107, 108, 109, 110, 111, 112, 113, 114, 115, 116, 117, 118] (by decide +kernel) (by decide +kernel)
set_option maxRecDepth 20000 in
theorem gX9_obey_X9_isWhole : GoodIn wsX9_obey (wsV RX9 144 RX9 yX9_isWhole wsX9_isWhole) := goodIn_app (goodIn_of _ (by decide +kernel)) ggX9_obey_X9_isWhole
set_option maxRecDepth 20000 in
theorem ggX9_obey_X9_refused : GoodIn wsX9_obey wsX9_refused := goodIn_r _ [47, 48, 97, 98, 99, 100, 101, 102, 103, 104, 105, 106, 107, 108, 109, 110, 111, 112, 113, 114, 115, 116, 117, 118] (by decide +kernel) (by decide +kernel)
set_option maxRecDepth 20000 in
theorem gX9_obey_X9_refused : GoodIn wsX9_obey (wsV RX9 53 RX9 yX9_refused wsX9_refused) := goodIn_app (goodIn_of _ (by decide +kernel)) ggX9_obey_X9_refused
set_option maxRecDepth 20000 in
theorem ggX9_obey_X9_saves : GoodIn wsX9_obey wsX9_saves := goodIn_r _ [52, 53, 54, 3, 97, 98, 99, 100, 101, 102, 103, 104, 105, 106, 107, 108, 109, 110, 111, 112, 113, 114, 115, 116, 117, 118] (by decide +kernel) (by decide +kernel)
set_option maxRecDepth 20000 in
theorem gX9_obey_X9_saves : GoodIn wsX9_obey (wsV RX9 56 RX9 yX9_saves wsX9_saves) := goodIn_app (goodIn_of _ (by decide +kernel)) ggX9_obey_X9_saves
set_option maxRecDepth 20000 in
theorem ggX9_obey_X9_part : GoodIn wsX9_obey wsX9_part := goodIn_r _ [13, 9, 14, 1, 15, 16, 17, 18, 19, 20, 7, 21, 2, 22, 23, 24, 25, 26, 27, 28, 29, 30, 31, 32, 33, 34, 35, 36, 37, 38, 39, 40, 41, 42, 43, 97, 98, 99, 100, 101, 102, 103, 104, 105, 106, 107, 108, 109, 110, 111, 112, 113, 114, 115, 116, 117, 118] (by decide +kernel) (by decide +kernel)
set_option maxRecDepth 20000 in
theorem gX9_obey_X9_part : GoodIn wsX9_obey (wsV RX9 141 RX9 yX9_part wsX9_part) := goodIn_app (goodIn_of _ (by decide +kernel)) ggX9_obey_X9_part
set_option maxRecDepth 20000 in
theorem ggX9_obey_X9_obeys : GoodIn wsX9_obey wsX9_obeys := goodIn_r _ [58, 14, 3, 31, 15, 32, 16, 17, 59, 60, 61, 7, 62, 63, 64, 65, 66, 67, 68, 69, 70, 71, 72, 73, 74, 75, 76, 77, 78, 79, 80, 81, 82, 83, 84, 85, 86, 87, 88, 89, 90, 91, 92, 93, 94, 95, 96, 97, 98, 99, 100, 101, 102, 103, 104, 105, 106, 107, 108, 109, 110, 111, 112, 113, 114, 115, 116, 117, 118] (by decide +kernel) (by decide +kernel)
set_option maxRecDepth 20000 in
theorem gX9_obey_X9_obeys : GoodIn wsX9_obey (wsV RX9 148 RX9 yX9_obeys wsX9_obeys) := goodIn_app (goodIn_of _ (by decide +kernel)) ggX9_obey_X9_obeys
theorem dX9_obey_0 : decode cX9_obey 0 = .ok (.aload_n 0, 1) := by decide +kernel
theorem dX9_obey_1 : decode cX9_obey 1 = .ok (.aload_n 0, 1) := by decide +kernel
theorem dX9_obey_2 : decode cX9_obey 2 = .ok (.invokevirtual 144, 3) := by decide +kernel
theorem dX9_obey_5 : decode cX9_obey 5 = .ok (.ifCond .eq 7, 3) := by decide +kernel
theorem dX9_obey_8 : decode cX9_obey 8 = .ok (.iconst 0, 1) := by decide +kernel
theorem dX9_obey_9 : decode cX9_obey 9 = .ok (.goto 4, 3) := by decide +kernel
theorem dX9_obey_12 : decode cX9_obey 12 = .ok (.iconst 1, 1) := by decide +kernel
theorem dX9_obey_13 : decode cX9_obey 13 = .ok (.invokevirtual 53, 3) := by decide +kernel
theorem dX9_obey_16 : decode cX9_obey 16 = .ok (.ifCond .eq 5, 3) := by decide +kernel
theorem dX9_obey_19 : decode cX9_obey 19 = .ok (.iconst 0, 1) := by decide +kernel
theorem dX9_obey_20 : decode cX9_obey 20 = .ok (.ireturn, 1) := by decide +kernel
theorem dX9_obey_21 : decode cX9_obey 21 = .ok (.aload_n 0, 1) := by decide +kernel
theorem dX9_obey_22 : decode cX9_obey 22 = .ok (.invokevirtual 56, 3) := by decide +kernel
theorem dX9_obey_25 : decode cX9_obey 25 = .ok (.iconst 0, 1) := by decide +kernel
theorem dX9_obey_26 : decode cX9_obey 26 = .ok (.istore_n 1, 1) := by decide +kernel
theorem dX9_obey_27 : decode cX9_obey 27 = .ok (.iconst 0, 1) := by decide +kernel
theorem dX9_obey_28 : decode cX9_obey 28 = .ok (.istore_n 2, 1) := by decide +kernel
theorem dX9_obey_29 : decode cX9_obey 29 = .ok (.aload_n 0, 1) := by decide +kernel
theorem dX9_obey_30 : decode cX9_obey 30 = .ok (.iconst 0, 1) := by decide +kernel
theorem dX9_obey_31 : decode cX9_obey 31 = .ok (.putfield 104, 3) := by decide +kernel
theorem dX9_obey_34 : decode cX9_obey 34 = .ok (.iload_n 2, 1) := by decide +kernel
theorem dX9_obey_35 : decode cX9_obey 35 = .ok (.ifCond .ne 48, 3) := by decide +kernel
theorem dX9_obey_38 : decode cX9_obey 38 = .ok (.aload_n 0, 1) := by decide +kernel
theorem dX9_obey_39 : decode cX9_obey 39 = .ok (.getfield 104, 3) := by decide +kernel
theorem dX9_obey_42 : decode cX9_obey 42 = .ok (.aload_n 0, 1) := by decide +kernel
theorem dX9_obey_43 : decode cX9_obey 43 = .ok (.getfield 101, 3) := by decide +kernel
theorem dX9_obey_46 : decode cX9_obey 46 = .ok (.if_icmp .ge 37, 3) := by decide +kernel
theorem dX9_obey_49 : decode cX9_obey 49 = .ok (.aload_n 0, 1) := by decide +kernel
theorem dX9_obey_50 : decode cX9_obey 50 = .ok (.invokevirtual 141, 3) := by decide +kernel
theorem dX9_obey_53 : decode cX9_obey 53 = .ok (.aload_n 0, 1) := by decide +kernel
theorem dX9_obey_54 : decode cX9_obey 54 = .ok (.dup, 1) := by decide +kernel
theorem dX9_obey_55 : decode cX9_obey 55 = .ok (.getfield 104, 3) := by decide +kernel
theorem dX9_obey_58 : decode cX9_obey 58 = .ok (.iconst 1, 1) := by decide +kernel
theorem dX9_obey_59 : decode cX9_obey 59 = .ok (.iadd, 1) := by decide +kernel
theorem dX9_obey_60 : decode cX9_obey 60 = .ok (.putfield 104, 3) := by decide +kernel
theorem dX9_obey_63 : decode cX9_obey 63 = .ok (.aload_n 0, 1) := by decide +kernel
theorem dX9_obey_64 : decode cX9_obey 64 = .ok (.invokevirtual 148, 3) := by decide +kernel
theorem dX9_obey_67 : decode cX9_obey 67 = .ok (.istore_n 2, 1) := by decide +kernel
theorem dX9_obey_68 : decode cX9_obey 68 = .ok (.iload_n 1, 1) := by decide +kernel
theorem dX9_obey_69 : decode cX9_obey 69 = .ok (.iload_n 2, 1) := by decide +kernel
theorem dX9_obey_70 : decode cX9_obey 70 = .ok (.ifCond .ne 7, 3) := by decide +kernel
theorem dX9_obey_73 : decode cX9_obey 73 = .ok (.iconst 1, 1) := by decide +kernel
theorem dX9_obey_74 : decode cX9_obey 74 = .ok (.goto 4, 3) := by decide +kernel
theorem dX9_obey_77 : decode cX9_obey 77 = .ok (.iconst 0, 1) := by decide +kernel
theorem dX9_obey_78 : decode cX9_obey 78 = .ok (.iadd, 1) := by decide +kernel
theorem dX9_obey_79 : decode cX9_obey 79 = .ok (.istore_n 1, 1) := by decide +kernel
theorem dX9_obey_80 : decode cX9_obey 80 = .ok (.goto (-46), 3) := by decide +kernel
theorem dX9_obey_83 : decode cX9_obey 83 = .ok (.aload_n 0, 1) := by decide +kernel
theorem dX9_obey_84 : decode cX9_obey 84 = .ok (.getfield 7, 3) := by decide +kernel
theorem dX9_obey_87 : decode cX9_obey 87 = .ok (.sipush 458, 3) := by decide +kernel
theorem dX9_obey_90 : decode cX9_obey 90 = .ok (.iload_n 2, 1) := by decide +kernel
theorem dX9_obey_91 : decode cX9_obey 91 = .ok (.ifCond .ne 7, 3) := by decide +kernel
theorem dX9_obey_94 : decode cX9_obey 94 = .ok (.iconst 0, 1) := by decide +kernel
theorem dX9_obey_95 : decode cX9_obey 95 = .ok (.goto 6, 3) := by decide +kernel
theorem dX9_obey_98 : decode cX9_obey 98 = .ok (.iload_n 1, 1) := by decide +kernel
theorem dX9_obey_99 : decode cX9_obey 99 = .ok (.iconst 1, 1) := by decide +kernel
theorem dX9_obey_100 : decode cX9_obey 100 = .ok (.iadd, 1) := by decide +kernel
theorem dX9_obey_101 : decode cX9_obey 101 = .ok (.iastore, 1) := by decide +kernel
theorem dX9_obey_102 : decode cX9_obey 102 = .ok (.aload_n 0, 1) := by decide +kernel
theorem dX9_obey_103 : decode cX9_obey 103 = .ok (.getfield 7, 3) := by decide +kernel
theorem dX9_obey_106 : decode cX9_obey 106 = .ok (.sipush 459, 3) := by decide +kernel
theorem dX9_obey_109 : decode cX9_obey 109 = .ok (.iload_n 2, 1) := by decide +kernel
theorem dX9_obey_110 : decode cX9_obey 110 = .ok (.iastore, 1) := by decide +kernel
theorem dX9_obey_111 : decode cX9_obey 111 = .ok (.aload_n 0, 1) := by decide +kernel
theorem dX9_obey_112 : decode cX9_obey 112 = .ok (.iconst 0, 1) := by decide +kernel
theorem dX9_obey_113 : decode cX9_obey 113 = .ok (.putfield 101, 3) := by decide +kernel
theorem dX9_obey_116 : decode cX9_obey 116 = .ok (.iload_n 1, 1) := by decide +kernel
theorem dX9_obey_117 : decode cX9_obey 117 = .ok (.ireturn, 1) := by decide +kernel
theorem dX9_stop_0 : decode cX9_stop 0 = .ok (.aload_n 0, 1) := by decide +kernel
theorem dX9_stop_1 : decode cX9_stop 1 = .ok (.getfield 7, 3) := by decide +kernel
theorem dX9_stop_4 : decode cX9_stop 4 = .ok (.sipush 458, 3) := by decide +kernel
theorem dX9_stop_7 : decode cX9_stop 7 = .ok (.iaload, 1) := by decide +kernel
theorem dX9_stop_8 : decode cX9_stop 8 = .ok (.ifCond .ne 7, 3) := by decide +kernel
theorem dX9_stop_11 : decode cX9_stop 11 = .ok (.iconst (-1), 1) := by decide +kernel
theorem dX9_stop_12 : decode cX9_stop 12 = .ok (.goto 28, 3) := by decide +kernel
theorem dX9_stop_15 : decode cX9_stop 15 = .ok (.iload_n 1, 1) := by decide +kernel
theorem dX9_stop_16 : decode cX9_stop 16 = .ok (.ifCond .ne 16, 3) := by decide +kernel
theorem dX9_stop_19 : decode cX9_stop 19 = .ok (.aload_n 0, 1) := by decide +kernel
theorem dX9_stop_20 : decode cX9_stop 20 = .ok (.getfield 7, 3) := by decide +kernel
theorem dX9_stop_23 : decode cX9_stop 23 = .ok (.sipush 458, 3) := by decide +kernel
theorem dX9_stop_26 : decode cX9_stop 26 = .ok (.iaload, 1) := by decide +kernel
theorem dX9_stop_27 : decode cX9_stop 27 = .ok (.iconst 1, 1) := by decide +kernel
theorem dX9_stop_28 : decode cX9_stop 28 = .ok (.isub, 1) := by decide +kernel
theorem dX9_stop_29 : decode cX9_stop 29 = .ok (.goto 11, 3) := by decide +kernel
theorem dX9_stop_32 : decode cX9_stop 32 = .ok (.aload_n 0, 1) := by decide +kernel
theorem dX9_stop_33 : decode cX9_stop 33 = .ok (.getfield 7, 3) := by decide +kernel
theorem dX9_stop_36 : decode cX9_stop 36 = .ok (.sipush 459, 3) := by decide +kernel
theorem dX9_stop_39 : decode cX9_stop 39 = .ok (.iaload, 1) := by decide +kernel
theorem dX9_stop_40 : decode cX9_stop 40 = .ok (.ireturn, 1) := by decide +kernel
set_option maxRecDepth 20000 in
theorem ggX9_stopped_X9_in : GoodIn wsX9_stopped wsX9_in := goodIn_r _ [4] (by decide +kernel) (by decide +kernel)
set_option maxRecDepth 20000 in
theorem gX9_stopped_X9_in : GoodIn wsX9_stopped (va_wsS RX9 35 yX9_in wsX9_in) := goodIn_app (goodIn_of _ (by decide +kernel)) ggX9_stopped_X9_in
set_option maxRecDepth 20000 in
theorem ggX9_stopped_X9_refused : GoodIn wsX9_stopped wsX9_refused := goodIn_r _ [8, 9, 15, 16, 17, 18, 19, 20, 21, 22, 23, 24, 25, 26, 27, 28, 29, 30, 31, 32, 33, 34, 35, 36] (by decide +kernel) (by decide +kernel)
set_option maxRecDepth 20000 in
theorem gX9_stopped_X9_refused : GoodIn wsX9_stopped (wsV RX9 53 RX9 yX9_refused wsX9_refused) := goodIn_app (goodIn_of _ (by decide +kernel)) ggX9_stopped_X9_refused
set_option maxRecDepth 20000 in
theorem ggX9_stopped_X9_stop : GoodIn wsX9_stopped wsX9_stop := goodIn_r _ [13, 14, 15, 16, 17, 18, 19, 20, 21, 22, 23, 24, 25, 26, 27, 28, 29, 30, 31, 32, 33, 34, 35, 36] (by decide +kernel) (by decide +kernel)
set_option maxRecDepth 20000 in
theorem gX9_stopped_X9_stop : GoodIn wsX9_stopped (wsV RX9 151 RX9 yX9_stop wsX9_stop) := goodIn_app (goodIn_of _ (by decide +kernel)) ggX9_stopped_X9_stop
theorem dX9_stopped_0 : decode cX9_stopped 0 = .ok (.aload_n 0, 1) := by decide +kernel
theorem dX9_stopped_1 : decode cX9_stopped 1 = .ok (.iload_n 1, 1) := by decide +kernel
theorem dX9_stopped_2 : decode cX9_stopped 2 = .ok (.iconst 0, 1) := by decide +kernel
theorem dX9_stopped_3 : decode cX9_stopped 3 = .ok (.iconst 1, 1) := by decide +kernel
theorem dX9_stopped_4 : decode cX9_stopped 4 = .ok (.invokestatic 35, 3) := by decide +kernel
theorem dX9_stopped_7 : decode cX9_stopped 7 = .ok (.ifCond .eq 7, 3) := by decide +kernel
theorem dX9_stopped_10 : decode cX9_stopped 10 = .ok (.iconst 0, 1) := by decide +kernel
theorem dX9_stopped_11 : decode cX9_stopped 11 = .ok (.goto 4, 3) := by decide +kernel
theorem dX9_stopped_14 : decode cX9_stopped 14 = .ok (.iconst 1, 1) := by decide +kernel
theorem dX9_stopped_15 : decode cX9_stopped 15 = .ok (.invokevirtual 53, 3) := by decide +kernel
theorem dX9_stopped_18 : decode cX9_stopped 18 = .ok (.ifCond .eq 5, 3) := by decide +kernel
theorem dX9_stopped_21 : decode cX9_stopped 21 = .ok (.iconst 0, 1) := by decide +kernel
theorem dX9_stopped_22 : decode cX9_stopped 22 = .ok (.ireturn, 1) := by decide +kernel
theorem dX9_stopped_23 : decode cX9_stopped 23 = .ok (.aload_n 0, 1) := by decide +kernel
theorem dX9_stopped_24 : decode cX9_stopped 24 = .ok (.iload_n 1, 1) := by decide +kernel
theorem dX9_stopped_25 : decode cX9_stopped 25 = .ok (.invokevirtual 151, 3) := by decide +kernel
theorem dX9_stopped_28 : decode cX9_stopped 28 = .ok (.ireturn, 1) := by decide +kernel
theorem dX9_came_0 : decode cX9_came 0 = .ok (.aload_n 0, 1) := by decide +kernel
theorem dX9_came_1 : decode cX9_came 1 = .ok (.getfield 7, 3) := by decide +kernel
theorem dX9_came_4 : decode cX9_came 4 = .ok (.sipush 306, 3) := by decide +kernel
theorem dX9_came_7 : decode cX9_came 7 = .ok (.bipush 17, 2) := by decide +kernel
theorem dX9_came_9 : decode cX9_came 9 = .ok (.iload_n 1, 1) := by decide +kernel
theorem dX9_came_10 : decode cX9_came 10 = .ok (.imul, 1) := by decide +kernel
theorem dX9_came_11 : decode cX9_came 11 = .ok (.iadd, 1) := by decide +kernel
theorem dX9_came_12 : decode cX9_came 12 = .ok (.iload_n 2, 1) := by decide +kernel
theorem dX9_came_13 : decode cX9_came 13 = .ok (.iadd, 1) := by decide +kernel
theorem dX9_came_14 : decode cX9_came 14 = .ok (.iaload, 1) := by decide +kernel
theorem dX9_came_15 : decode cX9_came 15 = .ok (.ireturn, 1) := by decide +kernel
set_option maxRecDepth 20000 in
theorem ggX9_character_X9_came : GoodIn wsX9_character wsX9_came := goodIn_r _ [5, 6, 7, 8, 9, 10, 11, 12, 13, 14, 15, 16, 17, 18, 19, 20, 21, 22, 23, 24, 25, 26, 27, 28] (by decide +kernel) (by decide +kernel)
set_option maxRecDepth 20000 in
theorem gX9_character_X9_came : GoodIn wsX9_character (wsV RX9 154 RX9 yX9_came wsX9_came) := goodIn_app (goodIn_of _ (by decide +kernel)) ggX9_character_X9_came
theorem dX9_character_0 : decode cX9_character 0 = .ok (.iload_n 2, 1) := by decide +kernel
theorem dX9_character_1 : decode cX9_character 1 = .ok (.istore_n 3, 1) := by decide +kernel
theorem dX9_character_2 : decode cX9_character 2 = .ok (.iconst 0, 1) := by decide +kernel
theorem dX9_character_3 : decode cX9_character 3 = .ok (.istore 4, 2) := by decide +kernel
theorem dX9_character_5 : decode cX9_character 5 = .ok (.iload 4, 2) := by decide +kernel
theorem dX9_character_7 : decode cX9_character 7 = .ok (.aload_n 0, 1) := by decide +kernel
theorem dX9_character_8 : decode cX9_character 8 = .ok (.iload_n 1, 1) := by decide +kernel
theorem dX9_character_9 : decode cX9_character 9 = .ok (.iconst 0, 1) := by decide +kernel
theorem dX9_character_10 : decode cX9_character 10 = .ok (.invokevirtual 154, 3) := by decide +kernel
theorem dX9_character_13 : decode cX9_character 13 = .ok (.if_icmp .ge 117, 3) := by decide +kernel
theorem dX9_character_16 : decode cX9_character 16 = .ok (.aload_n 0, 1) := by decide +kernel
theorem dX9_character_17 : decode cX9_character 17 = .ok (.iload_n 1, 1) := by decide +kernel
theorem dX9_character_18 : decode cX9_character 18 = .ok (.iconst 1, 1) := by decide +kernel
theorem dX9_character_19 : decode cX9_character 19 = .ok (.iload 4, 2) := by decide +kernel
theorem dX9_character_21 : decode cX9_character 21 = .ok (.iadd, 1) := by decide +kernel
theorem dX9_character_22 : decode cX9_character 22 = .ok (.invokevirtual 154, 3) := by decide +kernel
theorem dX9_character_25 : decode cX9_character 25 = .ok (.istore 5, 2) := by decide +kernel
theorem dX9_character_27 : decode cX9_character 27 = .ok (.iload 5, 2) := by decide +kernel
theorem dX9_character_29 : decode cX9_character 29 = .ok (.bipush 9, 2) := by decide +kernel
theorem dX9_character_31 : decode cX9_character 31 = .ok (.if_icmp .le 14, 3) := by decide +kernel
theorem dX9_character_34 : decode cX9_character 34 = .ok (.iload 5, 2) := by decide +kernel
theorem dX9_character_36 : decode cX9_character 36 = .ok (.bipush 30, 2) := by decide +kernel
theorem dX9_character_38 : decode cX9_character 38 = .ok (.if_icmp .eq 7, 3) := by decide +kernel
theorem dX9_character_41 : decode cX9_character 41 = .ok (.iconst 2, 1) := by decide +kernel
theorem dX9_character_42 : decode cX9_character 42 = .ok (.goto 4, 3) := by decide +kernel
theorem dX9_character_45 : decode cX9_character 45 = .ok (.iconst 1, 1) := by decide +kernel
theorem dX9_character_46 : decode cX9_character 46 = .ok (.istore 6, 2) := by decide +kernel
theorem dX9_character_48 : decode cX9_character 48 = .ok (.iload_n 3, 1) := by decide +kernel
theorem dX9_character_49 : decode cX9_character 49 = .ok (.iload 6, 2) := by decide +kernel
theorem dX9_character_51 : decode cX9_character 51 = .ok (.if_icmp .ge 45, 3) := by decide +kernel
theorem dX9_character_54 : decode cX9_character 54 = .ok (.iload 5, 2) := by decide +kernel
theorem dX9_character_56 : decode cX9_character 56 = .ok (.bipush 30, 2) := by decide +kernel
theorem dX9_character_58 : decode cX9_character 58 = .ok (.if_icmp .ne 8, 3) := by decide +kernel
theorem dX9_character_61 : decode cX9_character 61 = .ok (.bipush 63, 2) := by decide +kernel
theorem dX9_character_63 : decode cX9_character 63 = .ok (.goto 32, 3) := by decide +kernel
theorem dX9_character_66 : decode cX9_character 66 = .ok (.iload 6, 2) := by decide +kernel
theorem dX9_character_68 : decode cX9_character 68 = .ok (.iconst 2, 1) := by decide +kernel
theorem dX9_character_69 : decode cX9_character 69 = .ok (.if_icmp .ne 18, 3) := by decide +kernel
theorem dX9_character_72 : decode cX9_character 72 = .ok (.iload_n 3, 1) := by decide +kernel
theorem dX9_character_73 : decode cX9_character 73 = .ok (.ifCond .ne 14, 3) := by decide +kernel
theorem dX9_character_76 : decode cX9_character 76 = .ok (.bipush 48, 2) := by decide +kernel
theorem dX9_character_78 : decode cX9_character 78 = .ok (.iload 5, 2) := by decide +kernel
theorem dX9_character_80 : decode cX9_character 80 = .ok (.bipush 10, 2) := by decide +kernel
theorem dX9_character_82 : decode cX9_character 82 = .ok (.idiv, 1) := by decide +kernel
theorem dX9_character_83 : decode cX9_character 83 = .ok (.iadd, 1) := by decide +kernel
theorem dX9_character_84 : decode cX9_character 84 = .ok (.goto 11, 3) := by decide +kernel
theorem dX9_character_87 : decode cX9_character 87 = .ok (.bipush 48, 2) := by decide +kernel
theorem dX9_character_89 : decode cX9_character 89 = .ok (.iload 5, 2) := by decide +kernel
theorem dX9_character_91 : decode cX9_character 91 = .ok (.bipush 10, 2) := by decide +kernel
theorem dX9_character_93 : decode cX9_character 93 = .ok (.irem, 1) := by decide +kernel
theorem dX9_character_94 : decode cX9_character 94 = .ok (.iadd, 1) := by decide +kernel
theorem dX9_character_95 : decode cX9_character 95 = .ok (.ireturn, 1) := by decide +kernel
theorem dX9_character_96 : decode cX9_character 96 = .ok (.iload_n 3, 1) := by decide +kernel
theorem dX9_character_97 : decode cX9_character 97 = .ok (.iload 6, 2) := by decide +kernel
theorem dX9_character_99 : decode cX9_character 99 = .ok (.isub, 1) := by decide +kernel
theorem dX9_character_100 : decode cX9_character 100 = .ok (.istore_n 3, 1) := by decide +kernel
theorem dX9_character_101 : decode cX9_character 101 = .ok (.iload_n 3, 1) := by decide +kernel
theorem dX9_character_102 : decode cX9_character 102 = .ok (.ifCond .ne 19, 3) := by decide +kernel
theorem dX9_character_105 : decode cX9_character 105 = .ok (.iload 4, 2) := by decide +kernel
theorem dX9_character_107 : decode cX9_character 107 = .ok (.iconst 1, 1) := by decide +kernel
theorem dX9_character_108 : decode cX9_character 108 = .ok (.iadd, 1) := by decide +kernel
theorem dX9_character_109 : decode cX9_character 109 = .ok (.aload_n 0, 1) := by decide +kernel
theorem dX9_character_110 : decode cX9_character 110 = .ok (.iload_n 1, 1) := by decide +kernel
theorem dX9_character_111 : decode cX9_character 111 = .ok (.iconst 0, 1) := by decide +kernel
theorem dX9_character_112 : decode cX9_character 112 = .ok (.invokevirtual 154, 3) := by decide +kernel
theorem dX9_character_115 : decode cX9_character 115 = .ok (.if_icmp .ge 6, 3) := by decide +kernel
theorem dX9_character_118 : decode cX9_character 118 = .ok (.bipush 44, 2) := by decide +kernel
theorem dX9_character_120 : decode cX9_character 120 = .ok (.ireturn, 1) := by decide +kernel
theorem dX9_character_121 : decode cX9_character 121 = .ok (.iinc 3 (-1), 3) := by decide +kernel
theorem dX9_character_124 : decode cX9_character 124 = .ok (.iinc 4 1, 3) := by decide +kernel
theorem dX9_character_127 : decode cX9_character 127 = .ok (.goto (-122), 3) := by decide +kernel
theorem dX9_character_130 : decode cX9_character 130 = .ok (.iconst (-1), 1) := by decide +kernel
theorem dX9_character_131 : decode cX9_character 131 = .ok (.ireturn, 1) := by decide +kernel
set_option maxRecDepth 20000 in
theorem ggX9_told_X9_in : GoodIn wsX9_told wsX9_in := goodIn_r _ [5] (by decide +kernel) (by decide +kernel)
set_option maxRecDepth 20000 in
theorem gX9_told_X9_in : GoodIn wsX9_told (va_wsS RX9 35 yX9_in wsX9_in) := goodIn_app (goodIn_of _ (by decide +kernel)) ggX9_told_X9_in
set_option maxRecDepth 20000 in
theorem ggX9_told_X9_refused : GoodIn wsX9_told wsX9_refused := goodIn_r _ [9, 10, 19, 20, 21, 22, 23, 24, 25, 26, 27, 28, 29, 30, 31, 32, 33, 34, 35, 36, 37, 38, 39, 40] (by decide +kernel) (by decide +kernel)
set_option maxRecDepth 20000 in
theorem gX9_told_X9_refused : GoodIn wsX9_told (wsV RX9 53 RX9 yX9_refused wsX9_refused) := goodIn_app (goodIn_of _ (by decide +kernel)) ggX9_told_X9_refused
set_option maxRecDepth 20000 in
theorem ggX9_told_X9_character : GoodIn wsX9_told wsX9_character := goodIn_r _ [14, 15, 16, 17, 4, 18, 1, 19, 20, 21, 22, 23, 24, 25, 26, 27, 28, 29, 30, 31, 32, 33, 34, 35, 36, 37, 38, 39, 40] (by decide +kernel) (by decide +kernel)
set_option maxRecDepth 20000 in
theorem gX9_told_X9_character : GoodIn wsX9_told (wsV RX9 157 RX9 yX9_character wsX9_character) := goodIn_app (goodIn_of _ (by decide +kernel)) ggX9_told_X9_character
theorem dX9_told_0 : decode cX9_told 0 = .ok (.aload_n 0, 1) := by decide +kernel
theorem dX9_told_1 : decode cX9_told 1 = .ok (.iload_n 1, 1) := by decide +kernel
theorem dX9_told_2 : decode cX9_told 2 = .ok (.iconst 0, 1) := by decide +kernel
theorem dX9_told_3 : decode cX9_told 3 = .ok (.iconst 5, 1) := by decide +kernel
theorem dX9_told_4 : decode cX9_told 4 = .ok (.invokestatic 35, 3) := by decide +kernel
theorem dX9_told_7 : decode cX9_told 7 = .ok (.ifCond .eq 11, 3) := by decide +kernel
theorem dX9_told_10 : decode cX9_told 10 = .ok (.iload_n 2, 1) := by decide +kernel
theorem dX9_told_11 : decode cX9_told 11 = .ok (.ifCond .lt 7, 3) := by decide +kernel
theorem dX9_told_14 : decode cX9_told 14 = .ok (.iconst 0, 1) := by decide +kernel
theorem dX9_told_15 : decode cX9_told 15 = .ok (.goto 4, 3) := by decide +kernel
theorem dX9_told_18 : decode cX9_told 18 = .ok (.iconst 1, 1) := by decide +kernel
theorem dX9_told_19 : decode cX9_told 19 = .ok (.invokevirtual 53, 3) := by decide +kernel
theorem dX9_told_22 : decode cX9_told 22 = .ok (.ifCond .eq 5, 3) := by decide +kernel
theorem dX9_told_25 : decode cX9_told 25 = .ok (.iconst 0, 1) := by decide +kernel
theorem dX9_told_26 : decode cX9_told 26 = .ok (.ireturn, 1) := by decide +kernel
theorem dX9_told_27 : decode cX9_told 27 = .ok (.iload_n 1, 1) := by decide +kernel
theorem dX9_told_28 : decode cX9_told 28 = .ok (.aload_n 0, 1) := by decide +kernel
theorem dX9_told_29 : decode cX9_told 29 = .ok (.getfield 7, 3) := by decide +kernel
theorem dX9_told_32 : decode cX9_told 32 = .ok (.sipush 408, 3) := by decide +kernel
theorem dX9_told_35 : decode cX9_told 35 = .ok (.iaload, 1) := by decide +kernel
theorem dX9_told_36 : decode cX9_told 36 = .ok (.if_icmp .ge 12, 3) := by decide +kernel
theorem dX9_told_39 : decode cX9_told 39 = .ok (.aload_n 0, 1) := by decide +kernel
theorem dX9_told_40 : decode cX9_told 40 = .ok (.iload_n 1, 1) := by decide +kernel
theorem dX9_told_41 : decode cX9_told 41 = .ok (.iload_n 2, 1) := by decide +kernel
theorem dX9_told_42 : decode cX9_told 42 = .ok (.invokevirtual 157, 3) := by decide +kernel
theorem dX9_told_45 : decode cX9_told 45 = .ok (.goto 4, 3) := by decide +kernel
theorem dX9_told_48 : decode cX9_told 48 = .ok (.iconst (-1), 1) := by decide +kernel
theorem dX9_told_49 : decode cX9_told 49 = .ok (.ireturn, 1) := by decide +kernel
set_option maxRecDepth 20000 in
theorem ggX9_undo_X9_refused : GoodIn wsX9_undo wsX9_refused := goodIn_r _ [8, 9, 10, 11, 12, 13, 14, 15, 16, 17, 18, 19, 20, 21, 22, 23, 24, 25, 26, 27, 28, 29, 30, 31] (by decide +kernel) (by decide +kernel)
set_option maxRecDepth 20000 in
theorem gX9_undo_X9_refused : GoodIn wsX9_undo (wsV RX9 53 RX9 yX9_refused wsX9_refused) := goodIn_app (goodIn_of _ (by decide +kernel)) ggX9_undo_X9_refused
theorem dX9_undo_0 : decode cX9_undo 0 = .ok (.aload_n 0, 1) := by decide +kernel
theorem dX9_undo_1 : decode cX9_undo 1 = .ok (.aload_n 0, 1) := by decide +kernel
theorem dX9_undo_2 : decode cX9_undo 2 = .ok (.getfield 39, 3) := by decide +kernel
theorem dX9_undo_5 : decode cX9_undo 5 = .ok (.ifCond .ne 7, 3) := by decide +kernel
theorem dX9_undo_8 : decode cX9_undo 8 = .ok (.iconst 1, 1) := by decide +kernel
theorem dX9_undo_9 : decode cX9_undo 9 = .ok (.goto 4, 3) := by decide +kernel
theorem dX9_undo_12 : decode cX9_undo 12 = .ok (.iconst 0, 1) := by decide +kernel
theorem dX9_undo_13 : decode cX9_undo 13 = .ok (.invokevirtual 53, 3) := by decide +kernel
theorem dX9_undo_16 : decode cX9_undo 16 = .ok (.ifCond .eq 5, 3) := by decide +kernel
theorem dX9_undo_19 : decode cX9_undo 19 = .ok (.iconst 0, 1) := by decide +kernel
theorem dX9_undo_20 : decode cX9_undo 20 = .ok (.ireturn, 1) := by decide +kernel
theorem dX9_undo_21 : decode cX9_undo 21 = .ok (.aload_n 0, 1) := by decide +kernel
theorem dX9_undo_22 : decode cX9_undo 22 = .ok (.dup, 1) := by decide +kernel
theorem dX9_undo_23 : decode cX9_undo 23 = .ok (.getfield 39, 3) := by decide +kernel
theorem dX9_undo_26 : decode cX9_undo 26 = .ok (.iconst 1, 1) := by decide +kernel
theorem dX9_undo_27 : decode cX9_undo 27 = .ok (.isub, 1) := by decide +kernel
theorem dX9_undo_28 : decode cX9_undo 28 = .ok (.putfield 39, 3) := by decide +kernel
theorem dX9_undo_31 : decode cX9_undo 31 = .ok (.iconst 0, 1) := by decide +kernel
theorem dX9_undo_32 : decode cX9_undo 32 = .ok (.istore_n 1, 1) := by decide +kernel
theorem dX9_undo_33 : decode cX9_undo 33 = .ok (.iload_n 1, 1) := by decide +kernel
theorem dX9_undo_34 : decode cX9_undo 34 = .ok (.sipush 460, 3) := by decide +kernel
theorem dX9_undo_37 : decode cX9_undo 37 = .ok (.if_icmp .ge 30, 3) := by decide +kernel
theorem dX9_undo_40 : decode cX9_undo 40 = .ok (.aload_n 0, 1) := by decide +kernel
theorem dX9_undo_41 : decode cX9_undo 41 = .ok (.getfield 7, 3) := by decide +kernel
theorem dX9_undo_44 : decode cX9_undo 44 = .ok (.iload_n 1, 1) := by decide +kernel
theorem dX9_undo_45 : decode cX9_undo 45 = .ok (.aload_n 0, 1) := by decide +kernel
theorem dX9_undo_46 : decode cX9_undo 46 = .ok (.getfield 13, 3) := by decide +kernel
theorem dX9_undo_49 : decode cX9_undo 49 = .ok (.sipush 460, 3) := by decide +kernel
theorem dX9_undo_52 : decode cX9_undo 52 = .ok (.aload_n 0, 1) := by decide +kernel
theorem dX9_undo_53 : decode cX9_undo 53 = .ok (.getfield 39, 3) := by decide +kernel
theorem dX9_undo_56 : decode cX9_undo 56 = .ok (.imul, 1) := by decide +kernel
theorem dX9_undo_57 : decode cX9_undo 57 = .ok (.iload_n 1, 1) := by decide +kernel
theorem dX9_undo_58 : decode cX9_undo 58 = .ok (.iadd, 1) := by decide +kernel
theorem dX9_undo_59 : decode cX9_undo 59 = .ok (.iaload, 1) := by decide +kernel
theorem dX9_undo_60 : decode cX9_undo 60 = .ok (.iastore, 1) := by decide +kernel
theorem dX9_undo_61 : decode cX9_undo 61 = .ok (.iinc 1 1, 3) := by decide +kernel
theorem dX9_undo_64 : decode cX9_undo 64 = .ok (.goto (-31), 3) := by decide +kernel
theorem dX9_undo_67 : decode cX9_undo 67 = .ok (.aload_n 0, 1) := by decide +kernel
theorem dX9_undo_68 : decode cX9_undo 68 = .ok (.getfield 39, 3) := by decide +kernel
theorem dX9_undo_71 : decode cX9_undo 71 = .ok (.ireturn, 1) := by decide +kernel
theorem dX9_keep_0 : decode cX9_keep 0 = .ok (.aload_n 0, 1) := by decide +kernel
theorem dX9_keep_1 : decode cX9_keep 1 = .ok (.iconst 0, 1) := by decide +kernel
theorem dX9_keep_2 : decode cX9_keep 2 = .ok (.putfield 31, 3) := by decide +kernel
theorem dX9_keep_5 : decode cX9_keep 5 = .ok (.iconst 0, 1) := by decide +kernel
theorem dX9_keep_6 : decode cX9_keep 6 = .ok (.istore_n 1, 1) := by decide +kernel
theorem dX9_keep_7 : decode cX9_keep 7 = .ok (.iload_n 1, 1) := by decide +kernel
theorem dX9_keep_8 : decode cX9_keep 8 = .ok (.sipush 460, 3) := by decide +kernel
theorem dX9_keep_11 : decode cX9_keep 11 = .ok (.if_icmp .ge 21, 3) := by decide +kernel
theorem dX9_keep_14 : decode cX9_keep 14 = .ok (.aload_n 0, 1) := by decide +kernel
theorem dX9_keep_15 : decode cX9_keep 15 = .ok (.getfield 16, 3) := by decide +kernel
theorem dX9_keep_18 : decode cX9_keep 18 = .ok (.iload_n 1, 1) := by decide +kernel
theorem dX9_keep_19 : decode cX9_keep 19 = .ok (.aload_n 0, 1) := by decide +kernel
theorem dX9_keep_20 : decode cX9_keep 20 = .ok (.getfield 7, 3) := by decide +kernel
theorem dX9_keep_23 : decode cX9_keep 23 = .ok (.iload_n 1, 1) := by decide +kernel
theorem dX9_keep_24 : decode cX9_keep 24 = .ok (.iaload, 1) := by decide +kernel
theorem dX9_keep_25 : decode cX9_keep 25 = .ok (.iastore, 1) := by decide +kernel
theorem dX9_keep_26 : decode cX9_keep 26 = .ok (.iinc 1 1, 3) := by decide +kernel
theorem dX9_keep_29 : decode cX9_keep 29 = .ok (.goto (-22), 3) := by decide +kernel
theorem dX9_keep_32 : decode cX9_keep 32 = .ok (.aload_n 0, 1) := by decide +kernel
theorem dX9_keep_33 : decode cX9_keep 33 = .ok (.iconst 1, 1) := by decide +kernel
theorem dX9_keep_34 : decode cX9_keep 34 = .ok (.putfield 160, 3) := by decide +kernel
theorem dX9_keep_37 : decode cX9_keep 37 = .ok (.aload_n 0, 1) := by decide +kernel
theorem dX9_keep_38 : decode cX9_keep 38 = .ok (.getfield 7, 3) := by decide +kernel
theorem dX9_keep_41 : decode cX9_keep 41 = .ok (.sipush 304, 3) := by decide +kernel
theorem dX9_keep_44 : decode cX9_keep 44 = .ok (.iaload, 1) := by decide +kernel
theorem dX9_keep_45 : decode cX9_keep 45 = .ok (.ireturn, 1) := by decide +kernel
set_option maxRecDepth 20000 in
theorem ggX9_restore_X9_refused : GoodIn wsX9_restore wsX9_refused := goodIn_r _ [8, 9, 16, 17, 18, 19, 20, 21, 22, 23, 24, 25, 26, 27, 28, 29, 30, 31, 32, 33, 34, 35, 36, 37] (by decide +kernel) (by decide +kernel)
set_option maxRecDepth 20000 in
theorem gX9_restore_X9_refused : GoodIn wsX9_restore (wsV RX9 53 RX9 yX9_refused wsX9_refused) := goodIn_app (goodIn_of _ (by decide +kernel)) ggX9_restore_X9_refused
set_option maxRecDepth 20000 in
theorem ggX9_restore_X9_saves : GoodIn wsX9_restore wsX9_saves := goodIn_r _ [13, 14, 15, 2, 16, 17, 18, 19, 20, 21, 22, 23, 24, 25, 26, 27, 28, 29, 30, 31, 32, 33, 34, 35, 36, 37] (by decide +kernel) (by decide +kernel)
set_option maxRecDepth 20000 in
theorem gX9_restore_X9_saves : GoodIn wsX9_restore (wsV RX9 56 RX9 yX9_saves wsX9_saves) := goodIn_app (goodIn_of _ (by decide +kernel)) ggX9_restore_X9_saves
theorem dX9_restore_0 : decode cX9_restore 0 = .ok (.aload_n 0, 1) := by decide +kernel
theorem dX9_restore_1 : decode cX9_restore 1 = .ok (.aload_n 0, 1) := by decide +kernel
theorem dX9_restore_2 : decode cX9_restore 2 = .ok (.getfield 160, 3) := by decide +kernel
theorem dX9_restore_5 : decode cX9_restore 5 = .ok (.ifCond .eq 7, 3) := by decide +kernel
theorem dX9_restore_8 : decode cX9_restore 8 = .ok (.iconst 0, 1) := by decide +kernel
theorem dX9_restore_9 : decode cX9_restore 9 = .ok (.goto 4, 3) := by decide +kernel
theorem dX9_restore_12 : decode cX9_restore 12 = .ok (.iconst 1, 1) := by decide +kernel
theorem dX9_restore_13 : decode cX9_restore 13 = .ok (.invokevirtual 53, 3) := by decide +kernel
theorem dX9_restore_16 : decode cX9_restore 16 = .ok (.ifCond .eq 5, 3) := by decide +kernel
theorem dX9_restore_19 : decode cX9_restore 19 = .ok (.iconst 0, 1) := by decide +kernel
theorem dX9_restore_20 : decode cX9_restore 20 = .ok (.ireturn, 1) := by decide +kernel
theorem dX9_restore_21 : decode cX9_restore 21 = .ok (.aload_n 0, 1) := by decide +kernel
theorem dX9_restore_22 : decode cX9_restore 22 = .ok (.invokevirtual 56, 3) := by decide +kernel
theorem dX9_restore_25 : decode cX9_restore 25 = .ok (.iconst 0, 1) := by decide +kernel
theorem dX9_restore_26 : decode cX9_restore 26 = .ok (.istore_n 1, 1) := by decide +kernel
theorem dX9_restore_27 : decode cX9_restore 27 = .ok (.iload_n 1, 1) := by decide +kernel
theorem dX9_restore_28 : decode cX9_restore 28 = .ok (.sipush 460, 3) := by decide +kernel
theorem dX9_restore_31 : decode cX9_restore 31 = .ok (.if_icmp .ge 21, 3) := by decide +kernel
theorem dX9_restore_34 : decode cX9_restore 34 = .ok (.aload_n 0, 1) := by decide +kernel
theorem dX9_restore_35 : decode cX9_restore 35 = .ok (.getfield 7, 3) := by decide +kernel
theorem dX9_restore_38 : decode cX9_restore 38 = .ok (.iload_n 1, 1) := by decide +kernel
theorem dX9_restore_39 : decode cX9_restore 39 = .ok (.aload_n 0, 1) := by decide +kernel
theorem dX9_restore_40 : decode cX9_restore 40 = .ok (.getfield 16, 3) := by decide +kernel
theorem dX9_restore_43 : decode cX9_restore 43 = .ok (.iload_n 1, 1) := by decide +kernel
theorem dX9_restore_44 : decode cX9_restore 44 = .ok (.iaload, 1) := by decide +kernel
theorem dX9_restore_45 : decode cX9_restore 45 = .ok (.iastore, 1) := by decide +kernel
theorem dX9_restore_46 : decode cX9_restore 46 = .ok (.iinc 1 1, 3) := by decide +kernel
theorem dX9_restore_49 : decode cX9_restore 49 = .ok (.goto (-22), 3) := by decide +kernel
theorem dX9_restore_52 : decode cX9_restore 52 = .ok (.aload_n 0, 1) := by decide +kernel
theorem dX9_restore_53 : decode cX9_restore 53 = .ok (.getfield 7, 3) := by decide +kernel
theorem dX9_restore_56 : decode cX9_restore 56 = .ok (.sipush 304, 3) := by decide +kernel
theorem dX9_restore_59 : decode cX9_restore 59 = .ok (.iaload, 1) := by decide +kernel
theorem dX9_restore_60 : decode cX9_restore 60 = .ok (.ireturn, 1) := by decide +kernel
set_option maxRecDepth 20000 in
theorem ggX9_meanings_X9_meant : GoodIn wsX9_meanings wsX9_meant := goodIn_r _ [5, 6, 11, 12, 13, 14, 15, 16, 17, 18, 19, 20, 21, 22, 23, 24, 25, 26, 27, 28, 29, 30, 31, 32] (by decide +kernel) (by decide +kernel)
set_option maxRecDepth 20000 in
theorem gX9_meanings_X9_meant : GoodIn wsX9_meanings (wsV RX9 42 RX9 yX9_meant wsX9_meant) := goodIn_app (goodIn_of _ (by decide +kernel)) ggX9_meanings_X9_meant
set_option maxRecDepth 20000 in
theorem ggX9_meanings_X9_lowest : GoodIn wsX9_meanings wsX9_lowest := goodIn_r _ [10, 1, 2, 3, 4, 5, 6, 11, 12, 13, 14, 15, 16, 17, 18, 19, 20, 21, 22, 23, 24, 25, 26, 27, 28, 29, 30, 31, 32] (by decide +kernel) (by decide +kernel)
set_option maxRecDepth 20000 in
theorem gX9_meanings_X9_lowest : GoodIn wsX9_meanings (wsV RX9 73 RX9 yX9_lowest wsX9_lowest) := goodIn_app (goodIn_of _ (by decide +kernel)) ggX9_meanings_X9_lowest
theorem dX9_meanings_0 : decode cX9_meanings 0 = .ok (.aload_n 0, 1) := by decide +kernel
theorem dX9_meanings_1 : decode cX9_meanings 1 = .ok (.iload_n 1, 1) := by decide +kernel
theorem dX9_meanings_2 : decode cX9_meanings 2 = .ok (.iload_n 2, 1) := by decide +kernel
theorem dX9_meanings_3 : decode cX9_meanings 3 = .ok (.invokevirtual 42, 3) := by decide +kernel
theorem dX9_meanings_6 : decode cX9_meanings 6 = .ok (.istore 4, 2) := by decide +kernel
theorem dX9_meanings_8 : decode cX9_meanings 8 = .ok (.iload_n 3, 1) := by decide +kernel
theorem dX9_meanings_9 : decode cX9_meanings 9 = .ok (.ifCond .ne 8, 3) := by decide +kernel
theorem dX9_meanings_12 : decode cX9_meanings 12 = .ok (.iload 4, 2) := by decide +kernel
theorem dX9_meanings_14 : decode cX9_meanings 14 = .ok (.goto 35, 3) := by decide +kernel
theorem dX9_meanings_17 : decode cX9_meanings 17 = .ok (.iload_n 3, 1) := by decide +kernel
theorem dX9_meanings_18 : decode cX9_meanings 18 = .ok (.iconst 2, 1) := by decide +kernel
theorem dX9_meanings_19 : decode cX9_meanings 19 = .ok (.if_icmp .ne 12, 3) := by decide +kernel
theorem dX9_meanings_22 : decode cX9_meanings 22 = .ok (.aload_n 0, 1) := by decide +kernel
theorem dX9_meanings_23 : decode cX9_meanings 23 = .ok (.iload_n 1, 1) := by decide +kernel
theorem dX9_meanings_24 : decode cX9_meanings 24 = .ok (.iload_n 2, 1) := by decide +kernel
theorem dX9_meanings_25 : decode cX9_meanings 25 = .ok (.invokevirtual 73, 3) := by decide +kernel
theorem dX9_meanings_28 : decode cX9_meanings 28 = .ok (.goto 21, 3) := by decide +kernel
theorem dX9_meanings_31 : decode cX9_meanings 31 = .ok (.iload 4, 2) := by decide +kernel
theorem dX9_meanings_33 : decode cX9_meanings 33 = .ok (.iconst (-1), 1) := by decide +kernel
theorem dX9_meanings_34 : decode cX9_meanings 34 = .ok (.if_icmp .ne 8, 3) := by decide +kernel
theorem dX9_meanings_37 : decode cX9_meanings 37 = .ok (.bipush 30, 2) := by decide +kernel
theorem dX9_meanings_39 : decode cX9_meanings 39 = .ok (.goto 10, 3) := by decide +kernel
theorem dX9_meanings_42 : decode cX9_meanings 42 = .ok (.aload_n 0, 1) := by decide +kernel
theorem dX9_meanings_43 : decode cX9_meanings 43 = .ok (.iload_n 1, 1) := by decide +kernel
theorem dX9_meanings_44 : decode cX9_meanings 44 = .ok (.iload 4, 2) := by decide +kernel
theorem dX9_meanings_46 : decode cX9_meanings 46 = .ok (.invokevirtual 73, 3) := by decide +kernel
theorem dX9_meanings_49 : decode cX9_meanings 49 = .ok (.ireturn, 1) := by decide +kernel
set_option maxRecDepth 20000 in
theorem ggX9_meaning_X9_isLink : GoodIn wsX9_meaning wsX9_isLink := goodIn_r _ [4, 5, 6, 3, 7] (by decide +kernel) (by decide +kernel)
set_option maxRecDepth 20000 in
theorem gX9_meaning_X9_isLink : GoodIn wsX9_meaning (va_wsS RX9 46 yX9_isLink wsX9_isLink) := goodIn_app (goodIn_of _ (by decide +kernel)) ggX9_meaning_X9_isLink
set_option maxRecDepth 20000 in
theorem ggX9_meaning_X9_isWord : GoodIn wsX9_meaning wsX9_isWord := goodIn_r _ [10, 5, 6, 3, 7] (by decide +kernel) (by decide +kernel)
set_option maxRecDepth 20000 in
theorem gX9_meaning_X9_isWord : GoodIn wsX9_meaning (va_wsS RX9 50 yX9_isWord wsX9_isWord) := goodIn_app (goodIn_of _ (by decide +kernel)) ggX9_meaning_X9_isWord
set_option maxRecDepth 20000 in
theorem ggX9_meaning_X9_in : GoodIn wsX9_meaning wsX9_in := goodIn_r _ [7] (by decide +kernel) (by decide +kernel)
set_option maxRecDepth 20000 in
theorem gX9_meaning_X9_in : GoodIn wsX9_meaning (va_wsS RX9 35 yX9_in wsX9_in) := goodIn_app (goodIn_of _ (by decide +kernel)) ggX9_meaning_X9_in
set_option maxRecDepth 20000 in
theorem ggX9_meaning_X9_refused : GoodIn wsX9_meaning wsX9_refused := goodIn_r _ [14, 15, 29, 30, 31, 32, 33, 34, 35, 36, 37, 38, 39, 40, 41, 42, 43, 44, 45, 46, 47, 48, 49, 50] (by decide +kernel) (by decide +kernel)
set_option maxRecDepth 20000 in
theorem gX9_meaning_X9_refused : GoodIn wsX9_meaning (wsV RX9 53 RX9 yX9_refused wsX9_refused) := goodIn_app (goodIn_of _ (by decide +kernel)) ggX9_meaning_X9_refused
set_option maxRecDepth 20000 in
theorem ggX9_meaning_X9_meanings : GoodIn wsX9_meaning wsX9_meanings := goodIn_r _ [19, 20, 21, 22, 3, 23, 24, 25, 26, 27, 28, 29, 30, 31, 32, 33, 34, 35, 36, 37, 38, 39, 40, 41, 42, 43, 44, 45, 46, 47, 48, 49, 50] (by decide +kernel) (by decide +kernel)
set_option maxRecDepth 20000 in
theorem gX9_meaning_X9_meanings : GoodIn wsX9_meaning (wsV RX9 163 RX9 yX9_meanings wsX9_meanings) := goodIn_app (goodIn_of _ (by decide +kernel)) ggX9_meaning_X9_meanings
theorem dX9_meaning_0 : decode cX9_meaning 0 = .ok (.aload_n 0, 1) := by decide +kernel
theorem dX9_meaning_1 : decode cX9_meaning 1 = .ok (.iload_n 1, 1) := by decide +kernel
theorem dX9_meaning_2 : decode cX9_meaning 2 = .ok (.invokestatic 46, 3) := by decide +kernel
theorem dX9_meaning_5 : decode cX9_meaning 5 = .ok (.ifCond .ne 7, 3) := by decide +kernel
theorem dX9_meaning_8 : decode cX9_meaning 8 = .ok (.iconst 1, 1) := by decide +kernel
theorem dX9_meaning_9 : decode cX9_meaning 9 = .ok (.goto 24, 3) := by decide +kernel
theorem dX9_meaning_12 : decode cX9_meaning 12 = .ok (.iload_n 2, 1) := by decide +kernel
theorem dX9_meaning_13 : decode cX9_meaning 13 = .ok (.invokestatic 50, 3) := by decide +kernel
theorem dX9_meaning_16 : decode cX9_meaning 16 = .ok (.ifCond .eq 16, 3) := by decide +kernel
theorem dX9_meaning_19 : decode cX9_meaning 19 = .ok (.iload_n 3, 1) := by decide +kernel
theorem dX9_meaning_20 : decode cX9_meaning 20 = .ok (.iconst 0, 1) := by decide +kernel
theorem dX9_meaning_21 : decode cX9_meaning 21 = .ok (.iconst 2, 1) := by decide +kernel
theorem dX9_meaning_22 : decode cX9_meaning 22 = .ok (.invokestatic 35, 3) := by decide +kernel
theorem dX9_meaning_25 : decode cX9_meaning 25 = .ok (.ifCond .eq 7, 3) := by decide +kernel
theorem dX9_meaning_28 : decode cX9_meaning 28 = .ok (.iconst 0, 1) := by decide +kernel
theorem dX9_meaning_29 : decode cX9_meaning 29 = .ok (.goto 4, 3) := by decide +kernel
theorem dX9_meaning_32 : decode cX9_meaning 32 = .ok (.iconst 2, 1) := by decide +kernel
theorem dX9_meaning_33 : decode cX9_meaning 33 = .ok (.invokevirtual 53, 3) := by decide +kernel
theorem dX9_meaning_36 : decode cX9_meaning 36 = .ok (.ifCond .eq 5, 3) := by decide +kernel
theorem dX9_meaning_39 : decode cX9_meaning 39 = .ok (.iconst 0, 1) := by decide +kernel
theorem dX9_meaning_40 : decode cX9_meaning 40 = .ok (.ireturn, 1) := by decide +kernel
theorem dX9_meaning_41 : decode cX9_meaning 41 = .ok (.aload_n 0, 1) := by decide +kernel
theorem dX9_meaning_42 : decode cX9_meaning 42 = .ok (.iload_n 1, 1) := by decide +kernel
theorem dX9_meaning_43 : decode cX9_meaning 43 = .ok (.iload_n 2, 1) := by decide +kernel
theorem dX9_meaning_44 : decode cX9_meaning 44 = .ok (.iload_n 3, 1) := by decide +kernel
theorem dX9_meaning_45 : decode cX9_meaning 45 = .ok (.invokevirtual 163, 3) := by decide +kernel
theorem dX9_meaning_48 : decode cX9_meaning 48 = .ok (.ireturn, 1) := by decide +kernel
set_option maxRecDepth 20000 in
theorem ggX9_without_X9_meant : GoodIn wsX9_without wsX9_meant := goodIn_r _ [5, 6, 7, 8, 9, 10, 11, 12, 13, 14, 15, 16, 17, 18, 19, 20, 21, 22, 23, 24, 25, 26, 27, 28] (by decide +kernel) (by decide +kernel)
set_option maxRecDepth 20000 in
theorem gX9_without_X9_meant : GoodIn wsX9_without (wsV RX9 42 RX9 yX9_meant wsX9_meant) := goodIn_app (goodIn_of _ (by decide +kernel)) ggX9_without_X9_meant
theorem dX9_without_0 : decode cX9_without 0 = .ok (.iconst 0, 1) := by decide +kernel
theorem dX9_without_1 : decode cX9_without 1 = .ok (.istore_n 2, 1) := by decide +kernel
theorem dX9_without_2 : decode cX9_without 2 = .ok (.iconst 0, 1) := by decide +kernel
theorem dX9_without_3 : decode cX9_without 3 = .ok (.istore_n 3, 1) := by decide +kernel
theorem dX9_without_4 : decode cX9_without 4 = .ok (.iload_n 3, 1) := by decide +kernel
theorem dX9_without_5 : decode cX9_without 5 = .ok (.bipush 30, 2) := by decide +kernel
theorem dX9_without_7 : decode cX9_without 7 = .ok (.if_icmp .ge 27, 3) := by decide +kernel
theorem dX9_without_10 : decode cX9_without 10 = .ok (.iload_n 2, 1) := by decide +kernel
theorem dX9_without_11 : decode cX9_without 11 = .ok (.aload_n 0, 1) := by decide +kernel
theorem dX9_without_12 : decode cX9_without 12 = .ok (.iload_n 1, 1) := by decide +kernel
theorem dX9_without_13 : decode cX9_without 13 = .ok (.iload_n 3, 1) := by decide +kernel
theorem dX9_without_14 : decode cX9_without 14 = .ok (.invokevirtual 42, 3) := by decide +kernel
theorem dX9_without_17 : decode cX9_without 17 = .ok (.iconst (-1), 1) := by decide +kernel
theorem dX9_without_18 : decode cX9_without 18 = .ok (.if_icmp .ne 7, 3) := by decide +kernel
theorem dX9_without_21 : decode cX9_without 21 = .ok (.iconst 1, 1) := by decide +kernel
theorem dX9_without_22 : decode cX9_without 22 = .ok (.goto 4, 3) := by decide +kernel
theorem dX9_without_25 : decode cX9_without 25 = .ok (.iconst 0, 1) := by decide +kernel
theorem dX9_without_26 : decode cX9_without 26 = .ok (.iadd, 1) := by decide +kernel
theorem dX9_without_27 : decode cX9_without 27 = .ok (.istore_n 2, 1) := by decide +kernel
theorem dX9_without_28 : decode cX9_without 28 = .ok (.iinc 3 1, 3) := by decide +kernel
theorem dX9_without_31 : decode cX9_without 31 = .ok (.goto (-27), 3) := by decide +kernel
theorem dX9_without_34 : decode cX9_without 34 = .ok (.iload_n 2, 1) := by decide +kernel
theorem dX9_without_35 : decode cX9_without 35 = .ok (.ireturn, 1) := by decide +kernel
set_option maxRecDepth 20000 in
theorem ggX9_doubled_X9_meant : GoodIn wsX9_doubled wsX9_meant := goodIn_r _ [5, 6, 11, 12, 13, 14, 15, 16, 17, 18, 19, 20, 21, 22, 23, 24, 25, 26, 27, 28, 29, 30, 31, 32] (by decide +kernel) (by decide +kernel)
set_option maxRecDepth 20000 in
theorem gX9_doubled_X9_meant : GoodIn wsX9_doubled (wsV RX9 42 RX9 yX9_meant wsX9_meant) := goodIn_app (goodIn_of _ (by decide +kernel)) ggX9_doubled_X9_meant
set_option maxRecDepth 20000 in
theorem ggX9_doubled_X9_lowest : GoodIn wsX9_doubled wsX9_lowest := goodIn_r _ [10, 1, 2, 3, 4, 5, 6, 11, 12, 13, 14, 15, 16, 17, 18, 19, 20, 21, 22, 23, 24, 25, 26, 27, 28, 29, 30, 31, 32] (by decide +kernel) (by decide +kernel)
set_option maxRecDepth 20000 in
theorem gX9_doubled_X9_lowest : GoodIn wsX9_doubled (wsV RX9 73 RX9 yX9_lowest wsX9_lowest) := goodIn_app (goodIn_of _ (by decide +kernel)) ggX9_doubled_X9_lowest
theorem dX9_doubled_0 : decode cX9_doubled 0 = .ok (.iconst 0, 1) := by decide +kernel
theorem dX9_doubled_1 : decode cX9_doubled 1 = .ok (.istore_n 2, 1) := by decide +kernel
theorem dX9_doubled_2 : decode cX9_doubled 2 = .ok (.iconst 0, 1) := by decide +kernel
theorem dX9_doubled_3 : decode cX9_doubled 3 = .ok (.istore_n 3, 1) := by decide +kernel
theorem dX9_doubled_4 : decode cX9_doubled 4 = .ok (.iload_n 3, 1) := by decide +kernel
theorem dX9_doubled_5 : decode cX9_doubled 5 = .ok (.bipush 30, 2) := by decide +kernel
theorem dX9_doubled_7 : decode cX9_doubled 7 = .ok (.if_icmp .ge 42, 3) := by decide +kernel
theorem dX9_doubled_10 : decode cX9_doubled 10 = .ok (.iload_n 2, 1) := by decide +kernel
theorem dX9_doubled_11 : decode cX9_doubled 11 = .ok (.aload_n 0, 1) := by decide +kernel
theorem dX9_doubled_12 : decode cX9_doubled 12 = .ok (.iload_n 1, 1) := by decide +kernel
theorem dX9_doubled_13 : decode cX9_doubled 13 = .ok (.iload_n 3, 1) := by decide +kernel
theorem dX9_doubled_14 : decode cX9_doubled 14 = .ok (.invokevirtual 42, 3) := by decide +kernel
theorem dX9_doubled_17 : decode cX9_doubled 17 = .ok (.iconst (-1), 1) := by decide +kernel
theorem dX9_doubled_18 : decode cX9_doubled 18 = .ok (.if_icmp .eq 22, 3) := by decide +kernel
theorem dX9_doubled_21 : decode cX9_doubled 21 = .ok (.aload_n 0, 1) := by decide +kernel
theorem dX9_doubled_22 : decode cX9_doubled 22 = .ok (.iload_n 1, 1) := by decide +kernel
theorem dX9_doubled_23 : decode cX9_doubled 23 = .ok (.aload_n 0, 1) := by decide +kernel
theorem dX9_doubled_24 : decode cX9_doubled 24 = .ok (.iload_n 1, 1) := by decide +kernel
theorem dX9_doubled_25 : decode cX9_doubled 25 = .ok (.iload_n 3, 1) := by decide +kernel
theorem dX9_doubled_26 : decode cX9_doubled 26 = .ok (.invokevirtual 42, 3) := by decide +kernel
theorem dX9_doubled_29 : decode cX9_doubled 29 = .ok (.invokevirtual 73, 3) := by decide +kernel
theorem dX9_doubled_32 : decode cX9_doubled 32 = .ok (.iload_n 3, 1) := by decide +kernel
theorem dX9_doubled_33 : decode cX9_doubled 33 = .ok (.if_icmp .ge 7, 3) := by decide +kernel
theorem dX9_doubled_36 : decode cX9_doubled 36 = .ok (.iconst 1, 1) := by decide +kernel
theorem dX9_doubled_37 : decode cX9_doubled 37 = .ok (.goto 4, 3) := by decide +kernel
theorem dX9_doubled_40 : decode cX9_doubled 40 = .ok (.iconst 0, 1) := by decide +kernel
theorem dX9_doubled_41 : decode cX9_doubled 41 = .ok (.iadd, 1) := by decide +kernel
theorem dX9_doubled_42 : decode cX9_doubled 42 = .ok (.istore_n 2, 1) := by decide +kernel
theorem dX9_doubled_43 : decode cX9_doubled 43 = .ok (.iinc 3 1, 3) := by decide +kernel
theorem dX9_doubled_46 : decode cX9_doubled 46 = .ok (.goto (-42), 3) := by decide +kernel
theorem dX9_doubled_49 : decode cX9_doubled 49 = .ok (.iload_n 2, 1) := by decide +kernel
theorem dX9_doubled_50 : decode cX9_doubled 50 = .ok (.ireturn, 1) := by decide +kernel
set_option maxRecDepth 20000 in
theorem ggX9_ofLink_X9_without : GoodIn wsX9_ofLink wsX9_without := goodIn_r _ [6, 7, 8, 9, 5, 10, 1, 19, 20, 21, 22, 23, 24, 25, 26, 27, 28, 29, 30, 31, 32, 33, 34, 35, 36, 37, 38, 39, 40] (by decide +kernel) (by decide +kernel)
set_option maxRecDepth 20000 in
theorem gX9_ofLink_X9_without : GoodIn wsX9_ofLink (wsV RX9 166 RX9 yX9_without wsX9_without) := goodIn_app (goodIn_of _ (by decide +kernel)) ggX9_ofLink_X9_without
set_option maxRecDepth 20000 in
theorem ggX9_ofLink_X9_doubled : GoodIn wsX9_ofLink wsX9_doubled := goodIn_r _ [14, 7, 8, 9, 5, 10, 1, 15, 16, 17, 18, 19, 20, 21, 22, 23, 24, 25, 26, 27, 28, 29, 30, 31, 32, 33, 34, 35, 36, 37, 38, 39, 40] (by decide +kernel) (by decide +kernel)
set_option maxRecDepth 20000 in
theorem gX9_ofLink_X9_doubled : GoodIn wsX9_ofLink (wsV RX9 169 RX9 yX9_doubled wsX9_doubled) := goodIn_app (goodIn_of _ (by decide +kernel)) ggX9_ofLink_X9_doubled
theorem dX9_ofLink_0 : decode cX9_ofLink 0 = .ok (.iload_n 2, 1) := by decide +kernel
theorem dX9_ofLink_1 : decode cX9_ofLink 1 = .ok (.tableswitch 95 0 5 #[39, 50, 61, 67, 73, 84], 39) := by decide +kernel
theorem dX9_ofLink_40 : decode cX9_ofLink 40 = .ok (.aload_n 0, 1) := by decide +kernel
theorem dX9_ofLink_41 : decode cX9_ofLink 41 = .ok (.getfield 7, 3) := by decide +kernel
theorem dX9_ofLink_44 : decode cX9_ofLink 44 = .ok (.sipush 180, 3) := by decide +kernel
theorem dX9_ofLink_47 : decode cX9_ofLink 47 = .ok (.iload_n 1, 1) := by decide +kernel
theorem dX9_ofLink_48 : decode cX9_ofLink 48 = .ok (.iadd, 1) := by decide +kernel
theorem dX9_ofLink_49 : decode cX9_ofLink 49 = .ok (.iaload, 1) := by decide +kernel
theorem dX9_ofLink_50 : decode cX9_ofLink 50 = .ok (.ireturn, 1) := by decide +kernel
theorem dX9_ofLink_51 : decode cX9_ofLink 51 = .ok (.aload_n 0, 1) := by decide +kernel
theorem dX9_ofLink_52 : decode cX9_ofLink 52 = .ok (.getfield 7, 3) := by decide +kernel
theorem dX9_ofLink_55 : decode cX9_ofLink 55 = .ok (.sipush 186, 3) := by decide +kernel
theorem dX9_ofLink_58 : decode cX9_ofLink 58 = .ok (.iload_n 1, 1) := by decide +kernel
theorem dX9_ofLink_59 : decode cX9_ofLink 59 = .ok (.iadd, 1) := by decide +kernel
theorem dX9_ofLink_60 : decode cX9_ofLink 60 = .ok (.iaload, 1) := by decide +kernel
theorem dX9_ofLink_61 : decode cX9_ofLink 61 = .ok (.ireturn, 1) := by decide +kernel
theorem dX9_ofLink_62 : decode cX9_ofLink 62 = .ok (.aload_n 0, 1) := by decide +kernel
theorem dX9_ofLink_63 : decode cX9_ofLink 63 = .ok (.iload_n 1, 1) := by decide +kernel
theorem dX9_ofLink_64 : decode cX9_ofLink 64 = .ok (.invokevirtual 166, 3) := by decide +kernel
theorem dX9_ofLink_67 : decode cX9_ofLink 67 = .ok (.ireturn, 1) := by decide +kernel
theorem dX9_ofLink_68 : decode cX9_ofLink 68 = .ok (.aload_n 0, 1) := by decide +kernel
theorem dX9_ofLink_69 : decode cX9_ofLink 69 = .ok (.iload_n 1, 1) := by decide +kernel
theorem dX9_ofLink_70 : decode cX9_ofLink 70 = .ok (.invokevirtual 169, 3) := by decide +kernel
theorem dX9_ofLink_73 : decode cX9_ofLink 73 = .ok (.ireturn, 1) := by decide +kernel
theorem dX9_ofLink_74 : decode cX9_ofLink 74 = .ok (.aload_n 0, 1) := by decide +kernel
theorem dX9_ofLink_75 : decode cX9_ofLink 75 = .ok (.getfield 7, 3) := by decide +kernel
theorem dX9_ofLink_78 : decode cX9_ofLink 78 = .ok (.sipush 410, 3) := by decide +kernel
theorem dX9_ofLink_81 : decode cX9_ofLink 81 = .ok (.iload_n 1, 1) := by decide +kernel
theorem dX9_ofLink_82 : decode cX9_ofLink 82 = .ok (.iadd, 1) := by decide +kernel
theorem dX9_ofLink_83 : decode cX9_ofLink 83 = .ok (.iaload, 1) := by decide +kernel
theorem dX9_ofLink_84 : decode cX9_ofLink 84 = .ok (.ireturn, 1) := by decide +kernel
theorem dX9_ofLink_85 : decode cX9_ofLink 85 = .ok (.aload_n 0, 1) := by decide +kernel
theorem dX9_ofLink_86 : decode cX9_ofLink 86 = .ok (.getfield 7, 3) := by decide +kernel
theorem dX9_ofLink_89 : decode cX9_ofLink 89 = .ok (.sipush 416, 3) := by decide +kernel
theorem dX9_ofLink_92 : decode cX9_ofLink 92 = .ok (.iload_n 1, 1) := by decide +kernel
theorem dX9_ofLink_93 : decode cX9_ofLink 93 = .ok (.iadd, 1) := by decide +kernel
theorem dX9_ofLink_94 : decode cX9_ofLink 94 = .ok (.iaload, 1) := by decide +kernel
theorem dX9_ofLink_95 : decode cX9_ofLink 95 = .ok (.ireturn, 1) := by decide +kernel
theorem dX9_ofLink_96 : decode cX9_ofLink 96 = .ok (.aload_n 0, 1) := by decide +kernel
theorem dX9_ofLink_97 : decode cX9_ofLink 97 = .ok (.getfield 7, 3) := by decide +kernel
theorem dX9_ofLink_100 : decode cX9_ofLink 100 = .ok (.sipush 422, 3) := by decide +kernel
theorem dX9_ofLink_103 : decode cX9_ofLink 103 = .ok (.iload_n 1, 1) := by decide +kernel
theorem dX9_ofLink_104 : decode cX9_ofLink 104 = .ok (.iadd, 1) := by decide +kernel
theorem dX9_ofLink_105 : decode cX9_ofLink 105 = .ok (.iaload, 1) := by decide +kernel
theorem dX9_ofLink_106 : decode cX9_ofLink 106 = .ok (.ireturn, 1) := by decide +kernel
set_option maxRecDepth 20000 in
theorem ggX9_link_X9_isLink : GoodIn wsX9_link wsX9_isLink := goodIn_r _ [4, 5, 6, 3, 7] (by decide +kernel) (by decide +kernel)
set_option maxRecDepth 20000 in
theorem gX9_link_X9_isLink : GoodIn wsX9_link (va_wsS RX9 46 yX9_isLink wsX9_isLink) := goodIn_app (goodIn_of _ (by decide +kernel)) ggX9_link_X9_isLink
set_option maxRecDepth 20000 in
theorem ggX9_link_X9_in : GoodIn wsX9_link wsX9_in := goodIn_r _ [7] (by decide +kernel) (by decide +kernel)
set_option maxRecDepth 20000 in
theorem gX9_link_X9_in : GoodIn wsX9_link (va_wsS RX9 35 yX9_in wsX9_in) := goodIn_app (goodIn_of _ (by decide +kernel)) ggX9_link_X9_in
set_option maxRecDepth 20000 in
theorem ggX9_link_X9_refused : GoodIn wsX9_link wsX9_refused := goodIn_r _ [11, 12, 34, 35, 36, 37, 38, 39, 40, 41, 42, 43, 44, 45, 46, 47, 48, 49, 50, 51, 52, 53, 54, 55] (by decide +kernel) (by decide +kernel)
set_option maxRecDepth 20000 in
theorem gX9_link_X9_refused : GoodIn wsX9_link (wsV RX9 53 RX9 yX9_refused wsX9_refused) := goodIn_app (goodIn_of _ (by decide +kernel)) ggX9_link_X9_refused
set_option maxRecDepth 20000 in
theorem ggX9_link_X9_ofLink : GoodIn wsX9_link wsX9_ofLink := goodIn_r _ [16, 17, 18, 19, 20, 3, 21, 22, 23, 24, 25, 26, 27, 28, 29, 30, 31, 32, 33, 34, 35, 36, 37, 38, 39, 40, 41, 42, 43, 44, 45, 46, 47, 48, 49, 50, 51, 52, 53, 54, 55] (by decide +kernel) (by decide +kernel)
set_option maxRecDepth 20000 in
theorem gX9_link_X9_ofLink : GoodIn wsX9_link (wsV RX9 172 RX9 yX9_ofLink wsX9_ofLink) := goodIn_app (goodIn_of _ (by decide +kernel)) ggX9_link_X9_ofLink
theorem dX9_link_0 : decode cX9_link 0 = .ok (.aload_n 0, 1) := by decide +kernel
theorem dX9_link_1 : decode cX9_link 1 = .ok (.iload_n 1, 1) := by decide +kernel
theorem dX9_link_2 : decode cX9_link 2 = .ok (.invokestatic 46, 3) := by decide +kernel
theorem dX9_link_5 : decode cX9_link 5 = .ok (.ifCond .ne 7, 3) := by decide +kernel
theorem dX9_link_8 : decode cX9_link 8 = .ok (.iconst 1, 1) := by decide +kernel
theorem dX9_link_9 : decode cX9_link 9 = .ok (.goto 18, 3) := by decide +kernel
theorem dX9_link_12 : decode cX9_link 12 = .ok (.iload_n 2, 1) := by decide +kernel
theorem dX9_link_13 : decode cX9_link 13 = .ok (.iconst 0, 1) := by decide +kernel
theorem dX9_link_14 : decode cX9_link 14 = .ok (.bipush 6, 2) := by decide +kernel
theorem dX9_link_16 : decode cX9_link 16 = .ok (.invokestatic 35, 3) := by decide +kernel
theorem dX9_link_19 : decode cX9_link 19 = .ok (.ifCond .eq 7, 3) := by decide +kernel
theorem dX9_link_22 : decode cX9_link 22 = .ok (.iconst 0, 1) := by decide +kernel
theorem dX9_link_23 : decode cX9_link 23 = .ok (.goto 4, 3) := by decide +kernel
theorem dX9_link_26 : decode cX9_link 26 = .ok (.iconst 2, 1) := by decide +kernel
theorem dX9_link_27 : decode cX9_link 27 = .ok (.invokevirtual 53, 3) := by decide +kernel
theorem dX9_link_30 : decode cX9_link 30 = .ok (.ifCond .eq 5, 3) := by decide +kernel
theorem dX9_link_33 : decode cX9_link 33 = .ok (.iconst 0, 1) := by decide +kernel
theorem dX9_link_34 : decode cX9_link 34 = .ok (.ireturn, 1) := by decide +kernel
theorem dX9_link_35 : decode cX9_link 35 = .ok (.aload_n 0, 1) := by decide +kernel
theorem dX9_link_36 : decode cX9_link 36 = .ok (.iload_n 1, 1) := by decide +kernel
theorem dX9_link_37 : decode cX9_link 37 = .ok (.iload_n 2, 1) := by decide +kernel
theorem dX9_link_38 : decode cX9_link 38 = .ok (.invokevirtual 172, 3) := by decide +kernel
theorem dX9_link_41 : decode cX9_link 41 = .ok (.ireturn, 1) := by decide +kernel
set_option maxRecDepth 20000 in
theorem ggX9_waiting_X9_ranked : GoodIn wsX9_waiting wsX9_ranked := goodIn_r _ [6, 1, 7, 8, 9, 10, 11, 12, 13, 14, 15, 16, 17, 18, 19, 20, 21, 22, 23, 24, 25, 26, 27, 28] (by decide +kernel) (by decide +kernel)
set_option maxRecDepth 20000 in
theorem gX9_waiting_X9_ranked : GoodIn wsX9_waiting (wsV RX9 83 RX9 yX9_ranked wsX9_ranked) := goodIn_app (goodIn_of _ (by decide +kernel)) ggX9_waiting_X9_ranked
theorem dX9_waiting_0 : decode cX9_waiting 0 = .ok (.aload_n 0, 1) := by decide +kernel
theorem dX9_waiting_1 : decode cX9_waiting 1 = .ok (.iload_n 1, 1) := by decide +kernel
theorem dX9_waiting_2 : decode cX9_waiting 2 = .ok (.invokevirtual 83, 3) := by decide +kernel
theorem dX9_waiting_5 : decode cX9_waiting 5 = .ok (.istore_n 3, 1) := by decide +kernel
theorem dX9_waiting_6 : decode cX9_waiting 6 = .ok (.iload_n 3, 1) := by decide +kernel
theorem dX9_waiting_7 : decode cX9_waiting 7 = .ok (.iconst (-1), 1) := by decide +kernel
theorem dX9_waiting_8 : decode cX9_waiting 8 = .ok (.if_icmp .ne 7, 3) := by decide +kernel
theorem dX9_waiting_11 : decode cX9_waiting 11 = .ok (.iconst (-1), 1) := by decide +kernel
theorem dX9_waiting_12 : decode cX9_waiting 12 = .ok (.goto 18, 3) := by decide +kernel
theorem dX9_waiting_15 : decode cX9_waiting 15 = .ok (.aload_n 0, 1) := by decide +kernel
theorem dX9_waiting_16 : decode cX9_waiting 16 = .ok (.getfield 7, 3) := by decide +kernel
theorem dX9_waiting_19 : decode cX9_waiting 19 = .ok (.sipush 192, 3) := by decide +kernel
theorem dX9_waiting_22 : decode cX9_waiting 22 = .ok (.bipush 14, 2) := by decide +kernel
theorem dX9_waiting_24 : decode cX9_waiting 24 = .ok (.iload_n 3, 1) := by decide +kernel
theorem dX9_waiting_25 : decode cX9_waiting 25 = .ok (.imul, 1) := by decide +kernel
theorem dX9_waiting_26 : decode cX9_waiting 26 = .ok (.iadd, 1) := by decide +kernel
theorem dX9_waiting_27 : decode cX9_waiting 27 = .ok (.iload_n 2, 1) := by decide +kernel
theorem dX9_waiting_28 : decode cX9_waiting 28 = .ok (.iadd, 1) := by decide +kernel
theorem dX9_waiting_29 : decode cX9_waiting 29 = .ok (.iaload, 1) := by decide +kernel
theorem dX9_waiting_30 : decode cX9_waiting 30 = .ok (.ireturn, 1) := by decide +kernel
set_option maxRecDepth 20000 in
theorem ggX9_waits_X9_in : GoodIn wsX9_waits wsX9_in := goodIn_r _ [4] (by decide +kernel) (by decide +kernel)
set_option maxRecDepth 20000 in
theorem gX9_waits_X9_in : GoodIn wsX9_waits (va_wsS RX9 35 yX9_in wsX9_in) := goodIn_app (goodIn_of _ (by decide +kernel)) ggX9_waits_X9_in
set_option maxRecDepth 20000 in
theorem ggX9_waits_X9_refused : GoodIn wsX9_waits wsX9_refused := goodIn_r _ [8, 9, 19, 20, 21, 22, 23, 24, 25, 26, 27, 28, 29, 30, 31, 32, 33, 34, 35, 36, 37, 38, 39, 40] (by decide +kernel) (by decide +kernel)
set_option maxRecDepth 20000 in
theorem gX9_waits_X9_refused : GoodIn wsX9_waits (wsV RX9 53 RX9 yX9_refused wsX9_refused) := goodIn_app (goodIn_of _ (by decide +kernel)) ggX9_waits_X9_refused
set_option maxRecDepth 20000 in
theorem ggX9_waits_X9_waiting : GoodIn wsX9_waits wsX9_waiting := goodIn_r _ [13, 14, 15, 16, 17, 3, 18, 19, 20, 21, 22, 23, 24, 25, 26, 27, 28, 29, 30, 31, 32, 33, 34, 35, 36, 37, 38, 39, 40] (by decide +kernel) (by decide +kernel)
set_option maxRecDepth 20000 in
theorem gX9_waits_X9_waiting : GoodIn wsX9_waits (wsV RX9 175 RX9 yX9_waiting wsX9_waiting) := goodIn_app (goodIn_of _ (by decide +kernel)) ggX9_waits_X9_waiting
theorem dX9_waits_0 : decode cX9_waits 0 = .ok (.aload_n 0, 1) := by decide +kernel
theorem dX9_waits_1 : decode cX9_waits 1 = .ok (.iload_n 1, 1) := by decide +kernel
theorem dX9_waits_2 : decode cX9_waits 2 = .ok (.ifCond .lt 16, 3) := by decide +kernel
theorem dX9_waits_5 : decode cX9_waits 5 = .ok (.iload_n 2, 1) := by decide +kernel
theorem dX9_waits_6 : decode cX9_waits 6 = .ok (.iconst 0, 1) := by decide +kernel
theorem dX9_waits_7 : decode cX9_waits 7 = .ok (.iconst 2, 1) := by decide +kernel
theorem dX9_waits_8 : decode cX9_waits 8 = .ok (.invokestatic 35, 3) := by decide +kernel
theorem dX9_waits_11 : decode cX9_waits 11 = .ok (.ifCond .eq 7, 3) := by decide +kernel
theorem dX9_waits_14 : decode cX9_waits 14 = .ok (.iconst 0, 1) := by decide +kernel
theorem dX9_waits_15 : decode cX9_waits 15 = .ok (.goto 4, 3) := by decide +kernel
theorem dX9_waits_18 : decode cX9_waits 18 = .ok (.iconst 1, 1) := by decide +kernel
theorem dX9_waits_19 : decode cX9_waits 19 = .ok (.invokevirtual 53, 3) := by decide +kernel
theorem dX9_waits_22 : decode cX9_waits 22 = .ok (.ifCond .eq 5, 3) := by decide +kernel
theorem dX9_waits_25 : decode cX9_waits 25 = .ok (.iconst 0, 1) := by decide +kernel
theorem dX9_waits_26 : decode cX9_waits 26 = .ok (.ireturn, 1) := by decide +kernel
theorem dX9_waits_27 : decode cX9_waits 27 = .ok (.aload_n 0, 1) := by decide +kernel
theorem dX9_waits_28 : decode cX9_waits 28 = .ok (.iload_n 1, 1) := by decide +kernel
theorem dX9_waits_29 : decode cX9_waits 29 = .ok (.iload_n 2, 1) := by decide +kernel
theorem dX9_waits_30 : decode cX9_waits 30 = .ok (.invokevirtual 175, 3) := by decide +kernel
theorem dX9_waits_33 : decode cX9_waits 33 = .ok (.ireturn, 1) := by decide +kernel
set_option maxRecDepth 20000 in
theorem ggX9_arrived_X9_came : GoodIn wsX9_arrived wsX9_came := goodIn_r _ [5, 6, 7, 8, 9, 10, 11, 12, 13, 14, 15, 16, 17, 18, 19, 20, 21, 22, 23, 24, 25, 26, 27, 28] (by decide +kernel) (by decide +kernel)
set_option maxRecDepth 20000 in
theorem gX9_arrived_X9_came : GoodIn wsX9_arrived (wsV RX9 154 RX9 yX9_came wsX9_came) := goodIn_app (goodIn_of _ (by decide +kernel)) ggX9_arrived_X9_came
theorem dX9_arrived_0 : decode cX9_arrived 0 = .ok (.iload_n 2, 1) := by decide +kernel
theorem dX9_arrived_1 : decode cX9_arrived 1 = .ok (.iconst 1, 1) := by decide +kernel
theorem dX9_arrived_2 : decode cX9_arrived 2 = .ok (.if_icmp .ne 49, 3) := by decide +kernel
theorem dX9_arrived_5 : decode cX9_arrived 5 = .ok (.iconst 0, 1) := by decide +kernel
theorem dX9_arrived_6 : decode cX9_arrived 6 = .ok (.istore_n 3, 1) := by decide +kernel
theorem dX9_arrived_7 : decode cX9_arrived 7 = .ok (.iconst 0, 1) := by decide +kernel
theorem dX9_arrived_8 : decode cX9_arrived 8 = .ok (.istore 4, 2) := by decide +kernel
theorem dX9_arrived_10 : decode cX9_arrived 10 = .ok (.iload 4, 2) := by decide +kernel
theorem dX9_arrived_12 : decode cX9_arrived 12 = .ok (.aload_n 0, 1) := by decide +kernel
theorem dX9_arrived_13 : decode cX9_arrived 13 = .ok (.iload_n 1, 1) := by decide +kernel
theorem dX9_arrived_14 : decode cX9_arrived 14 = .ok (.iconst 0, 1) := by decide +kernel
theorem dX9_arrived_15 : decode cX9_arrived 15 = .ok (.invokevirtual 154, 3) := by decide +kernel
theorem dX9_arrived_18 : decode cX9_arrived 18 = .ok (.if_icmp .ge 31, 3) := by decide +kernel
theorem dX9_arrived_21 : decode cX9_arrived 21 = .ok (.iload_n 3, 1) := by decide +kernel
theorem dX9_arrived_22 : decode cX9_arrived 22 = .ok (.aload_n 0, 1) := by decide +kernel
theorem dX9_arrived_23 : decode cX9_arrived 23 = .ok (.iload_n 1, 1) := by decide +kernel
theorem dX9_arrived_24 : decode cX9_arrived 24 = .ok (.iconst 1, 1) := by decide +kernel
theorem dX9_arrived_25 : decode cX9_arrived 25 = .ok (.iload 4, 2) := by decide +kernel
theorem dX9_arrived_27 : decode cX9_arrived 27 = .ok (.iadd, 1) := by decide +kernel
theorem dX9_arrived_28 : decode cX9_arrived 28 = .ok (.invokevirtual 154, 3) := by decide +kernel
theorem dX9_arrived_31 : decode cX9_arrived 31 = .ok (.bipush 30, 2) := by decide +kernel
theorem dX9_arrived_33 : decode cX9_arrived 33 = .ok (.if_icmp .ne 7, 3) := by decide +kernel
theorem dX9_arrived_36 : decode cX9_arrived 36 = .ok (.iconst 1, 1) := by decide +kernel
theorem dX9_arrived_37 : decode cX9_arrived 37 = .ok (.goto 4, 3) := by decide +kernel
theorem dX9_arrived_40 : decode cX9_arrived 40 = .ok (.iconst 0, 1) := by decide +kernel
theorem dX9_arrived_41 : decode cX9_arrived 41 = .ok (.iadd, 1) := by decide +kernel
theorem dX9_arrived_42 : decode cX9_arrived 42 = .ok (.istore_n 3, 1) := by decide +kernel
theorem dX9_arrived_43 : decode cX9_arrived 43 = .ok (.iinc 4 1, 3) := by decide +kernel
theorem dX9_arrived_46 : decode cX9_arrived 46 = .ok (.goto (-36), 3) := by decide +kernel
theorem dX9_arrived_49 : decode cX9_arrived 49 = .ok (.iload_n 3, 1) := by decide +kernel
theorem dX9_arrived_50 : decode cX9_arrived 50 = .ok (.ireturn, 1) := by decide +kernel
theorem dX9_arrived_51 : decode cX9_arrived 51 = .ok (.aload_n 0, 1) := by decide +kernel
theorem dX9_arrived_52 : decode cX9_arrived 52 = .ok (.iload_n 1, 1) := by decide +kernel
theorem dX9_arrived_53 : decode cX9_arrived 53 = .ok (.iload_n 2, 1) := by decide +kernel
theorem dX9_arrived_54 : decode cX9_arrived 54 = .ok (.ifCond .ne 7, 3) := by decide +kernel
theorem dX9_arrived_57 : decode cX9_arrived 57 = .ok (.iconst 0, 1) := by decide +kernel
theorem dX9_arrived_58 : decode cX9_arrived 58 = .ok (.goto 35, 3) := by decide +kernel
theorem dX9_arrived_61 : decode cX9_arrived 61 = .ok (.iload_n 2, 1) := by decide +kernel
theorem dX9_arrived_62 : decode cX9_arrived 62 = .ok (.iconst 2, 1) := by decide +kernel
theorem dX9_arrived_63 : decode cX9_arrived 63 = .ok (.if_icmp .ne 8, 3) := by decide +kernel
theorem dX9_arrived_66 : decode cX9_arrived 66 = .ok (.bipush 13, 2) := by decide +kernel
theorem dX9_arrived_68 : decode cX9_arrived 68 = .ok (.goto 25, 3) := by decide +kernel
theorem dX9_arrived_71 : decode cX9_arrived 71 = .ok (.iload_n 2, 1) := by decide +kernel
theorem dX9_arrived_72 : decode cX9_arrived 72 = .ok (.iconst 3, 1) := by decide +kernel
theorem dX9_arrived_73 : decode cX9_arrived 73 = .ok (.if_icmp .ne 8, 3) := by decide +kernel
theorem dX9_arrived_76 : decode cX9_arrived 76 = .ok (.bipush 14, 2) := by decide +kernel
theorem dX9_arrived_78 : decode cX9_arrived 78 = .ok (.goto 15, 3) := by decide +kernel
theorem dX9_arrived_81 : decode cX9_arrived 81 = .ok (.iload_n 2, 1) := by decide +kernel
theorem dX9_arrived_82 : decode cX9_arrived 82 = .ok (.iconst 4, 1) := by decide +kernel
theorem dX9_arrived_83 : decode cX9_arrived 83 = .ok (.if_icmp .ne 8, 3) := by decide +kernel
theorem dX9_arrived_86 : decode cX9_arrived 86 = .ok (.bipush 15, 2) := by decide +kernel
theorem dX9_arrived_88 : decode cX9_arrived 88 = .ok (.goto 5, 3) := by decide +kernel
theorem dX9_arrived_91 : decode cX9_arrived 91 = .ok (.bipush 16, 2) := by decide +kernel
theorem dX9_arrived_93 : decode cX9_arrived 93 = .ok (.invokevirtual 154, 3) := by decide +kernel
theorem dX9_arrived_96 : decode cX9_arrived 96 = .ok (.ireturn, 1) := by decide +kernel
set_option maxRecDepth 20000 in
theorem ggX9_arrival_X9_in : GoodIn wsX9_arrival wsX9_in := goodIn_r _ [5] (by decide +kernel) (by decide +kernel)
set_option maxRecDepth 20000 in
theorem gX9_arrival_X9_in : GoodIn wsX9_arrival (va_wsS RX9 35 yX9_in wsX9_in) := goodIn_app (goodIn_of _ (by decide +kernel)) ggX9_arrival_X9_in
set_option maxRecDepth 20000 in
theorem ggX9_arrival_X9_refused : GoodIn wsX9_arrival wsX9_refused := goodIn_r _ [9, 10, 19, 20, 21, 22, 23, 24, 25, 26, 27, 28, 29, 30, 31, 32, 33, 34, 35, 36, 37, 38, 39, 40] (by decide +kernel) (by decide +kernel)
set_option maxRecDepth 20000 in
theorem gX9_arrival_X9_refused : GoodIn wsX9_arrival (wsV RX9 53 RX9 yX9_refused wsX9_refused) := goodIn_app (goodIn_of _ (by decide +kernel)) ggX9_arrival_X9_refused
set_option maxRecDepth 20000 in
theorem ggX9_arrival_X9_arrived : GoodIn wsX9_arrival wsX9_arrived := goodIn_r _ [14, 15, 16, 17, 4, 18, 1, 19, 20, 21, 22, 23, 24, 25, 26, 27, 28, 29, 30, 31, 32, 33, 34, 35, 36, 37, 38, 39, 40] (by decide +kernel) (by decide +kernel)
set_option maxRecDepth 20000 in
theorem gX9_arrival_X9_arrived : GoodIn wsX9_arrival (wsV RX9 178 RX9 yX9_arrived wsX9_arrived) := goodIn_app (goodIn_of _ (by decide +kernel)) ggX9_arrival_X9_arrived
theorem dX9_arrival_0 : decode cX9_arrival 0 = .ok (.aload_n 0, 1) := by decide +kernel
theorem dX9_arrival_1 : decode cX9_arrival 1 = .ok (.iload_n 1, 1) := by decide +kernel
theorem dX9_arrival_2 : decode cX9_arrival 2 = .ok (.iconst 0, 1) := by decide +kernel
theorem dX9_arrival_3 : decode cX9_arrival 3 = .ok (.iconst 5, 1) := by decide +kernel
theorem dX9_arrival_4 : decode cX9_arrival 4 = .ok (.invokestatic 35, 3) := by decide +kernel
theorem dX9_arrival_7 : decode cX9_arrival 7 = .ok (.ifCond .eq 16, 3) := by decide +kernel
theorem dX9_arrival_10 : decode cX9_arrival 10 = .ok (.iload_n 2, 1) := by decide +kernel
theorem dX9_arrival_11 : decode cX9_arrival 11 = .ok (.iconst 0, 1) := by decide +kernel
theorem dX9_arrival_12 : decode cX9_arrival 12 = .ok (.iconst 5, 1) := by decide +kernel
theorem dX9_arrival_13 : decode cX9_arrival 13 = .ok (.invokestatic 35, 3) := by decide +kernel
theorem dX9_arrival_16 : decode cX9_arrival 16 = .ok (.ifCond .eq 7, 3) := by decide +kernel
theorem dX9_arrival_19 : decode cX9_arrival 19 = .ok (.iconst 0, 1) := by decide +kernel
theorem dX9_arrival_20 : decode cX9_arrival 20 = .ok (.goto 4, 3) := by decide +kernel
theorem dX9_arrival_23 : decode cX9_arrival 23 = .ok (.iconst 1, 1) := by decide +kernel
theorem dX9_arrival_24 : decode cX9_arrival 24 = .ok (.invokevirtual 53, 3) := by decide +kernel
theorem dX9_arrival_27 : decode cX9_arrival 27 = .ok (.ifCond .eq 5, 3) := by decide +kernel
theorem dX9_arrival_30 : decode cX9_arrival 30 = .ok (.iconst 0, 1) := by decide +kernel
theorem dX9_arrival_31 : decode cX9_arrival 31 = .ok (.ireturn, 1) := by decide +kernel
theorem dX9_arrival_32 : decode cX9_arrival 32 = .ok (.iload_n 1, 1) := by decide +kernel
theorem dX9_arrival_33 : decode cX9_arrival 33 = .ok (.aload_n 0, 1) := by decide +kernel
theorem dX9_arrival_34 : decode cX9_arrival 34 = .ok (.getfield 7, 3) := by decide +kernel
theorem dX9_arrival_37 : decode cX9_arrival 37 = .ok (.sipush 408, 3) := by decide +kernel
theorem dX9_arrival_40 : decode cX9_arrival 40 = .ok (.iaload, 1) := by decide +kernel
theorem dX9_arrival_41 : decode cX9_arrival 41 = .ok (.if_icmp .ge 12, 3) := by decide +kernel
theorem dX9_arrival_44 : decode cX9_arrival 44 = .ok (.aload_n 0, 1) := by decide +kernel
theorem dX9_arrival_45 : decode cX9_arrival 45 = .ok (.iload_n 1, 1) := by decide +kernel
theorem dX9_arrival_46 : decode cX9_arrival 46 = .ok (.iload_n 2, 1) := by decide +kernel
theorem dX9_arrival_47 : decode cX9_arrival 47 = .ok (.invokevirtual 178, 3) := by decide +kernel
theorem dX9_arrival_50 : decode cX9_arrival 50 = .ok (.goto 4, 3) := by decide +kernel
theorem dX9_arrival_53 : decode cX9_arrival 53 = .ok (.iconst (-1), 1) := by decide +kernel
theorem dX9_arrival_54 : decode cX9_arrival 54 = .ok (.ireturn, 1) := by decide +kernel
theorem dX9_sum_0 : decode cX9_sum 0 = .ok (.iconst 0, 1) := by decide +kernel
theorem dX9_sum_1 : decode cX9_sum 1 = .ok (.istore_n 2, 1) := by decide +kernel
theorem dX9_sum_2 : decode cX9_sum 2 = .ok (.iconst 0, 1) := by decide +kernel
theorem dX9_sum_3 : decode cX9_sum 3 = .ok (.istore_n 3, 1) := by decide +kernel
theorem dX9_sum_4 : decode cX9_sum 4 = .ok (.iload_n 3, 1) := by decide +kernel
theorem dX9_sum_5 : decode cX9_sum 5 = .ok (.bipush 6, 2) := by decide +kernel
theorem dX9_sum_7 : decode cX9_sum 7 = .ok (.if_icmp .ge 20, 3) := by decide +kernel
theorem dX9_sum_10 : decode cX9_sum 10 = .ok (.iload_n 2, 1) := by decide +kernel
theorem dX9_sum_11 : decode cX9_sum 11 = .ok (.aload_n 0, 1) := by decide +kernel
theorem dX9_sum_12 : decode cX9_sum 12 = .ok (.getfield 7, 3) := by decide +kernel
theorem dX9_sum_15 : decode cX9_sum 15 = .ok (.iload_n 1, 1) := by decide +kernel
theorem dX9_sum_16 : decode cX9_sum 16 = .ok (.iload_n 3, 1) := by decide +kernel
theorem dX9_sum_17 : decode cX9_sum 17 = .ok (.iadd, 1) := by decide +kernel
theorem dX9_sum_18 : decode cX9_sum 18 = .ok (.iaload, 1) := by decide +kernel
theorem dX9_sum_19 : decode cX9_sum 19 = .ok (.iadd, 1) := by decide +kernel
theorem dX9_sum_20 : decode cX9_sum 20 = .ok (.istore_n 2, 1) := by decide +kernel
theorem dX9_sum_21 : decode cX9_sum 21 = .ok (.iinc 3 1, 3) := by decide +kernel
theorem dX9_sum_24 : decode cX9_sum 24 = .ok (.goto (-20), 3) := by decide +kernel
theorem dX9_sum_27 : decode cX9_sum 27 = .ok (.iload_n 2, 1) := by decide +kernel
theorem dX9_sum_28 : decode cX9_sum 28 = .ok (.ireturn, 1) := by decide +kernel
set_option maxRecDepth 20000 in
theorem ggX9_counts_X9_sum : GoodIn wsX9_counts wsX9_sum := goodIn_r _ [7, 1, 8, 9, 10, 11, 12, 13, 14, 15, 16, 17, 18, 19, 20, 21, 22, 23, 24, 25, 26, 27, 28, 29] (by decide +kernel) (by decide +kernel)
set_option maxRecDepth 20000 in
theorem gX9_counts_X9_sum : GoodIn wsX9_counts (wsV RX9 181 RX9 yX9_sum wsX9_sum) := goodIn_app (goodIn_of _ (by decide +kernel)) ggX9_counts_X9_sum
theorem dX9_counts_0 : decode cX9_counts 0 = .ok (.iload_n 1, 1) := by decide +kernel
theorem dX9_counts_1 : decode cX9_counts 1 = .ok (.tableswitch 91 0 5 #[39, 48, 57, 66, 75, 83], 39) := by decide +kernel
theorem dX9_counts_40 : decode cX9_counts 40 = .ok (.aload_n 0, 1) := by decide +kernel
theorem dX9_counts_41 : decode cX9_counts 41 = .ok (.getfield 7, 3) := by decide +kernel
theorem dX9_counts_44 : decode cX9_counts 44 = .ok (.sipush 304, 3) := by decide +kernel
theorem dX9_counts_47 : decode cX9_counts 47 = .ok (.iaload, 1) := by decide +kernel
theorem dX9_counts_48 : decode cX9_counts 48 = .ok (.ireturn, 1) := by decide +kernel
theorem dX9_counts_49 : decode cX9_counts 49 = .ok (.aload_n 0, 1) := by decide +kernel
theorem dX9_counts_50 : decode cX9_counts 50 = .ok (.getfield 7, 3) := by decide +kernel
theorem dX9_counts_53 : decode cX9_counts 53 = .ok (.sipush 305, 3) := by decide +kernel
theorem dX9_counts_56 : decode cX9_counts 56 = .ok (.iaload, 1) := by decide +kernel
theorem dX9_counts_57 : decode cX9_counts 57 = .ok (.ireturn, 1) := by decide +kernel
theorem dX9_counts_58 : decode cX9_counts 58 = .ok (.aload_n 0, 1) := by decide +kernel
theorem dX9_counts_59 : decode cX9_counts 59 = .ok (.getfield 7, 3) := by decide +kernel
theorem dX9_counts_62 : decode cX9_counts 62 = .ok (.sipush 408, 3) := by decide +kernel
theorem dX9_counts_65 : decode cX9_counts 65 = .ok (.iaload, 1) := by decide +kernel
theorem dX9_counts_66 : decode cX9_counts 66 = .ok (.ireturn, 1) := by decide +kernel
theorem dX9_counts_67 : decode cX9_counts 67 = .ok (.aload_n 0, 1) := by decide +kernel
theorem dX9_counts_68 : decode cX9_counts 68 = .ok (.getfield 7, 3) := by decide +kernel
theorem dX9_counts_71 : decode cX9_counts 71 = .ok (.sipush 409, 3) := by decide +kernel
theorem dX9_counts_74 : decode cX9_counts 74 = .ok (.iaload, 1) := by decide +kernel
theorem dX9_counts_75 : decode cX9_counts 75 = .ok (.ireturn, 1) := by decide +kernel
theorem dX9_counts_76 : decode cX9_counts 76 = .ok (.aload_n 0, 1) := by decide +kernel
theorem dX9_counts_77 : decode cX9_counts 77 = .ok (.sipush 416, 3) := by decide +kernel
theorem dX9_counts_80 : decode cX9_counts 80 = .ok (.invokevirtual 181, 3) := by decide +kernel
theorem dX9_counts_83 : decode cX9_counts 83 = .ok (.ireturn, 1) := by decide +kernel
theorem dX9_counts_84 : decode cX9_counts 84 = .ok (.aload_n 0, 1) := by decide +kernel
theorem dX9_counts_85 : decode cX9_counts 85 = .ok (.sipush 410, 3) := by decide +kernel
theorem dX9_counts_88 : decode cX9_counts 88 = .ok (.invokevirtual 181, 3) := by decide +kernel
theorem dX9_counts_91 : decode cX9_counts 91 = .ok (.ireturn, 1) := by decide +kernel
theorem dX9_counts_92 : decode cX9_counts 92 = .ok (.aload_n 0, 1) := by decide +kernel
theorem dX9_counts_93 : decode cX9_counts 93 = .ok (.getfield 39, 3) := by decide +kernel
theorem dX9_counts_96 : decode cX9_counts 96 = .ok (.ireturn, 1) := by decide +kernel
set_option maxRecDepth 20000 in
theorem ggX9_count_X9_in : GoodIn wsX9_count wsX9_in := goodIn_r _ [4] (by decide +kernel) (by decide +kernel)
set_option maxRecDepth 20000 in
theorem gX9_count_X9_in : GoodIn wsX9_count (va_wsS RX9 35 yX9_in wsX9_in) := goodIn_app (goodIn_of _ (by decide +kernel)) ggX9_count_X9_in
set_option maxRecDepth 20000 in
theorem ggX9_count_X9_refused : GoodIn wsX9_count wsX9_refused := goodIn_r _ [8, 9, 20, 21, 22, 23, 24, 25, 26, 27, 28, 29, 30, 31, 32, 33, 34, 35, 36, 37, 38, 39, 40, 41] (by decide +kernel) (by decide +kernel)
set_option maxRecDepth 20000 in
theorem gX9_count_X9_refused : GoodIn wsX9_count (wsV RX9 53 RX9 yX9_refused wsX9_refused) := goodIn_app (goodIn_of _ (by decide +kernel)) ggX9_count_X9_refused
set_option maxRecDepth 20000 in
theorem ggX9_count_X9_counts : GoodIn wsX9_count wsX9_counts := goodIn_r _ [13, 14, 15, 16, 17, 18, 3, 19, 20, 21, 22, 23, 24, 25, 26, 27, 28, 29, 30, 31, 32, 33, 34, 35, 36, 37, 38, 39, 40, 41] (by decide +kernel) (by decide +kernel)
set_option maxRecDepth 20000 in
theorem gX9_count_X9_counts : GoodIn wsX9_count (wsV RX9 184 RX9 yX9_counts wsX9_counts) := goodIn_app (goodIn_of _ (by decide +kernel)) ggX9_count_X9_counts
theorem dX9_count_0 : decode cX9_count 0 = .ok (.aload_n 0, 1) := by decide +kernel
theorem dX9_count_1 : decode cX9_count 1 = .ok (.iload_n 1, 1) := by decide +kernel
theorem dX9_count_2 : decode cX9_count 2 = .ok (.iconst 0, 1) := by decide +kernel
theorem dX9_count_3 : decode cX9_count 3 = .ok (.bipush 6, 2) := by decide +kernel
theorem dX9_count_5 : decode cX9_count 5 = .ok (.invokestatic 35, 3) := by decide +kernel
theorem dX9_count_8 : decode cX9_count 8 = .ok (.ifCond .eq 7, 3) := by decide +kernel
theorem dX9_count_11 : decode cX9_count 11 = .ok (.iconst 0, 1) := by decide +kernel
theorem dX9_count_12 : decode cX9_count 12 = .ok (.goto 4, 3) := by decide +kernel
theorem dX9_count_15 : decode cX9_count 15 = .ok (.iconst 1, 1) := by decide +kernel
theorem dX9_count_16 : decode cX9_count 16 = .ok (.invokevirtual 53, 3) := by decide +kernel
theorem dX9_count_19 : decode cX9_count 19 = .ok (.ifCond .eq 5, 3) := by decide +kernel
theorem dX9_count_22 : decode cX9_count 22 = .ok (.iconst 0, 1) := by decide +kernel
theorem dX9_count_23 : decode cX9_count 23 = .ok (.ireturn, 1) := by decide +kernel
theorem dX9_count_24 : decode cX9_count 24 = .ok (.aload_n 0, 1) := by decide +kernel
theorem dX9_count_25 : decode cX9_count 25 = .ok (.iload_n 1, 1) := by decide +kernel
theorem dX9_count_26 : decode cX9_count 26 = .ok (.invokevirtual 184, 3) := by decide +kernel
theorem dX9_count_29 : decode cX9_count 29 = .ok (.ireturn, 1) := by decide +kernel
theorem dX9_losing_0 : decode cX9_losing 0 = .ok (.iconst 0, 1) := by decide +kernel
theorem dX9_losing_1 : decode cX9_losing 1 = .ok (.istore_n 3, 1) := by decide +kernel
theorem dX9_losing_2 : decode cX9_losing 2 = .ok (.iload_n 3, 1) := by decide +kernel
theorem dX9_losing_3 : decode cX9_losing 3 = .ok (.bipush 30, 2) := by decide +kernel
theorem dX9_losing_5 : decode cX9_losing 5 = .ok (.if_icmp .ge 117, 3) := by decide +kernel
theorem dX9_losing_8 : decode cX9_losing 8 = .ok (.iconst 0, 1) := by decide +kernel
theorem dX9_losing_9 : decode cX9_losing 9 = .ok (.istore 4, 2) := by decide +kernel
theorem dX9_losing_11 : decode cX9_losing 11 = .ok (.iconst 0, 1) := by decide +kernel
theorem dX9_losing_12 : decode cX9_losing 12 = .ok (.istore 5, 2) := by decide +kernel
theorem dX9_losing_14 : decode cX9_losing 14 = .ok (.iload 5, 2) := by decide +kernel
theorem dX9_losing_16 : decode cX9_losing 16 = .ok (.bipush 30, 2) := by decide +kernel
theorem dX9_losing_18 : decode cX9_losing 18 = .ok (.if_icmp .ge 73, 3) := by decide +kernel
theorem dX9_losing_21 : decode cX9_losing 21 = .ok (.iload 4, 2) := by decide +kernel
theorem dX9_losing_23 : decode cX9_losing 23 = .ok (.aload_n 0, 1) := by decide +kernel
theorem dX9_losing_24 : decode cX9_losing 24 = .ok (.getfield 7, 3) := by decide +kernel
theorem dX9_losing_27 : decode cX9_losing 27 = .ok (.sipush 428, 3) := by decide +kernel
theorem dX9_losing_30 : decode cX9_losing 30 = .ok (.iload 5, 2) := by decide +kernel
theorem dX9_losing_32 : decode cX9_losing 32 = .ok (.iadd, 1) := by decide +kernel
theorem dX9_losing_33 : decode cX9_losing 33 = .ok (.iaload, 1) := by decide +kernel
theorem dX9_losing_34 : decode cX9_losing 34 = .ok (.aload_n 0, 1) := by decide +kernel
theorem dX9_losing_35 : decode cX9_losing 35 = .ok (.getfield 7, 3) := by decide +kernel
theorem dX9_losing_38 : decode cX9_losing 38 = .ok (.sipush 428, 3) := by decide +kernel
theorem dX9_losing_41 : decode cX9_losing 41 = .ok (.iload_n 3, 1) := by decide +kernel
theorem dX9_losing_42 : decode cX9_losing 42 = .ok (.iadd, 1) := by decide +kernel
theorem dX9_losing_43 : decode cX9_losing 43 = .ok (.iaload, 1) := by decide +kernel
theorem dX9_losing_44 : decode cX9_losing 44 = .ok (.if_icmp .gt 33, 3) := by decide +kernel
theorem dX9_losing_47 : decode cX9_losing 47 = .ok (.aload_n 0, 1) := by decide +kernel
theorem dX9_losing_48 : decode cX9_losing 48 = .ok (.getfield 7, 3) := by decide +kernel
theorem dX9_losing_51 : decode cX9_losing 51 = .ok (.sipush 428, 3) := by decide +kernel
theorem dX9_losing_54 : decode cX9_losing 54 = .ok (.iload 5, 2) := by decide +kernel
theorem dX9_losing_56 : decode cX9_losing 56 = .ok (.iadd, 1) := by decide +kernel
theorem dX9_losing_57 : decode cX9_losing 57 = .ok (.iaload, 1) := by decide +kernel
theorem dX9_losing_58 : decode cX9_losing 58 = .ok (.aload_n 0, 1) := by decide +kernel
theorem dX9_losing_59 : decode cX9_losing 59 = .ok (.getfield 7, 3) := by decide +kernel
theorem dX9_losing_62 : decode cX9_losing 62 = .ok (.sipush 428, 3) := by decide +kernel
theorem dX9_losing_65 : decode cX9_losing 65 = .ok (.iload_n 3, 1) := by decide +kernel
theorem dX9_losing_66 : decode cX9_losing 66 = .ok (.iadd, 1) := by decide +kernel
theorem dX9_losing_67 : decode cX9_losing 67 = .ok (.iaload, 1) := by decide +kernel
theorem dX9_losing_68 : decode cX9_losing 68 = .ok (.if_icmp .ne 13, 3) := by decide +kernel
theorem dX9_losing_71 : decode cX9_losing 71 = .ok (.iload 5, 2) := by decide +kernel
theorem dX9_losing_73 : decode cX9_losing 73 = .ok (.iload_n 3, 1) := by decide +kernel
theorem dX9_losing_74 : decode cX9_losing 74 = .ok (.if_icmp .ge 7, 3) := by decide +kernel
theorem dX9_losing_77 : decode cX9_losing 77 = .ok (.iconst 1, 1) := by decide +kernel
theorem dX9_losing_78 : decode cX9_losing 78 = .ok (.goto 4, 3) := by decide +kernel
theorem dX9_losing_81 : decode cX9_losing 81 = .ok (.iconst 0, 1) := by decide +kernel
theorem dX9_losing_82 : decode cX9_losing 82 = .ok (.iadd, 1) := by decide +kernel
theorem dX9_losing_83 : decode cX9_losing 83 = .ok (.istore 4, 2) := by decide +kernel
theorem dX9_losing_85 : decode cX9_losing 85 = .ok (.iinc 5 1, 3) := by decide +kernel
theorem dX9_losing_88 : decode cX9_losing 88 = .ok (.goto (-74), 3) := by decide +kernel
theorem dX9_losing_91 : decode cX9_losing 91 = .ok (.iload 4, 2) := by decide +kernel
theorem dX9_losing_93 : decode cX9_losing 93 = .ok (.iload_n 1, 1) := by decide +kernel
theorem dX9_losing_94 : decode cX9_losing 94 = .ok (.if_icmp .ne 22, 3) := by decide +kernel
theorem dX9_losing_97 : decode cX9_losing 97 = .ok (.iload_n 2, 1) := by decide +kernel
theorem dX9_losing_98 : decode cX9_losing 98 = .ok (.ifCond .ne 7, 3) := by decide +kernel
theorem dX9_losing_101 : decode cX9_losing 101 = .ok (.iload_n 3, 1) := by decide +kernel
theorem dX9_losing_102 : decode cX9_losing 102 = .ok (.goto 13, 3) := by decide +kernel
theorem dX9_losing_105 : decode cX9_losing 105 = .ok (.aload_n 0, 1) := by decide +kernel
theorem dX9_losing_106 : decode cX9_losing 106 = .ok (.getfield 7, 3) := by decide +kernel
theorem dX9_losing_109 : decode cX9_losing 109 = .ok (.sipush 428, 3) := by decide +kernel
theorem dX9_losing_112 : decode cX9_losing 112 = .ok (.iload_n 3, 1) := by decide +kernel
theorem dX9_losing_113 : decode cX9_losing 113 = .ok (.iadd, 1) := by decide +kernel
theorem dX9_losing_114 : decode cX9_losing 114 = .ok (.iaload, 1) := by decide +kernel
theorem dX9_losing_115 : decode cX9_losing 115 = .ok (.ireturn, 1) := by decide +kernel
theorem dX9_losing_116 : decode cX9_losing 116 = .ok (.iinc 3 1, 3) := by decide +kernel
theorem dX9_losing_119 : decode cX9_losing 119 = .ok (.goto (-117), 3) := by decide +kernel
theorem dX9_losing_122 : decode cX9_losing 122 = .ok (.iconst (-1), 1) := by decide +kernel
theorem dX9_losing_123 : decode cX9_losing 123 = .ok (.ireturn, 1) := by decide +kernel
set_option maxRecDepth 20000 in
theorem ggX9_lost_X9_in : GoodIn wsX9_lost wsX9_in := goodIn_r _ [4] (by decide +kernel) (by decide +kernel)
set_option maxRecDepth 20000 in
theorem gX9_lost_X9_in : GoodIn wsX9_lost (va_wsS RX9 35 yX9_in wsX9_in) := goodIn_app (goodIn_of _ (by decide +kernel)) ggX9_lost_X9_in
set_option maxRecDepth 20000 in
theorem ggX9_lost_X9_refused : GoodIn wsX9_lost wsX9_refused := goodIn_r _ [8, 9, 15, 16, 17, 18, 19, 20, 21, 22, 23, 24, 25, 26, 27, 28, 29, 30, 31, 32, 33, 34, 35, 36] (by decide +kernel) (by decide +kernel)
set_option maxRecDepth 20000 in
theorem gX9_lost_X9_refused : GoodIn wsX9_lost (wsV RX9 53 RX9 yX9_refused wsX9_refused) := goodIn_app (goodIn_of _ (by decide +kernel)) ggX9_lost_X9_refused
set_option maxRecDepth 20000 in
theorem ggX9_lost_X9_losing : GoodIn wsX9_lost wsX9_losing := goodIn_r _ [13, 14, 15, 16, 17, 18, 19, 20, 21, 22, 23, 24, 25, 26, 27, 28, 29, 30, 31, 32, 33, 34, 35, 36] (by decide +kernel) (by decide +kernel)
set_option maxRecDepth 20000 in
theorem gX9_lost_X9_losing : GoodIn wsX9_lost (wsV RX9 187 RX9 yX9_losing wsX9_losing) := goodIn_app (goodIn_of _ (by decide +kernel)) ggX9_lost_X9_losing
theorem dX9_lost_0 : decode cX9_lost 0 = .ok (.aload_n 0, 1) := by decide +kernel
theorem dX9_lost_1 : decode cX9_lost 1 = .ok (.iload_n 1, 1) := by decide +kernel
theorem dX9_lost_2 : decode cX9_lost 2 = .ok (.iconst 0, 1) := by decide +kernel
theorem dX9_lost_3 : decode cX9_lost 3 = .ok (.bipush 29, 2) := by decide +kernel
theorem dX9_lost_5 : decode cX9_lost 5 = .ok (.invokestatic 35, 3) := by decide +kernel
theorem dX9_lost_8 : decode cX9_lost 8 = .ok (.ifCond .eq 16, 3) := by decide +kernel
theorem dX9_lost_11 : decode cX9_lost 11 = .ok (.iload_n 2, 1) := by decide +kernel
theorem dX9_lost_12 : decode cX9_lost 12 = .ok (.iconst 0, 1) := by decide +kernel
theorem dX9_lost_13 : decode cX9_lost 13 = .ok (.iconst 1, 1) := by decide +kernel
theorem dX9_lost_14 : decode cX9_lost 14 = .ok (.invokestatic 35, 3) := by decide +kernel
theorem dX9_lost_17 : decode cX9_lost 17 = .ok (.ifCond .eq 7, 3) := by decide +kernel
theorem dX9_lost_20 : decode cX9_lost 20 = .ok (.iconst 0, 1) := by decide +kernel
theorem dX9_lost_21 : decode cX9_lost 21 = .ok (.goto 4, 3) := by decide +kernel
theorem dX9_lost_24 : decode cX9_lost 24 = .ok (.iconst 1, 1) := by decide +kernel
theorem dX9_lost_25 : decode cX9_lost 25 = .ok (.invokevirtual 53, 3) := by decide +kernel
theorem dX9_lost_28 : decode cX9_lost 28 = .ok (.ifCond .eq 5, 3) := by decide +kernel
theorem dX9_lost_31 : decode cX9_lost 31 = .ok (.iconst 0, 1) := by decide +kernel
theorem dX9_lost_32 : decode cX9_lost 32 = .ok (.ireturn, 1) := by decide +kernel
theorem dX9_lost_33 : decode cX9_lost 33 = .ok (.aload_n 0, 1) := by decide +kernel
theorem dX9_lost_34 : decode cX9_lost 34 = .ok (.iload_n 1, 1) := by decide +kernel
theorem dX9_lost_35 : decode cX9_lost 35 = .ok (.iload_n 2, 1) := by decide +kernel
theorem dX9_lost_36 : decode cX9_lost 36 = .ok (.invokevirtual 187, 3) := by decide +kernel
theorem dX9_lost_39 : decode cX9_lost 39 = .ok (.ireturn, 1) := by decide +kernel
set_option maxRecDepth 20000 in
theorem ggX9_gone_X9_ranked : GoodIn wsX9_gone wsX9_ranked := goodIn_r _ [9, 1, 32, 33, 34, 35, 36, 37, 38, 39, 40, 41, 42, 43, 44, 45, 46, 47, 48, 49, 50, 51, 52, 53] (by decide +kernel) (by decide +kernel)
set_option maxRecDepth 20000 in
theorem gX9_gone_X9_ranked : GoodIn wsX9_gone (wsV RX9 83 RX9 yX9_ranked wsX9_ranked) := goodIn_app (goodIn_of _ (by decide +kernel)) ggX9_gone_X9_ranked
set_option maxRecDepth 20000 in
theorem ggX9_gone_X9_lays : GoodIn wsX9_gone wsX9_lays := goodIn_r _ [13, 1, 2, 14, 32, 33, 34, 35, 36, 37, 38, 39, 40, 41, 42, 43, 44, 45, 46, 47, 48, 49, 50, 51, 52, 53] (by decide +kernel) (by decide +kernel)
set_option maxRecDepth 20000 in
theorem gX9_gone_X9_lays : GoodIn wsX9_gone (wsV RX9 87 RX9 yX9_lays wsX9_lays) := goodIn_app (goodIn_of _ (by decide +kernel)) ggX9_gone_X9_lays
set_option maxRecDepth 20000 in
theorem ggX9_gone_X9_hears : GoodIn wsX9_gone wsX9_hears := goodIn_r _ [18, 4, 19, 2, 14, 1, 3, 20, 21, 22, 8, 23, 24, 25, 26, 27, 32, 33, 34, 35, 36, 37, 38, 39, 40, 41, 42, 43, 44, 45, 46, 47, 48, 49, 50, 51, 52, 53] (by decide +kernel) (by decide +kernel)
set_option maxRecDepth 20000 in
theorem gX9_gone_X9_hears : GoodIn wsX9_gone (wsV RX9 79 RX9 yX9_hears wsX9_hears) := goodIn_app (goodIn_of _ (by decide +kernel)) ggX9_gone_X9_hears
set_option maxRecDepth 20000 in
theorem ggX9_gone_X9_mumbles : GoodIn wsX9_gone wsX9_mumbles := goodIn_r _ [31, 2, 14, 32, 33, 34, 35, 36, 37, 38, 39, 40, 41, 42, 43, 44, 45, 46, 47, 48, 49, 50, 51, 52, 53] (by decide +kernel) (by decide +kernel)
set_option maxRecDepth 20000 in
theorem gX9_gone_X9_mumbles : GoodIn wsX9_gone (wsV RX9 190 RX9 yX9_mumbles wsX9_mumbles) := goodIn_app (goodIn_of _ (by decide +kernel)) ggX9_gone_X9_mumbles
theorem dX9_gone_0 : decode cX9_gone 0 = .ok (.aload_n 0, 1) := by decide +kernel
theorem dX9_gone_1 : decode cX9_gone 1 = .ok (.getfield 7, 3) := by decide +kernel
theorem dX9_gone_4 : decode cX9_gone 4 = .ok (.sipush 304, 3) := by decide +kernel
theorem dX9_gone_7 : decode cX9_gone 7 = .ok (.iaload, 1) := by decide +kernel
theorem dX9_gone_8 : decode cX9_gone 8 = .ok (.ifCond .ne 5, 3) := by decide +kernel
theorem dX9_gone_11 : decode cX9_gone 11 = .ok (.iconst (-1), 1) := by decide +kernel
theorem dX9_gone_12 : decode cX9_gone 12 = .ok (.ireturn, 1) := by decide +kernel
theorem dX9_gone_13 : decode cX9_gone 13 = .ok (.aload_n 0, 1) := by decide +kernel
theorem dX9_gone_14 : decode cX9_gone 14 = .ok (.aload_n 0, 1) := by decide +kernel
theorem dX9_gone_15 : decode cX9_gone 15 = .ok (.iconst 0, 1) := by decide +kernel
theorem dX9_gone_16 : decode cX9_gone 16 = .ok (.invokevirtual 83, 3) := by decide +kernel
theorem dX9_gone_19 : decode cX9_gone 19 = .ok (.invokevirtual 87, 3) := by decide +kernel
theorem dX9_gone_22 : decode cX9_gone 22 = .ok (.iconst 0, 1) := by decide +kernel
theorem dX9_gone_23 : decode cX9_gone 23 = .ok (.istore_n 3, 1) := by decide +kernel
theorem dX9_gone_24 : decode cX9_gone 24 = .ok (.iload_n 3, 1) := by decide +kernel
theorem dX9_gone_25 : decode cX9_gone 25 = .ok (.iload_n 1, 1) := by decide +kernel
theorem dX9_gone_26 : decode cX9_gone 26 = .ok (.if_icmp .gt 24, 3) := by decide +kernel
theorem dX9_gone_29 : decode cX9_gone 29 = .ok (.aload_n 0, 1) := by decide +kernel
theorem dX9_gone_30 : decode cX9_gone 30 = .ok (.iload_n 3, 1) := by decide +kernel
theorem dX9_gone_31 : decode cX9_gone 31 = .ok (.aload_n 0, 1) := by decide +kernel
theorem dX9_gone_32 : decode cX9_gone 32 = .ok (.getfield 7, 3) := by decide +kernel
theorem dX9_gone_35 : decode cX9_gone 35 = .ok (.sipush 180, 3) := by decide +kernel
theorem dX9_gone_38 : decode cX9_gone 38 = .ok (.iload_n 3, 1) := by decide +kernel
theorem dX9_gone_39 : decode cX9_gone 39 = .ok (.iadd, 1) := by decide +kernel
theorem dX9_gone_40 : decode cX9_gone 40 = .ok (.iaload, 1) := by decide +kernel
theorem dX9_gone_41 : decode cX9_gone 41 = .ok (.invokevirtual 79, 3) := by decide +kernel
theorem dX9_gone_44 : decode cX9_gone 44 = .ok (.iinc 3 1, 3) := by decide +kernel
theorem dX9_gone_47 : decode cX9_gone 47 = .ok (.goto (-23), 3) := by decide +kernel
theorem dX9_gone_50 : decode cX9_gone 50 = .ok (.iload_n 2, 1) := by decide +kernel
theorem dX9_gone_51 : decode cX9_gone 51 = .ok (.ifCond .ne 10, 3) := by decide +kernel
theorem dX9_gone_54 : decode cX9_gone 54 = .ok (.aload_n 0, 1) := by decide +kernel
theorem dX9_gone_55 : decode cX9_gone 55 = .ok (.getfield 70, 3) := by decide +kernel
theorem dX9_gone_58 : decode cX9_gone 58 = .ok (.goto 31, 3) := by decide +kernel
theorem dX9_gone_61 : decode cX9_gone 61 = .ok (.iload_n 2, 1) := by decide +kernel
theorem dX9_gone_62 : decode cX9_gone 62 = .ok (.iconst 1, 1) := by decide +kernel
theorem dX9_gone_63 : decode cX9_gone 63 = .ok (.if_icmp .ne 10, 3) := by decide +kernel
theorem dX9_gone_66 : decode cX9_gone 66 = .ok (.aload_n 0, 1) := by decide +kernel
theorem dX9_gone_67 : decode cX9_gone 67 = .ok (.invokevirtual 190, 3) := by decide +kernel
theorem dX9_gone_70 : decode cX9_gone 70 = .ok (.goto 19, 3) := by decide +kernel
theorem dX9_gone_73 : decode cX9_gone 73 = .ok (.iload_n 2, 1) := by decide +kernel
theorem dX9_gone_74 : decode cX9_gone 74 = .ok (.iconst 2, 1) := by decide +kernel
theorem dX9_gone_75 : decode cX9_gone 75 = .ok (.if_icmp .ne 10, 3) := by decide +kernel
theorem dX9_gone_78 : decode cX9_gone 78 = .ok (.aload_n 0, 1) := by decide +kernel
theorem dX9_gone_79 : decode cX9_gone 79 = .ok (.getfield 76, 3) := by decide +kernel
theorem dX9_gone_82 : decode cX9_gone 82 = .ok (.goto 7, 3) := by decide +kernel
theorem dX9_gone_85 : decode cX9_gone 85 = .ok (.aload_n 0, 1) := by decide +kernel
theorem dX9_gone_86 : decode cX9_gone 86 = .ok (.getfield 63, 3) := by decide +kernel
theorem dX9_gone_89 : decode cX9_gone 89 = .ok (.ireturn, 1) := by decide +kernel
set_option maxRecDepth 20000 in
theorem ggX9_ifGone_X9_isLink : GoodIn wsX9_ifGone wsX9_isLink := goodIn_r _ [4, 5, 6, 3, 7] (by decide +kernel) (by decide +kernel)
set_option maxRecDepth 20000 in
theorem gX9_ifGone_X9_isLink : GoodIn wsX9_ifGone (va_wsS RX9 46 yX9_isLink wsX9_isLink) := goodIn_app (goodIn_of _ (by decide +kernel)) ggX9_ifGone_X9_isLink
set_option maxRecDepth 20000 in
theorem ggX9_ifGone_X9_in : GoodIn wsX9_ifGone wsX9_in := goodIn_r _ [7] (by decide +kernel) (by decide +kernel)
set_option maxRecDepth 20000 in
theorem gX9_ifGone_X9_in : GoodIn wsX9_ifGone (va_wsS RX9 35 yX9_in wsX9_in) := goodIn_app (goodIn_of _ (by decide +kernel)) ggX9_ifGone_X9_in
set_option maxRecDepth 20000 in
theorem ggX9_ifGone_X9_refused : GoodIn wsX9_ifGone wsX9_refused := goodIn_r _ [11, 12, 47, 48, 49, 50, 51, 52, 53, 54, 55, 56, 57, 58, 59, 60, 61, 62, 63, 64, 65, 66, 67, 68] (by decide +kernel) (by decide +kernel)
set_option maxRecDepth 20000 in
theorem gX9_ifGone_X9_refused : GoodIn wsX9_ifGone (wsV RX9 53 RX9 yX9_refused wsX9_refused) := goodIn_app (goodIn_of _ (by decide +kernel)) ggX9_ifGone_X9_refused
set_option maxRecDepth 20000 in
theorem ggX9_ifGone_X9_gone : GoodIn wsX9_ifGone wsX9_gone := goodIn_r _ [16, 17, 18, 19, 20, 21, 22, 23, 3, 24, 25, 26, 27, 28, 29, 30, 31, 32, 33, 34, 35, 36, 37, 38, 39, 40, 41, 42, 43, 44, 45, 46, 47, 48, 49, 50, 51, 52, 53, 54, 55, 56, 57, 58, 59, 60, 61, 62, 63, 64, 65, 66, 67, 68] (by decide +kernel) (by decide +kernel)
set_option maxRecDepth 20000 in
theorem gX9_ifGone_X9_gone : GoodIn wsX9_ifGone (wsV RX9 193 RX9 yX9_gone wsX9_gone) := goodIn_app (goodIn_of _ (by decide +kernel)) ggX9_ifGone_X9_gone
theorem dX9_ifGone_0 : decode cX9_ifGone 0 = .ok (.aload_n 0, 1) := by decide +kernel
theorem dX9_ifGone_1 : decode cX9_ifGone 1 = .ok (.iload_n 1, 1) := by decide +kernel
theorem dX9_ifGone_2 : decode cX9_ifGone 2 = .ok (.invokestatic 46, 3) := by decide +kernel
theorem dX9_ifGone_5 : decode cX9_ifGone 5 = .ok (.ifCond .ne 7, 3) := by decide +kernel
theorem dX9_ifGone_8 : decode cX9_ifGone 8 = .ok (.iconst 1, 1) := by decide +kernel
theorem dX9_ifGone_9 : decode cX9_ifGone 9 = .ok (.goto 17, 3) := by decide +kernel
theorem dX9_ifGone_12 : decode cX9_ifGone 12 = .ok (.iload_n 2, 1) := by decide +kernel
theorem dX9_ifGone_13 : decode cX9_ifGone 13 = .ok (.iconst 0, 1) := by decide +kernel
theorem dX9_ifGone_14 : decode cX9_ifGone 14 = .ok (.iconst 3, 1) := by decide +kernel
theorem dX9_ifGone_15 : decode cX9_ifGone 15 = .ok (.invokestatic 35, 3) := by decide +kernel
theorem dX9_ifGone_18 : decode cX9_ifGone 18 = .ok (.ifCond .eq 7, 3) := by decide +kernel
theorem dX9_ifGone_21 : decode cX9_ifGone 21 = .ok (.iconst 0, 1) := by decide +kernel
theorem dX9_ifGone_22 : decode cX9_ifGone 22 = .ok (.goto 4, 3) := by decide +kernel
theorem dX9_ifGone_25 : decode cX9_ifGone 25 = .ok (.iconst 2, 1) := by decide +kernel
theorem dX9_ifGone_26 : decode cX9_ifGone 26 = .ok (.invokevirtual 53, 3) := by decide +kernel
theorem dX9_ifGone_29 : decode cX9_ifGone 29 = .ok (.ifCond .eq 5, 3) := by decide +kernel
theorem dX9_ifGone_32 : decode cX9_ifGone 32 = .ok (.iconst 0, 1) := by decide +kernel
theorem dX9_ifGone_33 : decode cX9_ifGone 33 = .ok (.ireturn, 1) := by decide +kernel
theorem dX9_ifGone_34 : decode cX9_ifGone 34 = .ok (.aload_n 0, 1) := by decide +kernel
theorem dX9_ifGone_35 : decode cX9_ifGone 35 = .ok (.iload_n 1, 1) := by decide +kernel
theorem dX9_ifGone_36 : decode cX9_ifGone 36 = .ok (.iload_n 2, 1) := by decide +kernel
theorem dX9_ifGone_37 : decode cX9_ifGone 37 = .ok (.invokevirtual 193, 3) := by decide +kernel
theorem dX9_ifGone_40 : decode cX9_ifGone 40 = .ok (.ireturn, 1) := by decide +kernel
set_option maxRecDepth 20000 in
theorem ggX9_lostAt_X9_isWord : GoodIn wsX9_lostAt wsX9_isWord := goodIn_r _ [4, 5, 6, 3, 7] (by decide +kernel) (by decide +kernel)
set_option maxRecDepth 20000 in
theorem gX9_lostAt_X9_isWord : GoodIn wsX9_lostAt (va_wsS RX9 50 yX9_isWord wsX9_isWord) := goodIn_app (goodIn_of _ (by decide +kernel)) ggX9_lostAt_X9_isWord
set_option maxRecDepth 20000 in
theorem ggX9_lostAt_X9_refused : GoodIn wsX9_lostAt wsX9_refused := goodIn_r _ [11, 12, 35, 36, 37, 38, 39, 40, 41, 42, 43, 44, 45, 46, 47, 48, 49, 50, 51, 52, 53, 54, 55, 56] (by decide +kernel) (by decide +kernel)
set_option maxRecDepth 20000 in
theorem gX9_lostAt_X9_refused : GoodIn wsX9_lostAt (wsV RX9 53 RX9 yX9_refused wsX9_refused) := goodIn_app (goodIn_of _ (by decide +kernel)) ggX9_lostAt_X9_refused
set_option maxRecDepth 20000 in
theorem ggX9_lostAt_X9_lostOf : GoodIn wsX9_lostAt wsX9_lostOf := goodIn_r _ [16, 17, 18, 19, 20, 21, 22, 3, 23, 24, 25, 26, 27, 28, 29, 30, 31, 32, 33, 34, 35, 36, 37, 38, 39, 40, 41, 42, 43, 44, 45, 46, 47, 48, 49, 50, 51, 52, 53, 54, 55, 56] (by decide +kernel) (by decide +kernel)
set_option maxRecDepth 20000 in
theorem gX9_lostAt_X9_lostOf : GoodIn wsX9_lostAt (wsV RX9 95 RX9 yX9_lostOf wsX9_lostOf) := goodIn_app (goodIn_of _ (by decide +kernel)) ggX9_lostAt_X9_lostOf
theorem dX9_lostAt_0 : decode cX9_lostAt 0 = .ok (.aload_n 0, 1) := by decide +kernel
theorem dX9_lostAt_1 : decode cX9_lostAt 1 = .ok (.iload_n 1, 1) := by decide +kernel
theorem dX9_lostAt_2 : decode cX9_lostAt 2 = .ok (.invokestatic 50, 3) := by decide +kernel
theorem dX9_lostAt_5 : decode cX9_lostAt 5 = .ok (.ifCond .eq 7, 3) := by decide +kernel
theorem dX9_lostAt_8 : decode cX9_lostAt 8 = .ok (.iconst 0, 1) := by decide +kernel
theorem dX9_lostAt_9 : decode cX9_lostAt 9 = .ok (.goto 4, 3) := by decide +kernel
theorem dX9_lostAt_12 : decode cX9_lostAt 12 = .ok (.iconst 1, 1) := by decide +kernel
theorem dX9_lostAt_13 : decode cX9_lostAt 13 = .ok (.invokevirtual 53, 3) := by decide +kernel
theorem dX9_lostAt_16 : decode cX9_lostAt 16 = .ok (.ifCond .eq 5, 3) := by decide +kernel
theorem dX9_lostAt_19 : decode cX9_lostAt 19 = .ok (.iconst 0, 1) := by decide +kernel
theorem dX9_lostAt_20 : decode cX9_lostAt 20 = .ok (.ireturn, 1) := by decide +kernel
theorem dX9_lostAt_21 : decode cX9_lostAt 21 = .ok (.aload_n 0, 1) := by decide +kernel
theorem dX9_lostAt_22 : decode cX9_lostAt 22 = .ok (.iload_n 1, 1) := by decide +kernel
theorem dX9_lostAt_23 : decode cX9_lostAt 23 = .ok (.invokevirtual 95, 3) := by decide +kernel
theorem dX9_lostAt_26 : decode cX9_lostAt 26 = .ok (.ireturn, 1) := by decide +kernel
set_option maxRecDepth 20000 in
theorem ggX9_arrives_X9_lays : GoodIn wsX9_arrives wsX9_lays := goodIn_r _ [8, 1, 3, 9, 24, 25, 26, 27, 28, 29, 30, 31, 32, 33, 34, 35, 36, 37, 38, 39, 40, 41, 42, 43, 44, 45] (by decide +kernel) (by decide +kernel)
set_option maxRecDepth 20000 in
theorem gX9_arrives_X9_lays : GoodIn wsX9_arrives (wsV RX9 87 RX9 yX9_lays wsX9_lays) := goodIn_app (goodIn_of _ (by decide +kernel)) ggX9_arrives_X9_lays
set_option maxRecDepth 20000 in
theorem ggX9_arrives_X9_hears : GoodIn wsX9_arrives wsX9_hears := goodIn_r _ [13, 14, 15, 3, 9, 1, 2, 16, 17, 18, 7, 19, 20, 21, 22, 23, 24, 25, 26, 27, 28, 29, 30, 31, 32, 33, 34, 35, 36, 37, 38, 39, 40, 41, 42, 43, 44, 45] (by decide +kernel) (by decide +kernel)
set_option maxRecDepth 20000 in
theorem gX9_arrives_X9_hears : GoodIn wsX9_arrives (wsV RX9 79 RX9 yX9_hears wsX9_hears) := goodIn_app (goodIn_of _ (by decide +kernel)) ggX9_arrives_X9_hears
theorem dX9_arrives_0 : decode cX9_arrives 0 = .ok (.aload_n 0, 1) := by decide +kernel
theorem dX9_arrives_1 : decode cX9_arrives 1 = .ok (.iload_n 1, 1) := by decide +kernel
theorem dX9_arrives_2 : decode cX9_arrives 2 = .ok (.invokevirtual 87, 3) := by decide +kernel
theorem dX9_arrives_5 : decode cX9_arrives 5 = .ok (.iconst 0, 1) := by decide +kernel
theorem dX9_arrives_6 : decode cX9_arrives 6 = .ok (.istore_n 3, 1) := by decide +kernel
theorem dX9_arrives_7 : decode cX9_arrives 7 = .ok (.iconst 0, 1) := by decide +kernel
theorem dX9_arrives_8 : decode cX9_arrives 8 = .ok (.istore 4, 2) := by decide +kernel
theorem dX9_arrives_10 : decode cX9_arrives 10 = .ok (.iload 4, 2) := by decide +kernel
theorem dX9_arrives_12 : decode cX9_arrives 12 = .ok (.bipush 6, 2) := by decide +kernel
theorem dX9_arrives_14 : decode cX9_arrives 14 = .ok (.if_icmp .ge 43, 3) := by decide +kernel
theorem dX9_arrives_17 : decode cX9_arrives 17 = .ok (.aload_n 0, 1) := by decide +kernel
theorem dX9_arrives_18 : decode cX9_arrives 18 = .ok (.iload 4, 2) := by decide +kernel
theorem dX9_arrives_20 : decode cX9_arrives 20 = .ok (.iload 4, 2) := by decide +kernel
theorem dX9_arrives_22 : decode cX9_arrives 22 = .ok (.iload_n 2, 1) := by decide +kernel
theorem dX9_arrives_23 : decode cX9_arrives 23 = .ok (.if_icmp .ne 7, 3) := by decide +kernel
theorem dX9_arrives_26 : decode cX9_arrives 26 = .ok (.iconst 0, 1) := by decide +kernel
theorem dX9_arrives_27 : decode cX9_arrives 27 = .ok (.goto 14, 3) := by decide +kernel
theorem dX9_arrives_30 : decode cX9_arrives 30 = .ok (.aload_n 0, 1) := by decide +kernel
theorem dX9_arrives_31 : decode cX9_arrives 31 = .ok (.getfield 7, 3) := by decide +kernel
theorem dX9_arrives_34 : decode cX9_arrives 34 = .ok (.sipush 180, 3) := by decide +kernel
theorem dX9_arrives_37 : decode cX9_arrives 37 = .ok (.iload 4, 2) := by decide +kernel
theorem dX9_arrives_39 : decode cX9_arrives 39 = .ok (.iadd, 1) := by decide +kernel
theorem dX9_arrives_40 : decode cX9_arrives 40 = .ok (.iaload, 1) := by decide +kernel
theorem dX9_arrives_41 : decode cX9_arrives 41 = .ok (.invokevirtual 79, 3) := by decide +kernel
theorem dX9_arrives_44 : decode cX9_arrives 44 = .ok (.iload_n 3, 1) := by decide +kernel
theorem dX9_arrives_45 : decode cX9_arrives 45 = .ok (.aload_n 0, 1) := by decide +kernel
theorem dX9_arrives_46 : decode cX9_arrives 46 = .ok (.getfield 76, 3) := by decide +kernel
theorem dX9_arrives_49 : decode cX9_arrives 49 = .ok (.iadd, 1) := by decide +kernel
theorem dX9_arrives_50 : decode cX9_arrives 50 = .ok (.istore_n 3, 1) := by decide +kernel
theorem dX9_arrives_51 : decode cX9_arrives 51 = .ok (.iinc 4 1, 3) := by decide +kernel
theorem dX9_arrives_54 : decode cX9_arrives 54 = .ok (.goto (-44), 3) := by decide +kernel
theorem dX9_arrives_57 : decode cX9_arrives 57 = .ok (.aload_n 0, 1) := by decide +kernel
theorem dX9_arrives_58 : decode cX9_arrives 58 = .ok (.iload_n 3, 1) := by decide +kernel
theorem dX9_arrives_59 : decode cX9_arrives 59 = .ok (.putfield 76, 3) := by decide +kernel
theorem dX9_arrives_62 : decode cX9_arrives 62 = .ok (.aload_n 0, 1) := by decide +kernel
theorem dX9_arrives_63 : decode cX9_arrives 63 = .ok (.getfield 70, 3) := by decide +kernel
theorem dX9_arrives_66 : decode cX9_arrives 66 = .ok (.ireturn, 1) := by decide +kernel
set_option maxRecDepth 20000 in
theorem ggX9_worst_X9_ranked : GoodIn wsX9_worst wsX9_ranked := goodIn_r _ [6, 1, 32, 33, 34, 35, 36, 37, 38, 39, 40, 41, 42, 43, 44, 45, 46, 47, 48, 49, 50, 51, 52, 53] (by decide +kernel) (by decide +kernel)
set_option maxRecDepth 20000 in
theorem gX9_worst_X9_ranked : GoodIn wsX9_worst (wsV RX9 83 RX9 yX9_ranked wsX9_ranked) := goodIn_app (goodIn_of _ (by decide +kernel)) ggX9_worst_X9_ranked
set_option maxRecDepth 20000 in
theorem ggX9_worst_X9_arrives : GoodIn wsX9_worst wsX9_arrives := goodIn_r _ [10, 1, 11, 12, 13, 14, 15, 5, 16, 17, 18, 19, 20, 21, 22, 23, 24, 25, 26, 27, 28, 29, 30, 31, 32, 33, 34, 35, 36, 37, 38, 39, 40, 41, 42, 43, 44, 45, 46, 47, 48, 49, 50, 51, 52, 53] (by decide +kernel) (by decide +kernel)
set_option maxRecDepth 20000 in
theorem gX9_worst_X9_arrives : GoodIn wsX9_worst (wsV RX9 196 RX9 yX9_arrives wsX9_arrives) := goodIn_app (goodIn_of _ (by decide +kernel)) ggX9_worst_X9_arrives
theorem dX9_worst_0 : decode cX9_worst 0 = .ok (.aload_n 0, 1) := by decide +kernel
theorem dX9_worst_1 : decode cX9_worst 1 = .ok (.getfield 7, 3) := by decide +kernel
theorem dX9_worst_4 : decode cX9_worst 4 = .ok (.sipush 304, 3) := by decide +kernel
theorem dX9_worst_7 : decode cX9_worst 7 = .ok (.iaload, 1) := by decide +kernel
theorem dX9_worst_8 : decode cX9_worst 8 = .ok (.ifCond .ne 5, 3) := by decide +kernel
theorem dX9_worst_11 : decode cX9_worst 11 = .ok (.iconst (-1), 1) := by decide +kernel
theorem dX9_worst_12 : decode cX9_worst 12 = .ok (.ireturn, 1) := by decide +kernel
theorem dX9_worst_13 : decode cX9_worst 13 = .ok (.aload_n 0, 1) := by decide +kernel
theorem dX9_worst_14 : decode cX9_worst 14 = .ok (.iconst 0, 1) := by decide +kernel
theorem dX9_worst_15 : decode cX9_worst 15 = .ok (.invokevirtual 83, 3) := by decide +kernel
theorem dX9_worst_18 : decode cX9_worst 18 = .ok (.istore_n 1, 1) := by decide +kernel
theorem dX9_worst_19 : decode cX9_worst 19 = .ok (.aload_n 0, 1) := by decide +kernel
theorem dX9_worst_20 : decode cX9_worst 20 = .ok (.iload_n 1, 1) := by decide +kernel
theorem dX9_worst_21 : decode cX9_worst 21 = .ok (.iconst (-1), 1) := by decide +kernel
theorem dX9_worst_22 : decode cX9_worst 22 = .ok (.invokevirtual 196, 3) := by decide +kernel
theorem dX9_worst_25 : decode cX9_worst 25 = .ok (.istore_n 2, 1) := by decide +kernel
theorem dX9_worst_26 : decode cX9_worst 26 = .ok (.iconst (-1), 1) := by decide +kernel
theorem dX9_worst_27 : decode cX9_worst 27 = .ok (.istore_n 3, 1) := by decide +kernel
theorem dX9_worst_28 : decode cX9_worst 28 = .ok (.iconst 0, 1) := by decide +kernel
theorem dX9_worst_29 : decode cX9_worst 29 = .ok (.istore 4, 2) := by decide +kernel
theorem dX9_worst_31 : decode cX9_worst 31 = .ok (.iload 4, 2) := by decide +kernel
theorem dX9_worst_33 : decode cX9_worst 33 = .ok (.bipush 6, 2) := by decide +kernel
theorem dX9_worst_35 : decode cX9_worst 35 = .ok (.if_icmp .ge 44, 3) := by decide +kernel
theorem dX9_worst_38 : decode cX9_worst 38 = .ok (.aload_n 0, 1) := by decide +kernel
theorem dX9_worst_39 : decode cX9_worst 39 = .ok (.iload_n 1, 1) := by decide +kernel
theorem dX9_worst_40 : decode cX9_worst 40 = .ok (.iload 4, 2) := by decide +kernel
theorem dX9_worst_42 : decode cX9_worst 42 = .ok (.invokevirtual 196, 3) := by decide +kernel
theorem dX9_worst_45 : decode cX9_worst 45 = .ok (.istore 5, 2) := by decide +kernel
theorem dX9_worst_47 : decode cX9_worst 47 = .ok (.iload 5, 2) := by decide +kernel
theorem dX9_worst_49 : decode cX9_worst 49 = .ok (.iload_n 2, 1) := by decide +kernel
theorem dX9_worst_50 : decode cX9_worst 50 = .ok (.if_icmp .le 8, 3) := by decide +kernel
theorem dX9_worst_53 : decode cX9_worst 53 = .ok (.iload 4, 2) := by decide +kernel
theorem dX9_worst_55 : decode cX9_worst 55 = .ok (.goto 4, 3) := by decide +kernel
theorem dX9_worst_58 : decode cX9_worst 58 = .ok (.iload_n 3, 1) := by decide +kernel
theorem dX9_worst_59 : decode cX9_worst 59 = .ok (.istore_n 3, 1) := by decide +kernel
theorem dX9_worst_60 : decode cX9_worst 60 = .ok (.iload 5, 2) := by decide +kernel
theorem dX9_worst_62 : decode cX9_worst 62 = .ok (.iload_n 2, 1) := by decide +kernel
theorem dX9_worst_63 : decode cX9_worst 63 = .ok (.if_icmp .le 8, 3) := by decide +kernel
theorem dX9_worst_66 : decode cX9_worst 66 = .ok (.iload 5, 2) := by decide +kernel
theorem dX9_worst_68 : decode cX9_worst 68 = .ok (.goto 4, 3) := by decide +kernel
theorem dX9_worst_71 : decode cX9_worst 71 = .ok (.iload_n 2, 1) := by decide +kernel
theorem dX9_worst_72 : decode cX9_worst 72 = .ok (.istore_n 2, 1) := by decide +kernel
theorem dX9_worst_73 : decode cX9_worst 73 = .ok (.iinc 4 1, 3) := by decide +kernel
theorem dX9_worst_76 : decode cX9_worst 76 = .ok (.goto (-45), 3) := by decide +kernel
theorem dX9_worst_79 : decode cX9_worst 79 = .ok (.iload_n 3, 1) := by decide +kernel
theorem dX9_worst_80 : decode cX9_worst 80 = .ok (.ireturn, 1) := by decide +kernel
set_option maxRecDepth 20000 in
theorem ggX9_worstEar_X9_worst : GoodIn wsX9_worstEar wsX9_worst := goodIn_r _ [6, 7, 8, 9, 10, 5, 11, 12, 13, 14, 15, 16, 17, 18, 19, 20, 21, 22, 23, 24, 25, 26, 27, 28, 29, 30, 31, 32, 33, 34, 35, 36, 37, 38, 39, 40, 41, 42, 43, 44, 45, 46, 47, 48, 49, 50, 51, 52, 53, 54, 55, 56, 57, 58] (by decide +kernel) (by decide +kernel)
set_option maxRecDepth 20000 in
theorem gX9_worstEar_X9_worst : GoodIn wsX9_worstEar (wsV RX9 199 RX9 yX9_worst wsX9_worst) := goodIn_app (goodIn_of _ (by decide +kernel)) ggX9_worstEar_X9_worst
theorem dX9_worstEar_0 : decode cX9_worstEar 0 = .ok (.aload_n 0, 1) := by decide +kernel
theorem dX9_worstEar_1 : decode cX9_worstEar 1 = .ok (.iconst 0, 1) := by decide +kernel
theorem dX9_worstEar_2 : decode cX9_worstEar 2 = .ok (.putfield 31, 3) := by decide +kernel
theorem dX9_worstEar_5 : decode cX9_worstEar 5 = .ok (.aload_n 0, 1) := by decide +kernel
theorem dX9_worstEar_6 : decode cX9_worstEar 6 = .ok (.invokevirtual 199, 3) := by decide +kernel
theorem dX9_worstEar_9 : decode cX9_worstEar 9 = .ok (.ireturn, 1) := by decide +kernel
set_option maxRecDepth 20000 in
theorem ggX9_allCosts_X9_arrives : GoodIn wsX9_allCosts wsX9_arrives := goodIn_r _ [7, 1, 2, 8, 9, 10, 11, 6, 12, 13, 14, 15, 16, 17, 18, 19, 20, 21, 22, 23, 24, 25, 26, 27, 28, 29, 30, 31, 32, 33, 34, 35, 36, 37, 38, 39, 40, 41, 42, 43, 44, 45, 46, 47, 48, 49] (by decide +kernel) (by decide +kernel)
set_option maxRecDepth 20000 in
theorem gX9_allCosts_X9_arrives : GoodIn wsX9_allCosts (wsV RX9 196 RX9 yX9_arrives wsX9_arrives) := goodIn_app (goodIn_of _ (by decide +kernel)) ggX9_allCosts_X9_arrives
theorem dX9_allCosts_0 : decode cX9_allCosts 0 = .ok (.iconst 0, 1) := by decide +kernel
theorem dX9_allCosts_1 : decode cX9_allCosts 1 = .ok (.istore_n 1, 1) := by decide +kernel
theorem dX9_allCosts_2 : decode cX9_allCosts 2 = .ok (.iconst 0, 1) := by decide +kernel
theorem dX9_allCosts_3 : decode cX9_allCosts 3 = .ok (.istore_n 2, 1) := by decide +kernel
theorem dX9_allCosts_4 : decode cX9_allCosts 4 = .ok (.iload_n 2, 1) := by decide +kernel
theorem dX9_allCosts_5 : decode cX9_allCosts 5 = .ok (.aload_n 0, 1) := by decide +kernel
theorem dX9_allCosts_6 : decode cX9_allCosts 6 = .ok (.getfield 7, 3) := by decide +kernel
theorem dX9_allCosts_9 : decode cX9_allCosts 9 = .ok (.sipush 304, 3) := by decide +kernel
theorem dX9_allCosts_12 : decode cX9_allCosts 12 = .ok (.iaload, 1) := by decide +kernel
theorem dX9_allCosts_13 : decode cX9_allCosts 13 = .ok (.if_icmp .ge 23, 3) := by decide +kernel
theorem dX9_allCosts_16 : decode cX9_allCosts 16 = .ok (.aload_n 0, 1) := by decide +kernel
theorem dX9_allCosts_17 : decode cX9_allCosts 17 = .ok (.iload_n 2, 1) := by decide +kernel
theorem dX9_allCosts_18 : decode cX9_allCosts 18 = .ok (.iconst (-1), 1) := by decide +kernel
theorem dX9_allCosts_19 : decode cX9_allCosts 19 = .ok (.invokevirtual 196, 3) := by decide +kernel
theorem dX9_allCosts_22 : decode cX9_allCosts 22 = .ok (.istore_n 3, 1) := by decide +kernel
theorem dX9_allCosts_23 : decode cX9_allCosts 23 = .ok (.iload_n 1, 1) := by decide +kernel
theorem dX9_allCosts_24 : decode cX9_allCosts 24 = .ok (.aload_n 0, 1) := by decide +kernel
theorem dX9_allCosts_25 : decode cX9_allCosts 25 = .ok (.getfield 76, 3) := by decide +kernel
theorem dX9_allCosts_28 : decode cX9_allCosts 28 = .ok (.iadd, 1) := by decide +kernel
theorem dX9_allCosts_29 : decode cX9_allCosts 29 = .ok (.istore_n 1, 1) := by decide +kernel
theorem dX9_allCosts_30 : decode cX9_allCosts 30 = .ok (.iinc 2 1, 3) := by decide +kernel
theorem dX9_allCosts_33 : decode cX9_allCosts 33 = .ok (.goto (-29), 3) := by decide +kernel
theorem dX9_allCosts_36 : decode cX9_allCosts 36 = .ok (.iload_n 1, 1) := by decide +kernel
theorem dX9_allCosts_37 : decode cX9_allCosts 37 = .ok (.ireturn, 1) := by decide +kernel
set_option maxRecDepth 20000 in
theorem ggX9_costs_X9_allCosts : GoodIn wsX9_costs wsX9_allCosts := goodIn_r _ [6, 7, 8, 9, 10, 11, 5, 12, 13, 14, 15, 16, 17, 18, 19, 20, 21, 22, 23, 24, 25, 26, 27, 28, 29, 30, 31, 32, 33, 34, 35, 36, 37, 38, 39, 40, 41, 42, 43, 44, 45, 46, 47, 48, 49, 50, 51, 52, 53, 54] (by decide +kernel) (by decide +kernel)
set_option maxRecDepth 20000 in
theorem gX9_costs_X9_allCosts : GoodIn wsX9_costs (wsV RX9 202 RX9 yX9_allCosts wsX9_allCosts) := goodIn_app (goodIn_of _ (by decide +kernel)) ggX9_costs_X9_allCosts
theorem dX9_costs_0 : decode cX9_costs 0 = .ok (.aload_n 0, 1) := by decide +kernel
theorem dX9_costs_1 : decode cX9_costs 1 = .ok (.iconst 0, 1) := by decide +kernel
theorem dX9_costs_2 : decode cX9_costs 2 = .ok (.putfield 31, 3) := by decide +kernel
theorem dX9_costs_5 : decode cX9_costs 5 = .ok (.aload_n 0, 1) := by decide +kernel
theorem dX9_costs_6 : decode cX9_costs 6 = .ok (.invokevirtual 202, 3) := by decide +kernel
theorem dX9_costs_9 : decode cX9_costs 9 = .ok (.ireturn, 1) := by decide +kernel
theorem dX9_share_0 : decode cX9_share 0 = .ok (.aload_n 0, 1) := by decide +kernel
theorem dX9_share_1 : decode cX9_share 1 = .ok (.getfield 7, 3) := by decide +kernel
theorem dX9_share_4 : decode cX9_share 4 = .ok (.sipush 305, 3) := by decide +kernel
theorem dX9_share_7 : decode cX9_share 7 = .ok (.iaload, 1) := by decide +kernel
theorem dX9_share_8 : decode cX9_share 8 = .ok (.ifCond .ne 7, 3) := by decide +kernel
theorem dX9_share_11 : decode cX9_share 11 = .ok (.dconst 1, 1) := by decide +kernel
theorem dX9_share_12 : decode cX9_share 12 = .ok (.goto 31, 3) := by decide +kernel
theorem dX9_share_15 : decode cX9_share 15 = .ok (.aload_n 0, 1) := by decide +kernel
theorem dX9_share_16 : decode cX9_share 16 = .ok (.getfield 7, 3) := by decide +kernel
theorem dX9_share_19 : decode cX9_share 19 = .ok (.sipush 305, 3) := by decide +kernel
theorem dX9_share_22 : decode cX9_share 22 = .ok (.iaload, 1) := by decide +kernel
theorem dX9_share_23 : decode cX9_share 23 = .ok (.aload_n 0, 1) := by decide +kernel
theorem dX9_share_24 : decode cX9_share 24 = .ok (.getfield 7, 3) := by decide +kernel
theorem dX9_share_27 : decode cX9_share 27 = .ok (.sipush 409, 3) := by decide +kernel
theorem dX9_share_30 : decode cX9_share 30 = .ok (.iaload, 1) := by decide +kernel
theorem dX9_share_31 : decode cX9_share 31 = .ok (.isub, 1) := by decide +kernel
theorem dX9_share_32 : decode cX9_share 32 = .ok (.i2d, 1) := by decide +kernel
theorem dX9_share_33 : decode cX9_share 33 = .ok (.aload_n 0, 1) := by decide +kernel
theorem dX9_share_34 : decode cX9_share 34 = .ok (.getfield 7, 3) := by decide +kernel
theorem dX9_share_37 : decode cX9_share 37 = .ok (.sipush 305, 3) := by decide +kernel
theorem dX9_share_40 : decode cX9_share 40 = .ok (.iaload, 1) := by decide +kernel
theorem dX9_share_41 : decode cX9_share 41 = .ok (.i2d, 1) := by decide +kernel
theorem dX9_share_42 : decode cX9_share 42 = .ok (.ddiv, 1) := by decide +kernel
theorem dX9_share_43 : decode cX9_share 43 = .ok (.dreturn, 1) := by decide +kernel
set_option maxRecDepth 20000 in
theorem ggX9_throughShare_X9_share : GoodIn wsX9_throughShare wsX9_share := goodIn_r _ [6, 7, 8, 9, 10, 11, 12, 13, 14, 15, 16, 17, 18, 19, 20, 21, 22, 23, 24, 25, 26, 27, 28, 29] (by decide +kernel) (by decide +kernel)
set_option maxRecDepth 20000 in
theorem gX9_throughShare_X9_share : GoodIn wsX9_throughShare (wsV RX9 205 RX9 yX9_share wsX9_share) := goodIn_app (goodIn_of _ (by decide +kernel)) ggX9_throughShare_X9_share
theorem dX9_throughShare_0 : decode cX9_throughShare 0 = .ok (.aload_n 0, 1) := by decide +kernel
theorem dX9_throughShare_1 : decode cX9_throughShare 1 = .ok (.iconst 0, 1) := by decide +kernel
theorem dX9_throughShare_2 : decode cX9_throughShare 2 = .ok (.putfield 31, 3) := by decide +kernel
theorem dX9_throughShare_5 : decode cX9_throughShare 5 = .ok (.aload_n 0, 1) := by decide +kernel
theorem dX9_throughShare_6 : decode cX9_throughShare 6 = .ok (.invokevirtual 205, 3) := by decide +kernel
theorem dX9_throughShare_9 : decode cX9_throughShare 9 = .ok (.dreturn, 1) := by decide +kernel
set_option maxRecDepth 20000 in
theorem ggX9_digest_X9_counts : GoodIn wsX9_digest wsX9_counts := goodIn_r _ [11, 4, 12, 13, 14, 15, 10, 16, 122, 123, 124, 125, 126, 127, 128, 129, 130, 131, 132, 133, 134, 135, 136, 137, 138, 139, 140, 141, 142, 143] (by decide +kernel) (by decide +kernel)
set_option maxRecDepth 20000 in
theorem gX9_digest_X9_counts : GoodIn wsX9_digest (wsV RX9 184 RX9 yX9_counts wsX9_counts) := goodIn_app (goodIn_of _ (by decide +kernel)) ggX9_digest_X9_counts
set_option maxRecDepth 20000 in
theorem ggX9_digest_X9_ofLink : GoodIn wsX9_digest wsX9_ofLink := goodIn_r _ [20, 4, 21, 22, 23, 10, 24, 25, 26, 27, 28, 29, 30, 31, 32, 33, 34, 35, 36, 122, 123, 124, 125, 126, 127, 128, 129, 130, 131, 132, 133, 134, 135, 136, 137, 138, 139, 140, 141, 142, 143] (by decide +kernel) (by decide +kernel)
set_option maxRecDepth 20000 in
theorem gX9_digest_X9_ofLink : GoodIn wsX9_digest (wsV RX9 172 RX9 yX9_ofLink wsX9_ofLink) := goodIn_app (goodIn_of _ (by decide +kernel)) ggX9_digest_X9_ofLink
set_option maxRecDepth 20000 in
theorem ggX9_digest_X9_gone : GoodIn wsX9_digest wsX9_gone := goodIn_r _ [40, 4, 41, 42, 43, 44, 45, 46, 10, 47, 48, 49, 50, 51, 52, 53, 54, 55, 56, 57, 25, 26, 27, 28, 33, 34, 35, 36, 58, 59, 60, 61, 122, 123, 124, 125, 126, 127, 128, 129, 130, 131, 132, 133, 134, 135, 136, 137, 138, 139, 140, 141, 142, 143] (by decide +kernel) (by decide +kernel)
set_option maxRecDepth 20000 in
theorem gX9_digest_X9_gone : GoodIn wsX9_digest (wsV RX9 193 RX9 yX9_gone wsX9_gone) := goodIn_app (goodIn_of _ (by decide +kernel)) ggX9_digest_X9_gone
set_option maxRecDepth 20000 in
theorem ggX9_digest_X9_meanings : GoodIn wsX9_digest wsX9_meanings := goodIn_r _ [65, 25, 26, 27, 10, 28, 4, 33, 34, 35, 36, 122, 123, 124, 125, 126, 127, 128, 129, 130, 131, 132, 133, 134, 135, 136, 137, 138, 139, 140, 141, 142, 143] (by decide +kernel) (by decide +kernel)
set_option maxRecDepth 20000 in
theorem gX9_digest_X9_meanings : GoodIn wsX9_digest (wsV RX9 163 RX9 yX9_meanings wsX9_meanings) := goodIn_app (goodIn_of _ (by decide +kernel)) ggX9_digest_X9_meanings
set_option maxRecDepth 20000 in
theorem ggX9_digest_X9_waiting : GoodIn wsX9_digest wsX9_waiting := goodIn_r _ [69, 4, 44, 45, 46, 10, 47, 122, 123, 124, 125, 126, 127, 128, 129, 130, 131, 132, 133, 134, 135, 136, 137, 138, 139, 140, 141, 142, 143] (by decide +kernel) (by decide +kernel)
set_option maxRecDepth 20000 in
theorem gX9_digest_X9_waiting : GoodIn wsX9_digest (wsV RX9 175 RX9 yX9_waiting wsX9_waiting) := goodIn_app (goodIn_of _ (by decide +kernel)) ggX9_digest_X9_waiting
set_option maxRecDepth 20000 in
theorem ggX9_digest_X9_arrived : GoodIn wsX9_digest wsX9_arrived := goodIn_r _ [73, 74, 75, 76, 10, 77, 4, 122, 123, 124, 125, 126, 127, 128, 129, 130, 131, 132, 133, 134, 135, 136, 137, 138, 139, 140, 141, 142, 143] (by decide +kernel) (by decide +kernel)
set_option maxRecDepth 20000 in
theorem gX9_digest_X9_arrived : GoodIn wsX9_digest (wsV RX9 178 RX9 yX9_arrived wsX9_arrived) := goodIn_app (goodIn_of _ (by decide +kernel)) ggX9_digest_X9_arrived
set_option maxRecDepth 20000 in
theorem ggX9_digest_X9_character : GoodIn wsX9_digest wsX9_character := goodIn_r _ [81, 74, 75, 76, 10, 77, 4, 122, 123, 124, 125, 126, 127, 128, 129, 130, 131, 132, 133, 134, 135, 136, 137, 138, 139, 140, 141, 142, 143] (by decide +kernel) (by decide +kernel)
set_option maxRecDepth 20000 in
theorem gX9_digest_X9_character : GoodIn wsX9_digest (wsV RX9 157 RX9 yX9_character wsX9_character) := goodIn_app (goodIn_of _ (by decide +kernel)) ggX9_digest_X9_character
set_option maxRecDepth 20000 in
theorem ggX9_digest_X9_losing : GoodIn wsX9_digest wsX9_losing := goodIn_r _ [85, 4, 122, 123, 124, 125, 126, 127, 128, 129, 130, 131, 132, 133, 134, 135, 136, 137, 138, 139, 140, 141, 142, 143] (by decide +kernel) (by decide +kernel)
set_option maxRecDepth 20000 in
theorem gX9_digest_X9_losing : GoodIn wsX9_digest (wsV RX9 187 RX9 yX9_losing wsX9_losing) := goodIn_app (goodIn_of _ (by decide +kernel)) ggX9_digest_X9_losing
set_option maxRecDepth 20000 in
theorem ggX9_digest_X9_lostOf : GoodIn wsX9_digest wsX9_lostOf := goodIn_r _ [89, 41, 52, 57, 53, 54, 55, 10, 56, 43, 4, 42, 25, 26, 27, 28, 33, 34, 35, 36, 122, 123, 124, 125, 126, 127, 128, 129, 130, 131, 132, 133, 134, 135, 136, 137, 138, 139, 140, 141, 142, 143] (by decide +kernel) (by decide +kernel)
set_option maxRecDepth 20000 in
theorem gX9_digest_X9_lostOf : GoodIn wsX9_digest (wsV RX9 95 RX9 yX9_lostOf wsX9_lostOf) := goodIn_app (goodIn_of _ (by decide +kernel)) ggX9_digest_X9_lostOf
set_option maxRecDepth 20000 in
theorem ggX9_digest_X9_stop : GoodIn wsX9_digest wsX9_stop := goodIn_r _ [93, 4, 122, 123, 124, 125, 126, 127, 128, 129, 130, 131, 132, 133, 134, 135, 136, 137, 138, 139, 140, 141, 142, 143] (by decide +kernel) (by decide +kernel)
set_option maxRecDepth 20000 in
theorem gX9_digest_X9_stop : GoodIn wsX9_digest (wsV RX9 151 RX9 yX9_stop wsX9_stop) := goodIn_app (goodIn_of _ (by decide +kernel)) ggX9_digest_X9_stop
set_option maxRecDepth 20000 in
theorem ggX9_digest_X9_worst : GoodIn wsX9_digest wsX9_worst := goodIn_r _ [97, 4, 44, 45, 46, 10, 47, 98, 99, 100, 101, 42, 41, 48, 49, 50, 51, 52, 53, 54, 55, 56, 43, 57, 25, 26, 27, 28, 33, 34, 35, 36, 122, 123, 124, 125, 126, 127, 128, 129, 130, 131, 132, 133, 134, 135, 136, 137, 138, 139, 140, 141, 142, 143] (by decide +kernel) (by decide +kernel)
set_option maxRecDepth 20000 in
theorem gX9_digest_X9_worst : GoodIn wsX9_digest (wsV RX9 199 RX9 yX9_worst wsX9_worst) := goodIn_app (goodIn_of _ (by decide +kernel)) ggX9_digest_X9_worst
set_option maxRecDepth 20000 in
theorem ggX9_digest_X9_allCosts : GoodIn wsX9_digest wsX9_allCosts := goodIn_r _ [105, 4, 42, 98, 99, 100, 10, 101, 41, 48, 49, 50, 51, 52, 53, 54, 55, 56, 43, 57, 25, 26, 27, 28, 33, 34, 35, 36, 122, 123, 124, 125, 126, 127, 128, 129, 130, 131, 132, 133, 134, 135, 136, 137, 138, 139, 140, 141, 142, 143] (by decide +kernel) (by decide +kernel)
set_option maxRecDepth 20000 in
theorem gX9_digest_X9_allCosts : GoodIn wsX9_digest (wsV RX9 202 RX9 yX9_allCosts wsX9_allCosts) := goodIn_app (goodIn_of _ (by decide +kernel)) ggX9_digest_X9_allCosts
set_option maxRecDepth 20000 in
theorem ggX9_digest_X9_share : GoodIn wsX9_digest wsX9_share := goodIn_r _ [109, 4, 122, 123, 124, 125, 126, 127, 128, 129, 130, 131, 132, 133, 134, 135, 136, 137, 138, 139, 140, 141, 142, 143] (by decide +kernel) (by decide +kernel)
set_option maxRecDepth 20000 in
theorem gX9_digest_X9_share : GoodIn wsX9_digest (wsV RX9 205 RX9 yX9_share wsX9_share) := goodIn_app (goodIn_of _ (by decide +kernel)) ggX9_digest_X9_share
set_option maxRecDepth 20000 in
theorem ggX9_digest_Jxe99ae_doubleToLongBits_ccdee : GoodIn wsX9_digest wsJxe99ae_doubleToLongBits_ccdee := goodIn_r _ [113, 114, 115, 116, 117, 118, 119, 120, 112, 121] (by decide +kernel) (by decide +kernel)
set_option maxRecDepth 20000 in
theorem gX9_digest_Jxe99ae_doubleToLongBits_ccdee : GoodIn wsX9_digest (va_wsS RX9 213 yJxe99ae_doubleToLongBits_ccdee wsJxe99ae_doubleToLongBits_ccdee) := goodIn_app (goodIn_of _ (by decide +kernel)) ggX9_digest_Jxe99ae_doubleToLongBits_ccdee
theorem dX9_digest_0 : decode cX9_digest 0 = .ok (.aload_n 0, 1) := by decide +kernel
theorem dX9_digest_1 : decode cX9_digest 1 = .ok (.iconst 0, 1) := by decide +kernel
theorem dX9_digest_2 : decode cX9_digest 2 = .ok (.putfield 31, 3) := by decide +kernel
theorem dX9_digest_5 : decode cX9_digest 5 = .ok (.ldc2_w 209, 3) := by decide +kernel
theorem dX9_digest_8 : decode cX9_digest 8 = .ok (.lstore_n 1, 1) := by decide +kernel
theorem dX9_digest_9 : decode cX9_digest 9 = .ok (.iconst 0, 1) := by decide +kernel
theorem dX9_digest_10 : decode cX9_digest 10 = .ok (.istore_n 3, 1) := by decide +kernel
theorem dX9_digest_11 : decode cX9_digest 11 = .ok (.iload_n 3, 1) := by decide +kernel
theorem dX9_digest_12 : decode cX9_digest 12 = .ok (.bipush 7, 2) := by decide +kernel
theorem dX9_digest_14 : decode cX9_digest 14 = .ok (.if_icmp .ge 22, 3) := by decide +kernel
theorem dX9_digest_17 : decode cX9_digest 17 = .ok (.ldc2_w 211, 3) := by decide +kernel
theorem dX9_digest_20 : decode cX9_digest 20 = .ok (.lload_n 1, 1) := by decide +kernel
theorem dX9_digest_21 : decode cX9_digest 21 = .ok (.lmul, 1) := by decide +kernel
theorem dX9_digest_22 : decode cX9_digest 22 = .ok (.aload_n 0, 1) := by decide +kernel
theorem dX9_digest_23 : decode cX9_digest 23 = .ok (.iload_n 3, 1) := by decide +kernel
theorem dX9_digest_24 : decode cX9_digest 24 = .ok (.invokevirtual 184, 3) := by decide +kernel
theorem dX9_digest_27 : decode cX9_digest 27 = .ok (.i2l, 1) := by decide +kernel
theorem dX9_digest_28 : decode cX9_digest 28 = .ok (.ladd, 1) := by decide +kernel
theorem dX9_digest_29 : decode cX9_digest 29 = .ok (.lstore_n 1, 1) := by decide +kernel
theorem dX9_digest_30 : decode cX9_digest 30 = .ok (.iinc 3 1, 3) := by decide +kernel
theorem dX9_digest_33 : decode cX9_digest 33 = .ok (.goto (-22), 3) := by decide +kernel
theorem dX9_digest_36 : decode cX9_digest 36 = .ok (.iconst 0, 1) := by decide +kernel
theorem dX9_digest_37 : decode cX9_digest 37 = .ok (.istore_n 3, 1) := by decide +kernel
theorem dX9_digest_38 : decode cX9_digest 38 = .ok (.iload_n 3, 1) := by decide +kernel
theorem dX9_digest_39 : decode cX9_digest 39 = .ok (.bipush 6, 2) := by decide +kernel
theorem dX9_digest_41 : decode cX9_digest 41 = .ok (.if_icmp .ge 118, 3) := by decide +kernel
theorem dX9_digest_44 : decode cX9_digest 44 = .ok (.iconst 0, 1) := by decide +kernel
theorem dX9_digest_45 : decode cX9_digest 45 = .ok (.istore 4, 2) := by decide +kernel
theorem dX9_digest_47 : decode cX9_digest 47 = .ok (.iload 4, 2) := by decide +kernel
theorem dX9_digest_49 : decode cX9_digest 49 = .ok (.bipush 7, 2) := by decide +kernel
theorem dX9_digest_51 : decode cX9_digest 51 = .ok (.if_icmp .ge 24, 3) := by decide +kernel
theorem dX9_digest_54 : decode cX9_digest 54 = .ok (.ldc2_w 211, 3) := by decide +kernel
theorem dX9_digest_57 : decode cX9_digest 57 = .ok (.lload_n 1, 1) := by decide +kernel
theorem dX9_digest_58 : decode cX9_digest 58 = .ok (.lmul, 1) := by decide +kernel
theorem dX9_digest_59 : decode cX9_digest 59 = .ok (.aload_n 0, 1) := by decide +kernel
theorem dX9_digest_60 : decode cX9_digest 60 = .ok (.iload_n 3, 1) := by decide +kernel
theorem dX9_digest_61 : decode cX9_digest 61 = .ok (.iload 4, 2) := by decide +kernel
theorem dX9_digest_63 : decode cX9_digest 63 = .ok (.invokevirtual 172, 3) := by decide +kernel
theorem dX9_digest_66 : decode cX9_digest 66 = .ok (.i2l, 1) := by decide +kernel
theorem dX9_digest_67 : decode cX9_digest 67 = .ok (.ladd, 1) := by decide +kernel
theorem dX9_digest_68 : decode cX9_digest 68 = .ok (.lstore_n 1, 1) := by decide +kernel
theorem dX9_digest_69 : decode cX9_digest 69 = .ok (.iinc 4 1, 3) := by decide +kernel
theorem dX9_digest_72 : decode cX9_digest 72 = .ok (.goto (-25), 3) := by decide +kernel
theorem dX9_digest_75 : decode cX9_digest 75 = .ok (.iconst 0, 1) := by decide +kernel
theorem dX9_digest_76 : decode cX9_digest 76 = .ok (.istore 4, 2) := by decide +kernel
theorem dX9_digest_78 : decode cX9_digest 78 = .ok (.iload 4, 2) := by decide +kernel
theorem dX9_digest_80 : decode cX9_digest 80 = .ok (.iconst 4, 1) := by decide +kernel
theorem dX9_digest_81 : decode cX9_digest 81 = .ok (.if_icmp .ge 24, 3) := by decide +kernel
theorem dX9_digest_84 : decode cX9_digest 84 = .ok (.ldc2_w 211, 3) := by decide +kernel
theorem dX9_digest_87 : decode cX9_digest 87 = .ok (.lload_n 1, 1) := by decide +kernel
theorem dX9_digest_88 : decode cX9_digest 88 = .ok (.lmul, 1) := by decide +kernel
theorem dX9_digest_89 : decode cX9_digest 89 = .ok (.aload_n 0, 1) := by decide +kernel
theorem dX9_digest_90 : decode cX9_digest 90 = .ok (.iload_n 3, 1) := by decide +kernel
theorem dX9_digest_91 : decode cX9_digest 91 = .ok (.iload 4, 2) := by decide +kernel
theorem dX9_digest_93 : decode cX9_digest 93 = .ok (.invokevirtual 193, 3) := by decide +kernel
theorem dX9_digest_96 : decode cX9_digest 96 = .ok (.i2l, 1) := by decide +kernel
theorem dX9_digest_97 : decode cX9_digest 97 = .ok (.ladd, 1) := by decide +kernel
theorem dX9_digest_98 : decode cX9_digest 98 = .ok (.lstore_n 1, 1) := by decide +kernel
theorem dX9_digest_99 : decode cX9_digest 99 = .ok (.iinc 4 1, 3) := by decide +kernel
theorem dX9_digest_102 : decode cX9_digest 102 = .ok (.goto (-24), 3) := by decide +kernel
theorem dX9_digest_105 : decode cX9_digest 105 = .ok (.iconst 0, 1) := by decide +kernel
theorem dX9_digest_106 : decode cX9_digest 106 = .ok (.istore 4, 2) := by decide +kernel
theorem dX9_digest_108 : decode cX9_digest 108 = .ok (.iload 4, 2) := by decide +kernel
theorem dX9_digest_110 : decode cX9_digest 110 = .ok (.bipush 30, 2) := by decide +kernel
theorem dX9_digest_112 : decode cX9_digest 112 = .ok (.if_icmp .ge 41, 3) := by decide +kernel
theorem dX9_digest_115 : decode cX9_digest 115 = .ok (.iconst 0, 1) := by decide +kernel
theorem dX9_digest_116 : decode cX9_digest 116 = .ok (.istore 5, 2) := by decide +kernel
theorem dX9_digest_118 : decode cX9_digest 118 = .ok (.iload 5, 2) := by decide +kernel
theorem dX9_digest_120 : decode cX9_digest 120 = .ok (.iconst 3, 1) := by decide +kernel
theorem dX9_digest_121 : decode cX9_digest 121 = .ok (.if_icmp .ge 26, 3) := by decide +kernel
theorem dX9_digest_124 : decode cX9_digest 124 = .ok (.ldc2_w 211, 3) := by decide +kernel
theorem dX9_digest_127 : decode cX9_digest 127 = .ok (.lload_n 1, 1) := by decide +kernel
theorem dX9_digest_128 : decode cX9_digest 128 = .ok (.lmul, 1) := by decide +kernel
theorem dX9_digest_129 : decode cX9_digest 129 = .ok (.aload_n 0, 1) := by decide +kernel
theorem dX9_digest_130 : decode cX9_digest 130 = .ok (.iload_n 3, 1) := by decide +kernel
theorem dX9_digest_131 : decode cX9_digest 131 = .ok (.iload 4, 2) := by decide +kernel
theorem dX9_digest_133 : decode cX9_digest 133 = .ok (.iload 5, 2) := by decide +kernel
theorem dX9_digest_135 : decode cX9_digest 135 = .ok (.invokevirtual 163, 3) := by decide +kernel
theorem dX9_digest_138 : decode cX9_digest 138 = .ok (.i2l, 1) := by decide +kernel
theorem dX9_digest_139 : decode cX9_digest 139 = .ok (.ladd, 1) := by decide +kernel
theorem dX9_digest_140 : decode cX9_digest 140 = .ok (.lstore_n 1, 1) := by decide +kernel
theorem dX9_digest_141 : decode cX9_digest 141 = .ok (.iinc 5 1, 3) := by decide +kernel
theorem dX9_digest_144 : decode cX9_digest 144 = .ok (.goto (-26), 3) := by decide +kernel
theorem dX9_digest_147 : decode cX9_digest 147 = .ok (.iinc 4 1, 3) := by decide +kernel
theorem dX9_digest_150 : decode cX9_digest 150 = .ok (.goto (-42), 3) := by decide +kernel
theorem dX9_digest_153 : decode cX9_digest 153 = .ok (.iinc 3 1, 3) := by decide +kernel
theorem dX9_digest_156 : decode cX9_digest 156 = .ok (.goto (-118), 3) := by decide +kernel
theorem dX9_digest_159 : decode cX9_digest 159 = .ok (.iconst 0, 1) := by decide +kernel
theorem dX9_digest_160 : decode cX9_digest 160 = .ok (.istore_n 3, 1) := by decide +kernel
theorem dX9_digest_161 : decode cX9_digest 161 = .ok (.iload_n 3, 1) := by decide +kernel
theorem dX9_digest_162 : decode cX9_digest 162 = .ok (.aload_n 0, 1) := by decide +kernel
theorem dX9_digest_163 : decode cX9_digest 163 = .ok (.getfield 7, 3) := by decide +kernel
theorem dX9_digest_166 : decode cX9_digest 166 = .ok (.sipush 304, 3) := by decide +kernel
theorem dX9_digest_169 : decode cX9_digest 169 = .ok (.iaload, 1) := by decide +kernel
theorem dX9_digest_170 : decode cX9_digest 170 = .ok (.if_icmp .ge 39, 3) := by decide +kernel
theorem dX9_digest_173 : decode cX9_digest 173 = .ok (.iconst 0, 1) := by decide +kernel
theorem dX9_digest_174 : decode cX9_digest 174 = .ok (.istore 4, 2) := by decide +kernel
theorem dX9_digest_176 : decode cX9_digest 176 = .ok (.iload 4, 2) := by decide +kernel
theorem dX9_digest_178 : decode cX9_digest 178 = .ok (.iconst 3, 1) := by decide +kernel
theorem dX9_digest_179 : decode cX9_digest 179 = .ok (.if_icmp .ge 24, 3) := by decide +kernel
theorem dX9_digest_182 : decode cX9_digest 182 = .ok (.ldc2_w 211, 3) := by decide +kernel
theorem dX9_digest_185 : decode cX9_digest 185 = .ok (.lload_n 1, 1) := by decide +kernel
theorem dX9_digest_186 : decode cX9_digest 186 = .ok (.lmul, 1) := by decide +kernel
theorem dX9_digest_187 : decode cX9_digest 187 = .ok (.aload_n 0, 1) := by decide +kernel
theorem dX9_digest_188 : decode cX9_digest 188 = .ok (.iload_n 3, 1) := by decide +kernel
theorem dX9_digest_189 : decode cX9_digest 189 = .ok (.iload 4, 2) := by decide +kernel
theorem dX9_digest_191 : decode cX9_digest 191 = .ok (.invokevirtual 175, 3) := by decide +kernel
theorem dX9_digest_194 : decode cX9_digest 194 = .ok (.i2l, 1) := by decide +kernel
theorem dX9_digest_195 : decode cX9_digest 195 = .ok (.ladd, 1) := by decide +kernel
theorem dX9_digest_196 : decode cX9_digest 196 = .ok (.lstore_n 1, 1) := by decide +kernel
theorem dX9_digest_197 : decode cX9_digest 197 = .ok (.iinc 4 1, 3) := by decide +kernel
theorem dX9_digest_200 : decode cX9_digest 200 = .ok (.goto (-24), 3) := by decide +kernel
theorem dX9_digest_203 : decode cX9_digest 203 = .ok (.iinc 3 1, 3) := by decide +kernel
theorem dX9_digest_206 : decode cX9_digest 206 = .ok (.goto (-45), 3) := by decide +kernel
theorem dX9_digest_209 : decode cX9_digest 209 = .ok (.iconst 0, 1) := by decide +kernel
theorem dX9_digest_210 : decode cX9_digest 210 = .ok (.istore_n 3, 1) := by decide +kernel
theorem dX9_digest_211 : decode cX9_digest 211 = .ok (.iload_n 3, 1) := by decide +kernel
theorem dX9_digest_212 : decode cX9_digest 212 = .ok (.aload_n 0, 1) := by decide +kernel
theorem dX9_digest_213 : decode cX9_digest 213 = .ok (.getfield 7, 3) := by decide +kernel
theorem dX9_digest_216 : decode cX9_digest 216 = .ok (.sipush 408, 3) := by decide +kernel
theorem dX9_digest_219 : decode cX9_digest 219 = .ok (.iaload, 1) := by decide +kernel
theorem dX9_digest_220 : decode cX9_digest 220 = .ok (.if_icmp .ge 75, 3) := by decide +kernel
theorem dX9_digest_223 : decode cX9_digest 223 = .ok (.iconst 0, 1) := by decide +kernel
theorem dX9_digest_224 : decode cX9_digest 224 = .ok (.istore 4, 2) := by decide +kernel
theorem dX9_digest_226 : decode cX9_digest 226 = .ok (.iload 4, 2) := by decide +kernel
theorem dX9_digest_228 : decode cX9_digest 228 = .ok (.bipush 6, 2) := by decide +kernel
theorem dX9_digest_230 : decode cX9_digest 230 = .ok (.if_icmp .ge 24, 3) := by decide +kernel
theorem dX9_digest_233 : decode cX9_digest 233 = .ok (.ldc2_w 211, 3) := by decide +kernel
theorem dX9_digest_236 : decode cX9_digest 236 = .ok (.lload_n 1, 1) := by decide +kernel
theorem dX9_digest_237 : decode cX9_digest 237 = .ok (.lmul, 1) := by decide +kernel
theorem dX9_digest_238 : decode cX9_digest 238 = .ok (.aload_n 0, 1) := by decide +kernel
theorem dX9_digest_239 : decode cX9_digest 239 = .ok (.iload_n 3, 1) := by decide +kernel
theorem dX9_digest_240 : decode cX9_digest 240 = .ok (.iload 4, 2) := by decide +kernel
theorem dX9_digest_242 : decode cX9_digest 242 = .ok (.invokevirtual 178, 3) := by decide +kernel
theorem dX9_digest_245 : decode cX9_digest 245 = .ok (.i2l, 1) := by decide +kernel
theorem dX9_digest_246 : decode cX9_digest 246 = .ok (.ladd, 1) := by decide +kernel
theorem dX9_digest_247 : decode cX9_digest 247 = .ok (.lstore_n 1, 1) := by decide +kernel
theorem dX9_digest_248 : decode cX9_digest 248 = .ok (.iinc 4 1, 3) := by decide +kernel
theorem dX9_digest_251 : decode cX9_digest 251 = .ok (.goto (-25), 3) := by decide +kernel
theorem dX9_digest_254 : decode cX9_digest 254 = .ok (.iconst 0, 1) := by decide +kernel
theorem dX9_digest_255 : decode cX9_digest 255 = .ok (.istore 4, 2) := by decide +kernel
theorem dX9_digest_257 : decode cX9_digest 257 = .ok (.aload_n 0, 1) := by decide +kernel
theorem dX9_digest_258 : decode cX9_digest 258 = .ok (.iload_n 3, 1) := by decide +kernel
theorem dX9_digest_259 : decode cX9_digest 259 = .ok (.iload 4, 2) := by decide +kernel
theorem dX9_digest_261 : decode cX9_digest 261 = .ok (.invokevirtual 157, 3) := by decide +kernel
theorem dX9_digest_264 : decode cX9_digest 264 = .ok (.iconst (-1), 1) := by decide +kernel
theorem dX9_digest_265 : decode cX9_digest 265 = .ok (.if_icmp .eq 24, 3) := by decide +kernel
theorem dX9_digest_268 : decode cX9_digest 268 = .ok (.ldc2_w 211, 3) := by decide +kernel
theorem dX9_digest_271 : decode cX9_digest 271 = .ok (.lload_n 1, 1) := by decide +kernel
theorem dX9_digest_272 : decode cX9_digest 272 = .ok (.lmul, 1) := by decide +kernel
theorem dX9_digest_273 : decode cX9_digest 273 = .ok (.aload_n 0, 1) := by decide +kernel
theorem dX9_digest_274 : decode cX9_digest 274 = .ok (.iload_n 3, 1) := by decide +kernel
theorem dX9_digest_275 : decode cX9_digest 275 = .ok (.iload 4, 2) := by decide +kernel
theorem dX9_digest_277 : decode cX9_digest 277 = .ok (.invokevirtual 157, 3) := by decide +kernel
theorem dX9_digest_280 : decode cX9_digest 280 = .ok (.i2l, 1) := by decide +kernel
theorem dX9_digest_281 : decode cX9_digest 281 = .ok (.ladd, 1) := by decide +kernel
theorem dX9_digest_282 : decode cX9_digest 282 = .ok (.lstore_n 1, 1) := by decide +kernel
theorem dX9_digest_283 : decode cX9_digest 283 = .ok (.iinc 4 1, 3) := by decide +kernel
theorem dX9_digest_286 : decode cX9_digest 286 = .ok (.goto (-29), 3) := by decide +kernel
theorem dX9_digest_289 : decode cX9_digest 289 = .ok (.iinc 3 1, 3) := by decide +kernel
theorem dX9_digest_292 : decode cX9_digest 292 = .ok (.goto (-81), 3) := by decide +kernel
theorem dX9_digest_295 : decode cX9_digest 295 = .ok (.iconst 0, 1) := by decide +kernel
theorem dX9_digest_296 : decode cX9_digest 296 = .ok (.istore_n 3, 1) := by decide +kernel
theorem dX9_digest_297 : decode cX9_digest 297 = .ok (.iload_n 3, 1) := by decide +kernel
theorem dX9_digest_298 : decode cX9_digest 298 = .ok (.iconst 5, 1) := by decide +kernel
theorem dX9_digest_299 : decode cX9_digest 299 = .ok (.if_icmp .ge 37, 3) := by decide +kernel
theorem dX9_digest_302 : decode cX9_digest 302 = .ok (.ldc2_w 211, 3) := by decide +kernel
theorem dX9_digest_305 : decode cX9_digest 305 = .ok (.lload_n 1, 1) := by decide +kernel
theorem dX9_digest_306 : decode cX9_digest 306 = .ok (.lmul, 1) := by decide +kernel
theorem dX9_digest_307 : decode cX9_digest 307 = .ok (.aload_n 0, 1) := by decide +kernel
theorem dX9_digest_308 : decode cX9_digest 308 = .ok (.iload_n 3, 1) := by decide +kernel
theorem dX9_digest_309 : decode cX9_digest 309 = .ok (.iconst 0, 1) := by decide +kernel
theorem dX9_digest_310 : decode cX9_digest 310 = .ok (.invokevirtual 187, 3) := by decide +kernel
theorem dX9_digest_313 : decode cX9_digest 313 = .ok (.i2l, 1) := by decide +kernel
theorem dX9_digest_314 : decode cX9_digest 314 = .ok (.ladd, 1) := by decide +kernel
theorem dX9_digest_315 : decode cX9_digest 315 = .ok (.lstore_n 1, 1) := by decide +kernel
theorem dX9_digest_316 : decode cX9_digest 316 = .ok (.ldc2_w 211, 3) := by decide +kernel
theorem dX9_digest_319 : decode cX9_digest 319 = .ok (.lload_n 1, 1) := by decide +kernel
theorem dX9_digest_320 : decode cX9_digest 320 = .ok (.lmul, 1) := by decide +kernel
theorem dX9_digest_321 : decode cX9_digest 321 = .ok (.aload_n 0, 1) := by decide +kernel
theorem dX9_digest_322 : decode cX9_digest 322 = .ok (.iload_n 3, 1) := by decide +kernel
theorem dX9_digest_323 : decode cX9_digest 323 = .ok (.iconst 1, 1) := by decide +kernel
theorem dX9_digest_324 : decode cX9_digest 324 = .ok (.invokevirtual 187, 3) := by decide +kernel
theorem dX9_digest_327 : decode cX9_digest 327 = .ok (.i2l, 1) := by decide +kernel
theorem dX9_digest_328 : decode cX9_digest 328 = .ok (.ladd, 1) := by decide +kernel
theorem dX9_digest_329 : decode cX9_digest 329 = .ok (.lstore_n 1, 1) := by decide +kernel
theorem dX9_digest_330 : decode cX9_digest 330 = .ok (.iinc 3 1, 3) := by decide +kernel
theorem dX9_digest_333 : decode cX9_digest 333 = .ok (.goto (-36), 3) := by decide +kernel
theorem dX9_digest_336 : decode cX9_digest 336 = .ok (.iconst 0, 1) := by decide +kernel
theorem dX9_digest_337 : decode cX9_digest 337 = .ok (.istore_n 3, 1) := by decide +kernel
theorem dX9_digest_338 : decode cX9_digest 338 = .ok (.iload_n 3, 1) := by decide +kernel
theorem dX9_digest_339 : decode cX9_digest 339 = .ok (.bipush 30, 2) := by decide +kernel
theorem dX9_digest_341 : decode cX9_digest 341 = .ok (.if_icmp .ge 22, 3) := by decide +kernel
theorem dX9_digest_344 : decode cX9_digest 344 = .ok (.ldc2_w 211, 3) := by decide +kernel
theorem dX9_digest_347 : decode cX9_digest 347 = .ok (.lload_n 1, 1) := by decide +kernel
theorem dX9_digest_348 : decode cX9_digest 348 = .ok (.lmul, 1) := by decide +kernel
theorem dX9_digest_349 : decode cX9_digest 349 = .ok (.aload_n 0, 1) := by decide +kernel
theorem dX9_digest_350 : decode cX9_digest 350 = .ok (.iload_n 3, 1) := by decide +kernel
theorem dX9_digest_351 : decode cX9_digest 351 = .ok (.invokevirtual 95, 3) := by decide +kernel
theorem dX9_digest_354 : decode cX9_digest 354 = .ok (.i2l, 1) := by decide +kernel
theorem dX9_digest_355 : decode cX9_digest 355 = .ok (.ladd, 1) := by decide +kernel
theorem dX9_digest_356 : decode cX9_digest 356 = .ok (.lstore_n 1, 1) := by decide +kernel
theorem dX9_digest_357 : decode cX9_digest 357 = .ok (.iinc 3 1, 3) := by decide +kernel
theorem dX9_digest_360 : decode cX9_digest 360 = .ok (.goto (-22), 3) := by decide +kernel
theorem dX9_digest_363 : decode cX9_digest 363 = .ok (.ldc2_w 211, 3) := by decide +kernel
theorem dX9_digest_366 : decode cX9_digest 366 = .ok (.lload_n 1, 1) := by decide +kernel
theorem dX9_digest_367 : decode cX9_digest 367 = .ok (.lmul, 1) := by decide +kernel
theorem dX9_digest_368 : decode cX9_digest 368 = .ok (.aload_n 0, 1) := by decide +kernel
theorem dX9_digest_369 : decode cX9_digest 369 = .ok (.iconst 0, 1) := by decide +kernel
theorem dX9_digest_370 : decode cX9_digest 370 = .ok (.invokevirtual 151, 3) := by decide +kernel
theorem dX9_digest_373 : decode cX9_digest 373 = .ok (.i2l, 1) := by decide +kernel
theorem dX9_digest_374 : decode cX9_digest 374 = .ok (.ladd, 1) := by decide +kernel
theorem dX9_digest_375 : decode cX9_digest 375 = .ok (.lstore_n 1, 1) := by decide +kernel
theorem dX9_digest_376 : decode cX9_digest 376 = .ok (.ldc2_w 211, 3) := by decide +kernel
theorem dX9_digest_379 : decode cX9_digest 379 = .ok (.lload_n 1, 1) := by decide +kernel
theorem dX9_digest_380 : decode cX9_digest 380 = .ok (.lmul, 1) := by decide +kernel
theorem dX9_digest_381 : decode cX9_digest 381 = .ok (.aload_n 0, 1) := by decide +kernel
theorem dX9_digest_382 : decode cX9_digest 382 = .ok (.iconst 1, 1) := by decide +kernel
theorem dX9_digest_383 : decode cX9_digest 383 = .ok (.invokevirtual 151, 3) := by decide +kernel
theorem dX9_digest_386 : decode cX9_digest 386 = .ok (.i2l, 1) := by decide +kernel
theorem dX9_digest_387 : decode cX9_digest 387 = .ok (.ladd, 1) := by decide +kernel
theorem dX9_digest_388 : decode cX9_digest 388 = .ok (.lstore_n 1, 1) := by decide +kernel
theorem dX9_digest_389 : decode cX9_digest 389 = .ok (.ldc2_w 211, 3) := by decide +kernel
theorem dX9_digest_392 : decode cX9_digest 392 = .ok (.lload_n 1, 1) := by decide +kernel
theorem dX9_digest_393 : decode cX9_digest 393 = .ok (.lmul, 1) := by decide +kernel
theorem dX9_digest_394 : decode cX9_digest 394 = .ok (.aload_n 0, 1) := by decide +kernel
theorem dX9_digest_395 : decode cX9_digest 395 = .ok (.invokevirtual 199, 3) := by decide +kernel
theorem dX9_digest_398 : decode cX9_digest 398 = .ok (.i2l, 1) := by decide +kernel
theorem dX9_digest_399 : decode cX9_digest 399 = .ok (.ladd, 1) := by decide +kernel
theorem dX9_digest_400 : decode cX9_digest 400 = .ok (.lstore_n 1, 1) := by decide +kernel
theorem dX9_digest_401 : decode cX9_digest 401 = .ok (.ldc2_w 211, 3) := by decide +kernel
theorem dX9_digest_404 : decode cX9_digest 404 = .ok (.lload_n 1, 1) := by decide +kernel
theorem dX9_digest_405 : decode cX9_digest 405 = .ok (.lmul, 1) := by decide +kernel
theorem dX9_digest_406 : decode cX9_digest 406 = .ok (.aload_n 0, 1) := by decide +kernel
theorem dX9_digest_407 : decode cX9_digest 407 = .ok (.invokevirtual 202, 3) := by decide +kernel
theorem dX9_digest_410 : decode cX9_digest 410 = .ok (.i2l, 1) := by decide +kernel
theorem dX9_digest_411 : decode cX9_digest 411 = .ok (.ladd, 1) := by decide +kernel
theorem dX9_digest_412 : decode cX9_digest 412 = .ok (.lstore_n 1, 1) := by decide +kernel
theorem dX9_digest_413 : decode cX9_digest 413 = .ok (.ldc2_w 211, 3) := by decide +kernel
theorem dX9_digest_416 : decode cX9_digest 416 = .ok (.lload_n 1, 1) := by decide +kernel
theorem dX9_digest_417 : decode cX9_digest 417 = .ok (.lmul, 1) := by decide +kernel
theorem dX9_digest_418 : decode cX9_digest 418 = .ok (.aload_n 0, 1) := by decide +kernel
theorem dX9_digest_419 : decode cX9_digest 419 = .ok (.invokevirtual 205, 3) := by decide +kernel
theorem dX9_digest_422 : decode cX9_digest 422 = .ok (.invokestatic 213, 3) := by decide +kernel
theorem dX9_digest_425 : decode cX9_digest 425 = .ok (.ladd, 1) := by decide +kernel
theorem dX9_digest_426 : decode cX9_digest 426 = .ok (.lstore_n 1, 1) := by decide +kernel
theorem dX9_digest_427 : decode cX9_digest 427 = .ok (.ldc2_w 211, 3) := by decide +kernel
theorem dX9_digest_430 : decode cX9_digest 430 = .ok (.lload_n 1, 1) := by decide +kernel
theorem dX9_digest_431 : decode cX9_digest 431 = .ok (.lmul, 1) := by decide +kernel
theorem dX9_digest_432 : decode cX9_digest 432 = .ok (.aload_n 0, 1) := by decide +kernel
theorem dX9_digest_433 : decode cX9_digest 433 = .ok (.getfield 101, 3) := by decide +kernel
theorem dX9_digest_436 : decode cX9_digest 436 = .ok (.i2l, 1) := by decide +kernel
theorem dX9_digest_437 : decode cX9_digest 437 = .ok (.ladd, 1) := by decide +kernel
theorem dX9_digest_438 : decode cX9_digest 438 = .ok (.lstore_n 1, 1) := by decide +kernel
theorem dX9_digest_439 : decode cX9_digest 439 = .ok (.iconst 0, 1) := by decide +kernel
theorem dX9_digest_440 : decode cX9_digest 440 = .ok (.istore_n 3, 1) := by decide +kernel
theorem dX9_digest_441 : decode cX9_digest 441 = .ok (.iload_n 3, 1) := by decide +kernel
theorem dX9_digest_442 : decode cX9_digest 442 = .ok (.aload_n 0, 1) := by decide +kernel
theorem dX9_digest_443 : decode cX9_digest 443 = .ok (.getfield 101, 3) := by decide +kernel
theorem dX9_digest_446 : decode cX9_digest 446 = .ok (.if_icmp .ge 23, 3) := by decide +kernel
theorem dX9_digest_449 : decode cX9_digest 449 = .ok (.ldc2_w 211, 3) := by decide +kernel
theorem dX9_digest_452 : decode cX9_digest 452 = .ok (.lload_n 1, 1) := by decide +kernel
theorem dX9_digest_453 : decode cX9_digest 453 = .ok (.lmul, 1) := by decide +kernel
theorem dX9_digest_454 : decode cX9_digest 454 = .ok (.aload_n 0, 1) := by decide +kernel
theorem dX9_digest_455 : decode cX9_digest 455 = .ok (.getfield 19, 3) := by decide +kernel
theorem dX9_digest_458 : decode cX9_digest 458 = .ok (.iload_n 3, 1) := by decide +kernel
theorem dX9_digest_459 : decode cX9_digest 459 = .ok (.iaload, 1) := by decide +kernel
theorem dX9_digest_460 : decode cX9_digest 460 = .ok (.i2l, 1) := by decide +kernel
theorem dX9_digest_461 : decode cX9_digest 461 = .ok (.ladd, 1) := by decide +kernel
theorem dX9_digest_462 : decode cX9_digest 462 = .ok (.lstore_n 1, 1) := by decide +kernel
theorem dX9_digest_463 : decode cX9_digest 463 = .ok (.iinc 3 1, 3) := by decide +kernel
theorem dX9_digest_466 : decode cX9_digest 466 = .ok (.goto (-25), 3) := by decide +kernel
theorem dX9_digest_469 : decode cX9_digest 469 = .ok (.lload_n 1, 1) := by decide +kernel
theorem dX9_digest_470 : decode cX9_digest 470 = .ok (.lreturn, 1) := by decide +kernel
