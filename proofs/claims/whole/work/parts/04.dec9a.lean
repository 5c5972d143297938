theorem dX9_init_0 : decode cX9_init 0 = .ok (.aload_n 0, 1) := by decide +kernel
theorem dX9_init_1 : decode cX9_init 1 = .ok (.invokespecial 1, 3) := by decide +kernel
theorem dX9_init_4 : decode cX9_init 4 = .ok (.aload_n 0, 1) := by decide +kernel
theorem dX9_init_5 : decode cX9_init 5 = .ok (.sipush 460, 3) := by decide +kernel
theorem dX9_init_8 : decode cX9_init 8 = .ok (.newarray .int, 2) := by decide +kernel
theorem dX9_init_10 : decode cX9_init 10 = .ok (.putfield 7, 3) := by decide +kernel
theorem dX9_init_13 : decode cX9_init 13 = .ok (.aload_n 0, 1) := by decide +kernel
theorem dX9_init_14 : decode cX9_init 14 = .ok (.sipush 2760, 3) := by decide +kernel
theorem dX9_init_17 : decode cX9_init 17 = .ok (.newarray .int, 2) := by decide +kernel
theorem dX9_init_19 : decode cX9_init 19 = .ok (.putfield 13, 3) := by decide +kernel
theorem dX9_init_22 : decode cX9_init 22 = .ok (.aload_n 0, 1) := by decide +kernel
theorem dX9_init_23 : decode cX9_init 23 = .ok (.sipush 460, 3) := by decide +kernel
theorem dX9_init_26 : decode cX9_init 26 = .ok (.newarray .int, 2) := by decide +kernel
theorem dX9_init_28 : decode cX9_init 28 = .ok (.putfield 16, 3) := by decide +kernel
theorem dX9_init_31 : decode cX9_init 31 = .ok (.aload_n 0, 1) := by decide +kernel
theorem dX9_init_32 : decode cX9_init 32 = .ok (.bipush 60, 2) := by decide +kernel
theorem dX9_init_34 : decode cX9_init 34 = .ok (.newarray .int, 2) := by decide +kernel
theorem dX9_init_36 : decode cX9_init 36 = .ok (.putfield 19, 3) := by decide +kernel
theorem dX9_init_39 : decode cX9_init 39 = .ok (.aload_n 0, 1) := by decide +kernel
theorem dX9_init_40 : decode cX9_init 40 = .ok (.bipush 12, 2) := by decide +kernel
theorem dX9_init_42 : decode cX9_init 42 = .ok (.newarray .int, 2) := by decide +kernel
theorem dX9_init_44 : decode cX9_init 44 = .ok (.putfield 22, 3) := by decide +kernel
theorem dX9_init_47 : decode cX9_init 47 = .ok (.aload_n 0, 1) := by decide +kernel
theorem dX9_init_48 : decode cX9_init 48 = .ok (.bipush 12, 2) := by decide +kernel
theorem dX9_init_50 : decode cX9_init 50 = .ok (.newarray .int, 2) := by decide +kernel
theorem dX9_init_52 : decode cX9_init 52 = .ok (.putfield 25, 3) := by decide +kernel
theorem dX9_init_55 : decode cX9_init 55 = .ok (.aload_n 0, 1) := by decide +kernel
theorem dX9_init_56 : decode cX9_init 56 = .ok (.bipush 12, 2) := by decide +kernel
theorem dX9_init_58 : decode cX9_init 58 = .ok (.newarray .int, 2) := by decide +kernel
theorem dX9_init_60 : decode cX9_init 60 = .ok (.putfield 28, 3) := by decide +kernel
theorem dX9_init_63 : decode cX9_init 63 = .ok (.iconst 0, 1) := by decide +kernel
theorem dX9_init_64 : decode cX9_init 64 = .ok (.istore_n 1, 1) := by decide +kernel
theorem dX9_init_65 : decode cX9_init 65 = .ok (.iload_n 1, 1) := by decide +kernel
theorem dX9_init_66 : decode cX9_init 66 = .ok (.sipush 180, 3) := by decide +kernel
theorem dX9_init_69 : decode cX9_init 69 = .ok (.if_icmp .ge 21, 3) := by decide +kernel
theorem dX9_init_72 : decode cX9_init 72 = .ok (.aload_n 0, 1) := by decide +kernel
theorem dX9_init_73 : decode cX9_init 73 = .ok (.getfield 7, 3) := by decide +kernel
theorem dX9_init_76 : decode cX9_init 76 = .ok (.iconst 0, 1) := by decide +kernel
theorem dX9_init_77 : decode cX9_init 77 = .ok (.iload_n 1, 1) := by decide +kernel
theorem dX9_init_78 : decode cX9_init 78 = .ok (.iadd, 1) := by decide +kernel
theorem dX9_init_79 : decode cX9_init 79 = .ok (.iload_n 1, 1) := by decide +kernel
theorem dX9_init_80 : decode cX9_init 80 = .ok (.bipush 30, 2) := by decide +kernel
theorem dX9_init_82 : decode cX9_init 82 = .ok (.irem, 1) := by decide +kernel
theorem dX9_init_83 : decode cX9_init 83 = .ok (.iastore, 1) := by decide +kernel
theorem dX9_init_84 : decode cX9_init 84 = .ok (.iinc 1 1, 3) := by decide +kernel
theorem dX9_init_87 : decode cX9_init 87 = .ok (.goto (-22), 3) := by decide +kernel
theorem dX9_init_90 : decode cX9_init 90 = .ok (.iconst 0, 1) := by decide +kernel
theorem dX9_init_91 : decode cX9_init 91 = .ok (.istore_n 1, 1) := by decide +kernel
theorem dX9_init_92 : decode cX9_init 92 = .ok (.iload_n 1, 1) := by decide +kernel
theorem dX9_init_93 : decode cX9_init 93 = .ok (.bipush 6, 2) := by decide +kernel
theorem dX9_init_95 : decode cX9_init 95 = .ok (.if_icmp .ge 20, 3) := by decide +kernel
theorem dX9_init_98 : decode cX9_init 98 = .ok (.aload_n 0, 1) := by decide +kernel
theorem dX9_init_99 : decode cX9_init 99 = .ok (.getfield 7, 3) := by decide +kernel
theorem dX9_init_102 : decode cX9_init 102 = .ok (.sipush 186, 3) := by decide +kernel
theorem dX9_init_105 : decode cX9_init 105 = .ok (.iload_n 1, 1) := by decide +kernel
theorem dX9_init_106 : decode cX9_init 106 = .ok (.iadd, 1) := by decide +kernel
theorem dX9_init_107 : decode cX9_init 107 = .ok (.iconst 1, 1) := by decide +kernel
theorem dX9_init_108 : decode cX9_init 108 = .ok (.iastore, 1) := by decide +kernel
theorem dX9_init_109 : decode cX9_init 109 = .ok (.iinc 1 1, 3) := by decide +kernel
theorem dX9_init_112 : decode cX9_init 112 = .ok (.goto (-20), 3) := by decide +kernel
theorem dX9_init_115 : decode cX9_init 115 = .ok (.return_, 1) := by decide +kernel
theorem dX9_thrown_0 : decode cX9_thrown 0 = .ok (.aload_n 0, 1) := by decide +kernel
theorem dX9_thrown_1 : decode cX9_thrown 1 = .ok (.getfield 31, 3) := by decide +kernel
theorem dX9_thrown_4 : decode cX9_thrown 4 = .ok (.ireturn, 1) := by decide +kernel
theorem dX9_refused_0 : decode cX9_refused 0 = .ok (.aload_n 0, 1) := by decide +kernel
theorem dX9_refused_1 : decode cX9_refused 1 = .ok (.iload_n 1, 1) := by decide +kernel
theorem dX9_refused_2 : decode cX9_refused 2 = .ok (.putfield 31, 3) := by decide +kernel
theorem dX9_refused_5 : decode cX9_refused 5 = .ok (.iload_n 1, 1) := by decide +kernel
theorem dX9_refused_6 : decode cX9_refused 6 = .ok (.ifCond .le 7, 3) := by decide +kernel
theorem dX9_refused_9 : decode cX9_refused 9 = .ok (.iconst 1, 1) := by decide +kernel
theorem dX9_refused_10 : decode cX9_refused 10 = .ok (.goto 4, 3) := by decide +kernel
theorem dX9_refused_13 : decode cX9_refused 13 = .ok (.iconst 0, 1) := by decide +kernel
theorem dX9_refused_14 : decode cX9_refused 14 = .ok (.ireturn, 1) := by decide +kernel
theorem dX9_in_0 : decode cX9_in 0 = .ok (.iload_n 0, 1) := by decide +kernel
theorem dX9_in_1 : decode cX9_in 1 = .ok (.iload_n 1, 1) := by decide +kernel
theorem dX9_in_2 : decode cX9_in 2 = .ok (.if_icmp .lt 12, 3) := by decide +kernel
theorem dX9_in_5 : decode cX9_in 5 = .ok (.iload_n 0, 1) := by decide +kernel
theorem dX9_in_6 : decode cX9_in 6 = .ok (.iload_n 2, 1) := by decide +kernel
theorem dX9_in_7 : decode cX9_in 7 = .ok (.if_icmp .gt 7, 3) := by decide +kernel
theorem dX9_in_10 : decode cX9_in 10 = .ok (.iconst 1, 1) := by decide +kernel
theorem dX9_in_11 : decode cX9_in 11 = .ok (.goto 4, 3) := by decide +kernel
theorem dX9_in_14 : decode cX9_in 14 = .ok (.iconst 0, 1) := by decide +kernel
theorem dX9_in_15 : decode cX9_in 15 = .ok (.ireturn, 1) := by decide +kernel
set_option maxRecDepth 20000 in
theorem ggX9_isLink_X9_in : GoodIn wsX9_isLink wsX9_in := goodIn_r _ [4] (by decide +kernel) (by decide +kernel)
set_option maxRecDepth 20000 in
theorem gX9_isLink_X9_in : GoodIn wsX9_isLink (va_wsS RX9 35 yX9_in wsX9_in) := goodIn_app (goodIn_of _ (by decide +kernel)) ggX9_isLink_X9_in
theorem dX9_isLink_0 : decode cX9_isLink 0 = .ok (.iload_n 0, 1) := by decide +kernel
theorem dX9_isLink_1 : decode cX9_isLink 1 = .ok (.iconst 0, 1) := by decide +kernel
theorem dX9_isLink_2 : decode cX9_isLink 2 = .ok (.iconst 5, 1) := by decide +kernel
theorem dX9_isLink_3 : decode cX9_isLink 3 = .ok (.invokestatic 35, 3) := by decide +kernel
theorem dX9_isLink_6 : decode cX9_isLink 6 = .ok (.ireturn, 1) := by decide +kernel
set_option maxRecDepth 20000 in
theorem ggX9_isWord_X9_in : GoodIn wsX9_isWord wsX9_in := goodIn_r _ [4] (by decide +kernel) (by decide +kernel)
set_option maxRecDepth 20000 in
theorem gX9_isWord_X9_in : GoodIn wsX9_isWord (va_wsS RX9 35 yX9_in wsX9_in) := goodIn_app (goodIn_of _ (by decide +kernel)) ggX9_isWord_X9_in
theorem dX9_isWord_0 : decode cX9_isWord 0 = .ok (.iload_n 0, 1) := by decide +kernel
theorem dX9_isWord_1 : decode cX9_isWord 1 = .ok (.iconst 0, 1) := by decide +kernel
theorem dX9_isWord_2 : decode cX9_isWord 2 = .ok (.bipush 29, 2) := by decide +kernel
theorem dX9_isWord_4 : decode cX9_isWord 4 = .ok (.invokestatic 35, 3) := by decide +kernel
theorem dX9_isWord_7 : decode cX9_isWord 7 = .ok (.ireturn, 1) := by decide +kernel
theorem dX9_saves_0 : decode cX9_saves 0 = .ok (.aload_n 0, 1) := by decide +kernel
theorem dX9_saves_1 : decode cX9_saves 1 = .ok (.getfield 39, 3) := by decide +kernel
theorem dX9_saves_4 : decode cX9_saves 4 = .ok (.bipush 6, 2) := by decide +kernel
theorem dX9_saves_6 : decode cX9_saves 6 = .ok (.if_icmp .ne 44, 3) := by decide +kernel
theorem dX9_saves_9 : decode cX9_saves 9 = .ok (.iconst 0, 1) := by decide +kernel
theorem dX9_saves_10 : decode cX9_saves 10 = .ok (.istore_n 1, 1) := by decide +kernel
theorem dX9_saves_11 : decode cX9_saves 11 = .ok (.iload_n 1, 1) := by decide +kernel
theorem dX9_saves_12 : decode cX9_saves 12 = .ok (.sipush 2300, 3) := by decide +kernel
theorem dX9_saves_15 : decode cX9_saves 15 = .ok (.if_icmp .ge 25, 3) := by decide +kernel
theorem dX9_saves_18 : decode cX9_saves 18 = .ok (.aload_n 0, 1) := by decide +kernel
theorem dX9_saves_19 : decode cX9_saves 19 = .ok (.getfield 13, 3) := by decide +kernel
theorem dX9_saves_22 : decode cX9_saves 22 = .ok (.iload_n 1, 1) := by decide +kernel
theorem dX9_saves_23 : decode cX9_saves 23 = .ok (.aload_n 0, 1) := by decide +kernel
theorem dX9_saves_24 : decode cX9_saves 24 = .ok (.getfield 13, 3) := by decide +kernel
theorem dX9_saves_27 : decode cX9_saves 27 = .ok (.sipush 460, 3) := by decide +kernel
theorem dX9_saves_30 : decode cX9_saves 30 = .ok (.iload_n 1, 1) := by decide +kernel
theorem dX9_saves_31 : decode cX9_saves 31 = .ok (.iadd, 1) := by decide +kernel
theorem dX9_saves_32 : decode cX9_saves 32 = .ok (.iaload, 1) := by decide +kernel
theorem dX9_saves_33 : decode cX9_saves 33 = .ok (.iastore, 1) := by decide +kernel
theorem dX9_saves_34 : decode cX9_saves 34 = .ok (.iinc 1 1, 3) := by decide +kernel
theorem dX9_saves_37 : decode cX9_saves 37 = .ok (.goto (-26), 3) := by decide +kernel
theorem dX9_saves_40 : decode cX9_saves 40 = .ok (.aload_n 0, 1) := by decide +kernel
theorem dX9_saves_41 : decode cX9_saves 41 = .ok (.dup, 1) := by decide +kernel
theorem dX9_saves_42 : decode cX9_saves 42 = .ok (.getfield 39, 3) := by decide +kernel
theorem dX9_saves_45 : decode cX9_saves 45 = .ok (.iconst 1, 1) := by decide +kernel
theorem dX9_saves_46 : decode cX9_saves 46 = .ok (.isub, 1) := by decide +kernel
theorem dX9_saves_47 : decode cX9_saves 47 = .ok (.putfield 39, 3) := by decide +kernel
theorem dX9_saves_50 : decode cX9_saves 50 = .ok (.iconst 0, 1) := by decide +kernel
theorem dX9_saves_51 : decode cX9_saves 51 = .ok (.istore_n 1, 1) := by decide +kernel
theorem dX9_saves_52 : decode cX9_saves 52 = .ok (.iload_n 1, 1) := by decide +kernel
theorem dX9_saves_53 : decode cX9_saves 53 = .ok (.sipush 460, 3) := by decide +kernel
theorem dX9_saves_56 : decode cX9_saves 56 = .ok (.if_icmp .ge 30, 3) := by decide +kernel
theorem dX9_saves_59 : decode cX9_saves 59 = .ok (.aload_n 0, 1) := by decide +kernel
theorem dX9_saves_60 : decode cX9_saves 60 = .ok (.getfield 13, 3) := by decide +kernel
theorem dX9_saves_63 : decode cX9_saves 63 = .ok (.sipush 460, 3) := by decide +kernel
theorem dX9_saves_66 : decode cX9_saves 66 = .ok (.aload_n 0, 1) := by decide +kernel
theorem dX9_saves_67 : decode cX9_saves 67 = .ok (.getfield 39, 3) := by decide +kernel
theorem dX9_saves_70 : decode cX9_saves 70 = .ok (.imul, 1) := by decide +kernel
theorem dX9_saves_71 : decode cX9_saves 71 = .ok (.iload_n 1, 1) := by decide +kernel
theorem dX9_saves_72 : decode cX9_saves 72 = .ok (.iadd, 1) := by decide +kernel
theorem dX9_saves_73 : decode cX9_saves 73 = .ok (.aload_n 0, 1) := by decide +kernel
theorem dX9_saves_74 : decode cX9_saves 74 = .ok (.getfield 7, 3) := by decide +kernel
theorem dX9_saves_77 : decode cX9_saves 77 = .ok (.iload_n 1, 1) := by decide +kernel
theorem dX9_saves_78 : decode cX9_saves 78 = .ok (.iaload, 1) := by decide +kernel
theorem dX9_saves_79 : decode cX9_saves 79 = .ok (.iastore, 1) := by decide +kernel
theorem dX9_saves_80 : decode cX9_saves 80 = .ok (.iinc 1 1, 3) := by decide +kernel
theorem dX9_saves_83 : decode cX9_saves 83 = .ok (.goto (-31), 3) := by decide +kernel
theorem dX9_saves_86 : decode cX9_saves 86 = .ok (.aload_n 0, 1) := by decide +kernel
theorem dX9_saves_87 : decode cX9_saves 87 = .ok (.dup, 1) := by decide +kernel
theorem dX9_saves_88 : decode cX9_saves 88 = .ok (.getfield 39, 3) := by decide +kernel
theorem dX9_saves_91 : decode cX9_saves 91 = .ok (.iconst 1, 1) := by decide +kernel
theorem dX9_saves_92 : decode cX9_saves 92 = .ok (.iadd, 1) := by decide +kernel
theorem dX9_saves_93 : decode cX9_saves 93 = .ok (.putfield 39, 3) := by decide +kernel
theorem dX9_saves_96 : decode cX9_saves 96 = .ok (.return_, 1) := by decide +kernel
theorem dX9_meant_0 : decode cX9_meant 0 = .ok (.aload_n 0, 1) := by decide +kernel
theorem dX9_meant_1 : decode cX9_meant 1 = .ok (.getfield 7, 3) := by decide +kernel
theorem dX9_meant_4 : decode cX9_meant 4 = .ok (.iconst 0, 1) := by decide +kernel
theorem dX9_meant_5 : decode cX9_meant 5 = .ok (.bipush 30, 2) := by decide +kernel
theorem dX9_meant_7 : decode cX9_meant 7 = .ok (.iload_n 1, 1) := by decide +kernel
theorem dX9_meant_8 : decode cX9_meant 8 = .ok (.imul, 1) := by decide +kernel
theorem dX9_meant_9 : decode cX9_meant 9 = .ok (.iadd, 1) := by decide +kernel
theorem dX9_meant_10 : decode cX9_meant 10 = .ok (.iload_n 2, 1) := by decide +kernel
theorem dX9_meant_11 : decode cX9_meant 11 = .ok (.iadd, 1) := by decide +kernel
theorem dX9_meant_12 : decode cX9_meant 12 = .ok (.iaload, 1) := by decide +kernel
theorem dX9_meant_13 : decode cX9_meant 13 = .ok (.ireturn, 1) := by decide +kernel
set_option maxRecDepth 20000 in
theorem ggX9_lowest_X9_meant : GoodIn wsX9_lowest wsX9_meant := goodIn_r _ [5, 6, 7, 8, 9, 10, 11, 12, 13, 14, 15, 16, 17, 18, 19, 20, 21, 22, 23, 24, 25, 26, 27, 28] (by decide +kernel) (by decide +kernel)
set_option maxRecDepth 20000 in
theorem gX9_lowest_X9_meant : GoodIn wsX9_lowest (wsV RX9 42 RX9 yX9_meant wsX9_meant) := goodIn_app (goodIn_of _ (by decide +kernel)) ggX9_lowest_X9_meant
theorem dX9_lowest_0 : decode cX9_lowest 0 = .ok (.iconst 0, 1) := by decide +kernel
theorem dX9_lowest_1 : decode cX9_lowest 1 = .ok (.istore_n 3, 1) := by decide +kernel
theorem dX9_lowest_2 : decode cX9_lowest 2 = .ok (.iload_n 3, 1) := by decide +kernel
theorem dX9_lowest_3 : decode cX9_lowest 3 = .ok (.bipush 30, 2) := by decide +kernel
theorem dX9_lowest_5 : decode cX9_lowest 5 = .ok (.if_icmp .ge 21, 3) := by decide +kernel
theorem dX9_lowest_8 : decode cX9_lowest 8 = .ok (.aload_n 0, 1) := by decide +kernel
theorem dX9_lowest_9 : decode cX9_lowest 9 = .ok (.iload_n 1, 1) := by decide +kernel
theorem dX9_lowest_10 : decode cX9_lowest 10 = .ok (.iload_n 3, 1) := by decide +kernel
theorem dX9_lowest_11 : decode cX9_lowest 11 = .ok (.invokevirtual 42, 3) := by decide +kernel
theorem dX9_lowest_14 : decode cX9_lowest 14 = .ok (.iload_n 2, 1) := by decide +kernel
theorem dX9_lowest_15 : decode cX9_lowest 15 = .ok (.if_icmp .ne 5, 3) := by decide +kernel
theorem dX9_lowest_18 : decode cX9_lowest 18 = .ok (.iload_n 3, 1) := by decide +kernel
theorem dX9_lowest_19 : decode cX9_lowest 19 = .ok (.ireturn, 1) := by decide +kernel
theorem dX9_lowest_20 : decode cX9_lowest 20 = .ok (.iinc 3 1, 3) := by decide +kernel
theorem dX9_lowest_23 : decode cX9_lowest 23 = .ok (.goto (-21), 3) := by decide +kernel
theorem dX9_lowest_26 : decode cX9_lowest 26 = .ok (.bipush 30, 2) := by decide +kernel
theorem dX9_lowest_28 : decode cX9_lowest 28 = .ok (.ireturn, 1) := by decide +kernel
set_option maxRecDepth 20000 in
theorem ggX9_teach_X9_isLink : GoodIn wsX9_teach wsX9_isLink := goodIn_r _ [5, 6, 7, 4, 8] (by decide +kernel) (by decide +kernel)
set_option maxRecDepth 20000 in
theorem gX9_teach_X9_isLink : GoodIn wsX9_teach (va_wsS RX9 46 yX9_isLink wsX9_isLink) := goodIn_app (goodIn_of _ (by decide +kernel)) ggX9_teach_X9_isLink
set_option maxRecDepth 20000 in
theorem ggX9_teach_X9_isWord : GoodIn wsX9_teach wsX9_isWord := goodIn_r _ [11, 6, 7, 4, 8] (by decide +kernel) (by decide +kernel)
set_option maxRecDepth 20000 in
theorem gX9_teach_X9_isWord : GoodIn wsX9_teach (va_wsS RX9 50 yX9_isWord wsX9_isWord) := goodIn_app (goodIn_of _ (by decide +kernel)) ggX9_teach_X9_isWord
set_option maxRecDepth 20000 in
theorem ggX9_teach_X9_in : GoodIn wsX9_teach wsX9_in := goodIn_r _ [8] (by decide +kernel) (by decide +kernel)
set_option maxRecDepth 20000 in
theorem gX9_teach_X9_in : GoodIn wsX9_teach (va_wsS RX9 35 yX9_in wsX9_in) := goodIn_app (goodIn_of _ (by decide +kernel)) ggX9_teach_X9_in
set_option maxRecDepth 20000 in
theorem ggX9_teach_X9_refused : GoodIn wsX9_teach wsX9_refused := goodIn_r _ [15, 16, 27, 28, 29, 30, 31, 32, 33, 34, 35, 36, 37, 38, 39, 40, 41, 42, 43, 44, 45, 46, 47, 48] (by decide +kernel) (by decide +kernel)
set_option maxRecDepth 20000 in
theorem gX9_teach_X9_refused : GoodIn wsX9_teach (wsV RX9 53 RX9 yX9_refused wsX9_refused) := goodIn_app (goodIn_of _ (by decide +kernel)) ggX9_teach_X9_refused
set_option maxRecDepth 20000 in
theorem ggX9_teach_X9_saves : GoodIn wsX9_teach wsX9_saves := goodIn_r _ [20, 21, 22, 1, 27, 28, 29, 30, 31, 32, 33, 34, 35, 36, 37, 38, 39, 40, 41, 42, 43, 44, 45, 46, 47, 48] (by decide +kernel) (by decide +kernel)
set_option maxRecDepth 20000 in
theorem gX9_teach_X9_saves : GoodIn wsX9_teach (wsV RX9 56 RX9 yX9_saves wsX9_saves) := goodIn_app (goodIn_of _ (by decide +kernel)) ggX9_teach_X9_saves
set_option maxRecDepth 20000 in
theorem ggX9_teach_X9_meant : GoodIn wsX9_teach wsX9_meant := goodIn_r _ [26, 1, 27, 28, 29, 30, 31, 32, 33, 34, 35, 36, 37, 38, 39, 40, 41, 42, 43, 44, 45, 46, 47, 48] (by decide +kernel) (by decide +kernel)
set_option maxRecDepth 20000 in
theorem gX9_teach_X9_meant : GoodIn wsX9_teach (wsV RX9 42 RX9 yX9_meant wsX9_meant) := goodIn_app (goodIn_of _ (by decide +kernel)) ggX9_teach_X9_meant
theorem dX9_teach_0 : decode cX9_teach 0 = .ok (.aload_n 0, 1) := by decide +kernel
theorem dX9_teach_1 : decode cX9_teach 1 = .ok (.iload_n 1, 1) := by decide +kernel
theorem dX9_teach_2 : decode cX9_teach 2 = .ok (.invokestatic 46, 3) := by decide +kernel
theorem dX9_teach_5 : decode cX9_teach 5 = .ok (.ifCond .ne 7, 3) := by decide +kernel
theorem dX9_teach_8 : decode cX9_teach 8 = .ok (.iconst 1, 1) := by decide +kernel
theorem dX9_teach_9 : decode cX9_teach 9 = .ok (.goto 25, 3) := by decide +kernel
theorem dX9_teach_12 : decode cX9_teach 12 = .ok (.iload_n 2, 1) := by decide +kernel
theorem dX9_teach_13 : decode cX9_teach 13 = .ok (.invokestatic 50, 3) := by decide +kernel
theorem dX9_teach_16 : decode cX9_teach 16 = .ok (.ifCond .eq 17, 3) := by decide +kernel
theorem dX9_teach_19 : decode cX9_teach 19 = .ok (.iload_n 3, 1) := by decide +kernel
theorem dX9_teach_20 : decode cX9_teach 20 = .ok (.iconst (-1), 1) := by decide +kernel
theorem dX9_teach_21 : decode cX9_teach 21 = .ok (.bipush 29, 2) := by decide +kernel
theorem dX9_teach_23 : decode cX9_teach 23 = .ok (.invokestatic 35, 3) := by decide +kernel
theorem dX9_teach_26 : decode cX9_teach 26 = .ok (.ifCond .eq 7, 3) := by decide +kernel
theorem dX9_teach_29 : decode cX9_teach 29 = .ok (.iconst 0, 1) := by decide +kernel
theorem dX9_teach_30 : decode cX9_teach 30 = .ok (.goto 4, 3) := by decide +kernel
theorem dX9_teach_33 : decode cX9_teach 33 = .ok (.iconst 2, 1) := by decide +kernel
theorem dX9_teach_34 : decode cX9_teach 34 = .ok (.invokevirtual 53, 3) := by decide +kernel
theorem dX9_teach_37 : decode cX9_teach 37 = .ok (.ifCond .eq 5, 3) := by decide +kernel
theorem dX9_teach_40 : decode cX9_teach 40 = .ok (.iconst 0, 1) := by decide +kernel
theorem dX9_teach_41 : decode cX9_teach 41 = .ok (.ireturn, 1) := by decide +kernel
theorem dX9_teach_42 : decode cX9_teach 42 = .ok (.aload_n 0, 1) := by decide +kernel
theorem dX9_teach_43 : decode cX9_teach 43 = .ok (.invokevirtual 56, 3) := by decide +kernel
theorem dX9_teach_46 : decode cX9_teach 46 = .ok (.aload_n 0, 1) := by decide +kernel
theorem dX9_teach_47 : decode cX9_teach 47 = .ok (.iload_n 1, 1) := by decide +kernel
theorem dX9_teach_48 : decode cX9_teach 48 = .ok (.iload_n 2, 1) := by decide +kernel
theorem dX9_teach_49 : decode cX9_teach 49 = .ok (.invokevirtual 42, 3) := by decide +kernel
theorem dX9_teach_52 : decode cX9_teach 52 = .ok (.istore 4, 2) := by decide +kernel
theorem dX9_teach_54 : decode cX9_teach 54 = .ok (.aload_n 0, 1) := by decide +kernel
theorem dX9_teach_55 : decode cX9_teach 55 = .ok (.getfield 7, 3) := by decide +kernel
theorem dX9_teach_58 : decode cX9_teach 58 = .ok (.iconst 0, 1) := by decide +kernel
theorem dX9_teach_59 : decode cX9_teach 59 = .ok (.bipush 30, 2) := by decide +kernel
theorem dX9_teach_61 : decode cX9_teach 61 = .ok (.iload_n 1, 1) := by decide +kernel
theorem dX9_teach_62 : decode cX9_teach 62 = .ok (.imul, 1) := by decide +kernel
theorem dX9_teach_63 : decode cX9_teach 63 = .ok (.iadd, 1) := by decide +kernel
theorem dX9_teach_64 : decode cX9_teach 64 = .ok (.iload_n 2, 1) := by decide +kernel
theorem dX9_teach_65 : decode cX9_teach 65 = .ok (.iadd, 1) := by decide +kernel
theorem dX9_teach_66 : decode cX9_teach 66 = .ok (.iload_n 3, 1) := by decide +kernel
theorem dX9_teach_67 : decode cX9_teach 67 = .ok (.iastore, 1) := by decide +kernel
theorem dX9_teach_68 : decode cX9_teach 68 = .ok (.iload 4, 2) := by decide +kernel
theorem dX9_teach_70 : decode cX9_teach 70 = .ok (.ireturn, 1) := by decide +kernel
set_option maxRecDepth 20000 in
theorem ggX9_sets_X9_isLink : GoodIn wsX9_sets wsX9_isLink := goodIn_r _ [5, 6, 7, 4, 8] (by decide +kernel) (by decide +kernel)
set_option maxRecDepth 20000 in
theorem gX9_sets_X9_isLink : GoodIn wsX9_sets (va_wsS RX9 46 yX9_isLink wsX9_isLink) := goodIn_app (goodIn_of _ (by decide +kernel)) ggX9_sets_X9_isLink
set_option maxRecDepth 20000 in
theorem ggX9_sets_X9_in : GoodIn wsX9_sets wsX9_in := goodIn_r _ [8] (by decide +kernel) (by decide +kernel)
set_option maxRecDepth 20000 in
theorem gX9_sets_X9_in : GoodIn wsX9_sets (va_wsS RX9 35 yX9_in wsX9_in) := goodIn_app (goodIn_of _ (by decide +kernel)) ggX9_sets_X9_in
set_option maxRecDepth 20000 in
theorem ggX9_sets_X9_refused : GoodIn wsX9_sets wsX9_refused := goodIn_r _ [12, 13, 20, 21, 22, 23, 24, 25, 26, 27, 28, 29, 30, 31, 32, 33, 34, 35, 36, 37, 38, 39, 40, 41] (by decide +kernel) (by decide +kernel)
set_option maxRecDepth 20000 in
theorem gX9_sets_X9_refused : GoodIn wsX9_sets (wsV RX9 53 RX9 yX9_refused wsX9_refused) := goodIn_app (goodIn_of _ (by decide +kernel)) ggX9_sets_X9_refused
set_option maxRecDepth 20000 in
theorem ggX9_sets_X9_saves : GoodIn wsX9_sets wsX9_saves := goodIn_r _ [17, 18, 19, 1, 20, 21, 22, 23, 24, 25, 26, 27, 28, 29, 30, 31, 32, 33, 34, 35, 36, 37, 38, 39, 40, 41] (by decide +kernel) (by decide +kernel)
set_option maxRecDepth 20000 in
theorem gX9_sets_X9_saves : GoodIn wsX9_sets (wsV RX9 56 RX9 yX9_saves wsX9_saves) := goodIn_app (goodIn_of _ (by decide +kernel)) ggX9_sets_X9_saves
theorem dX9_sets_0 : decode cX9_sets 0 = .ok (.aload_n 0, 1) := by decide +kernel
theorem dX9_sets_1 : decode cX9_sets 1 = .ok (.iload_n 2, 1) := by decide +kernel
theorem dX9_sets_2 : decode cX9_sets 2 = .ok (.invokestatic 46, 3) := by decide +kernel
theorem dX9_sets_5 : decode cX9_sets 5 = .ok (.ifCond .ne 7, 3) := by decide +kernel
theorem dX9_sets_8 : decode cX9_sets 8 = .ok (.iconst 1, 1) := by decide +kernel
theorem dX9_sets_9 : decode cX9_sets 9 = .ok (.goto 18, 3) := by decide +kernel
theorem dX9_sets_12 : decode cX9_sets 12 = .ok (.iload_n 3, 1) := by decide +kernel
theorem dX9_sets_13 : decode cX9_sets 13 = .ok (.iconst 0, 1) := by decide +kernel
theorem dX9_sets_14 : decode cX9_sets 14 = .ok (.bipush 9, 2) := by decide +kernel
theorem dX9_sets_16 : decode cX9_sets 16 = .ok (.invokestatic 35, 3) := by decide +kernel
theorem dX9_sets_19 : decode cX9_sets 19 = .ok (.ifCond .eq 7, 3) := by decide +kernel
theorem dX9_sets_22 : decode cX9_sets 22 = .ok (.iconst 0, 1) := by decide +kernel
theorem dX9_sets_23 : decode cX9_sets 23 = .ok (.goto 4, 3) := by decide +kernel
theorem dX9_sets_26 : decode cX9_sets 26 = .ok (.iconst 2, 1) := by decide +kernel
theorem dX9_sets_27 : decode cX9_sets 27 = .ok (.invokevirtual 53, 3) := by decide +kernel
theorem dX9_sets_30 : decode cX9_sets 30 = .ok (.ifCond .eq 5, 3) := by decide +kernel
theorem dX9_sets_33 : decode cX9_sets 33 = .ok (.iconst 0, 1) := by decide +kernel
theorem dX9_sets_34 : decode cX9_sets 34 = .ok (.ireturn, 1) := by decide +kernel
theorem dX9_sets_35 : decode cX9_sets 35 = .ok (.aload_n 0, 1) := by decide +kernel
theorem dX9_sets_36 : decode cX9_sets 36 = .ok (.invokevirtual 56, 3) := by decide +kernel
theorem dX9_sets_39 : decode cX9_sets 39 = .ok (.aload_n 0, 1) := by decide +kernel
theorem dX9_sets_40 : decode cX9_sets 40 = .ok (.getfield 7, 3) := by decide +kernel
theorem dX9_sets_43 : decode cX9_sets 43 = .ok (.iload_n 1, 1) := by decide +kernel
theorem dX9_sets_44 : decode cX9_sets 44 = .ok (.iload_n 2, 1) := by decide +kernel
theorem dX9_sets_45 : decode cX9_sets 45 = .ok (.iadd, 1) := by decide +kernel
theorem dX9_sets_46 : decode cX9_sets 46 = .ok (.iaload, 1) := by decide +kernel
theorem dX9_sets_47 : decode cX9_sets 47 = .ok (.istore 4, 2) := by decide +kernel
theorem dX9_sets_49 : decode cX9_sets 49 = .ok (.aload_n 0, 1) := by decide +kernel
theorem dX9_sets_50 : decode cX9_sets 50 = .ok (.getfield 7, 3) := by decide +kernel
theorem dX9_sets_53 : decode cX9_sets 53 = .ok (.iload_n 1, 1) := by decide +kernel
theorem dX9_sets_54 : decode cX9_sets 54 = .ok (.iload_n 2, 1) := by decide +kernel
theorem dX9_sets_55 : decode cX9_sets 55 = .ok (.iadd, 1) := by decide +kernel
theorem dX9_sets_56 : decode cX9_sets 56 = .ok (.iload_n 3, 1) := by decide +kernel
theorem dX9_sets_57 : decode cX9_sets 57 = .ok (.iastore, 1) := by decide +kernel
theorem dX9_sets_58 : decode cX9_sets 58 = .ok (.iload 4, 2) := by decide +kernel
theorem dX9_sets_60 : decode cX9_sets 60 = .ok (.ireturn, 1) := by decide +kernel
set_option maxRecDepth 20000 in
theorem ggX9_ear_X9_sets : GoodIn wsX9_ear wsX9_sets := goodIn_r _ [5, 6, 7, 8, 4, 9, 10, 11, 12, 13, 14, 15, 16, 17, 18, 19, 20, 21, 22, 23, 24, 25, 26, 27, 28, 29, 30, 31, 32, 33, 34, 35, 36, 37, 38, 39, 40, 41, 42, 43, 44, 45] (by decide +kernel) (by decide +kernel)
set_option maxRecDepth 20000 in
theorem gX9_ear_X9_sets : GoodIn wsX9_ear (wsV RX9 59 RX9 yX9_sets wsX9_sets) := goodIn_app (goodIn_of _ (by decide +kernel)) ggX9_ear_X9_sets
theorem dX9_ear_0 : decode cX9_ear 0 = .ok (.aload_n 0, 1) := by decide +kernel
theorem dX9_ear_1 : decode cX9_ear 1 = .ok (.sipush 180, 3) := by decide +kernel
theorem dX9_ear_4 : decode cX9_ear 4 = .ok (.iload_n 1, 1) := by decide +kernel
theorem dX9_ear_5 : decode cX9_ear 5 = .ok (.iload_n 2, 1) := by decide +kernel
theorem dX9_ear_6 : decode cX9_ear 6 = .ok (.invokevirtual 59, 3) := by decide +kernel
theorem dX9_ear_9 : decode cX9_ear 9 = .ok (.ireturn, 1) := by decide +kernel
set_option maxRecDepth 20000 in
theorem ggX9_fee_X9_sets : GoodIn wsX9_fee wsX9_sets := goodIn_r _ [5, 6, 7, 8, 4, 9, 10, 11, 12, 13, 14, 15, 16, 17, 18, 19, 20, 21, 22, 23, 24, 25, 26, 27, 28, 29, 30, 31, 32, 33, 34, 35, 36, 37, 38, 39, 40, 41, 42, 43, 44, 45] (by decide +kernel) (by decide +kernel)
set_option maxRecDepth 20000 in
theorem gX9_fee_X9_sets : GoodIn wsX9_fee (wsV RX9 59 RX9 yX9_sets wsX9_sets) := goodIn_app (goodIn_of _ (by decide +kernel)) ggX9_fee_X9_sets
theorem dX9_fee_0 : decode cX9_fee 0 = .ok (.aload_n 0, 1) := by decide +kernel
theorem dX9_fee_1 : decode cX9_fee 1 = .ok (.sipush 186, 3) := by decide +kernel
theorem dX9_fee_4 : decode cX9_fee 4 = .ok (.iload_n 1, 1) := by decide +kernel
theorem dX9_fee_5 : decode cX9_fee 5 = .ok (.iload_n 2, 1) := by decide +kernel
theorem dX9_fee_6 : decode cX9_fee 6 = .ok (.invokevirtual 59, 3) := by decide +kernel
theorem dX9_fee_9 : decode cX9_fee 9 = .ok (.ireturn, 1) := by decide +kernel
set_option maxRecDepth 20000 in
theorem ggX9_hears_X9_meant : GoodIn wsX9_hears wsX9_meant := goodIn_r _ [11, 5, 16, 17, 18, 19, 20, 21, 22, 23, 24, 25, 26, 27, 28, 29, 30, 31, 32, 33, 34, 35, 36, 37] (by decide +kernel) (by decide +kernel)
set_option maxRecDepth 20000 in
theorem gX9_hears_X9_meant : GoodIn wsX9_hears (wsV RX9 42 RX9 yX9_meant wsX9_meant) := goodIn_app (goodIn_of _ (by decide +kernel)) ggX9_hears_X9_meant
set_option maxRecDepth 20000 in
theorem ggX9_hears_X9_lowest : GoodIn wsX9_hears wsX9_lowest := goodIn_r _ [15, 7, 8, 9, 10, 11, 5, 16, 17, 18, 19, 20, 21, 22, 23, 24, 25, 26, 27, 28, 29, 30, 31, 32, 33, 34, 35, 36, 37] (by decide +kernel) (by decide +kernel)
set_option maxRecDepth 20000 in
theorem gX9_hears_X9_lowest : GoodIn wsX9_hears (wsV RX9 73 RX9 yX9_lowest wsX9_lowest) := goodIn_app (goodIn_of _ (by decide +kernel)) ggX9_hears_X9_lowest
theorem dX9_hears_0 : decode cX9_hears 0 = .ok (.aload_n 0, 1) := by decide +kernel
theorem dX9_hears_1 : decode cX9_hears 1 = .ok (.iconst 0, 1) := by decide +kernel
theorem dX9_hears_2 : decode cX9_hears 2 = .ok (.putfield 63, 3) := by decide +kernel
theorem dX9_hears_5 : decode cX9_hears 5 = .ok (.aload_n 0, 1) := by decide +kernel
theorem dX9_hears_6 : decode cX9_hears 6 = .ok (.iconst 0, 1) := by decide +kernel
theorem dX9_hears_7 : decode cX9_hears 7 = .ok (.putfield 66, 3) := by decide +kernel
theorem dX9_hears_10 : decode cX9_hears 10 = .ok (.iconst 0, 1) := by decide +kernel
theorem dX9_hears_11 : decode cX9_hears 11 = .ok (.istore_n 3, 1) := by decide +kernel
theorem dX9_hears_12 : decode cX9_hears 12 = .ok (.iconst 0, 1) := by decide +kernel
theorem dX9_hears_13 : decode cX9_hears 13 = .ok (.istore 4, 2) := by decide +kernel
theorem dX9_hears_15 : decode cX9_hears 15 = .ok (.iload 4, 2) := by decide +kernel
theorem dX9_hears_17 : decode cX9_hears 17 = .ok (.aload_n 0, 1) := by decide +kernel
theorem dX9_hears_18 : decode cX9_hears 18 = .ok (.getfield 70, 3) := by decide +kernel
theorem dX9_hears_21 : decode cX9_hears 21 = .ok (.if_icmp .ge 136, 3) := by decide +kernel
theorem dX9_hears_24 : decode cX9_hears 24 = .ok (.aload_n 0, 1) := by decide +kernel
theorem dX9_hears_25 : decode cX9_hears 25 = .ok (.getfield 22, 3) := by decide +kernel
theorem dX9_hears_28 : decode cX9_hears 28 = .ok (.iload 4, 2) := by decide +kernel
theorem dX9_hears_30 : decode cX9_hears 30 = .ok (.iaload, 1) := by decide +kernel
theorem dX9_hears_31 : decode cX9_hears 31 = .ok (.istore 5, 2) := by decide +kernel
theorem dX9_hears_33 : decode cX9_hears 33 = .ok (.iload_n 2, 1) := by decide +kernel
theorem dX9_hears_34 : decode cX9_hears 34 = .ok (.ifCond .le 32, 3) := by decide +kernel
theorem dX9_hears_37 : decode cX9_hears 37 = .ok (.iload 4, 2) := by decide +kernel
theorem dX9_hears_39 : decode cX9_hears 39 = .ok (.iconst 1, 1) := by decide +kernel
theorem dX9_hears_40 : decode cX9_hears 40 = .ok (.iadd, 1) := by decide +kernel
theorem dX9_hears_41 : decode cX9_hears 41 = .ok (.iload_n 2, 1) := by decide +kernel
theorem dX9_hears_42 : decode cX9_hears 42 = .ok (.iconst 1, 1) := by decide +kernel
theorem dX9_hears_43 : decode cX9_hears 43 = .ok (.iadd, 1) := by decide +kernel
theorem dX9_hears_44 : decode cX9_hears 44 = .ok (.irem, 1) := by decide +kernel
theorem dX9_hears_45 : decode cX9_hears 45 = .ok (.ifCond .ne 21, 3) := by decide +kernel
theorem dX9_hears_48 : decode cX9_hears 48 = .ok (.aload_n 0, 1) := by decide +kernel
theorem dX9_hears_49 : decode cX9_hears 49 = .ok (.dup, 1) := by decide +kernel
theorem dX9_hears_50 : decode cX9_hears 50 = .ok (.getfield 63, 3) := by decide +kernel
theorem dX9_hears_53 : decode cX9_hears 53 = .ok (.iconst 1, 1) := by decide +kernel
theorem dX9_hears_54 : decode cX9_hears 54 = .ok (.iadd, 1) := by decide +kernel
theorem dX9_hears_55 : decode cX9_hears 55 = .ok (.putfield 63, 3) := by decide +kernel
theorem dX9_hears_58 : decode cX9_hears 58 = .ok (.aload_n 0, 1) := by decide +kernel
theorem dX9_hears_59 : decode cX9_hears 59 = .ok (.iconst 1, 1) := by decide +kernel
theorem dX9_hears_60 : decode cX9_hears 60 = .ok (.putfield 66, 3) := by decide +kernel
theorem dX9_hears_63 : decode cX9_hears 63 = .ok (.goto 88, 3) := by decide +kernel
theorem dX9_hears_66 : decode cX9_hears 66 = .ok (.iload 5, 2) := by decide +kernel
theorem dX9_hears_68 : decode cX9_hears 68 = .ok (.bipush 30, 2) := by decide +kernel
theorem dX9_hears_70 : decode cX9_hears 70 = .ok (.if_icmp .eq 14, 3) := by decide +kernel
theorem dX9_hears_73 : decode cX9_hears 73 = .ok (.aload_n 0, 1) := by decide +kernel
theorem dX9_hears_74 : decode cX9_hears 74 = .ok (.iload_n 1, 1) := by decide +kernel
theorem dX9_hears_75 : decode cX9_hears 75 = .ok (.iload 5, 2) := by decide +kernel
theorem dX9_hears_77 : decode cX9_hears 77 = .ok (.invokevirtual 42, 3) := by decide +kernel
theorem dX9_hears_80 : decode cX9_hears 80 = .ok (.iconst (-1), 1) := by decide +kernel
theorem dX9_hears_81 : decode cX9_hears 81 = .ok (.if_icmp .ne 8, 3) := by decide +kernel
theorem dX9_hears_84 : decode cX9_hears 84 = .ok (.bipush 30, 2) := by decide +kernel
theorem dX9_hears_86 : decode cX9_hears 86 = .ok (.goto 10, 3) := by decide +kernel
theorem dX9_hears_89 : decode cX9_hears 89 = .ok (.aload_n 0, 1) := by decide +kernel
theorem dX9_hears_90 : decode cX9_hears 90 = .ok (.iload_n 1, 1) := by decide +kernel
theorem dX9_hears_91 : decode cX9_hears 91 = .ok (.iload 5, 2) := by decide +kernel
theorem dX9_hears_93 : decode cX9_hears 93 = .ok (.invokevirtual 42, 3) := by decide +kernel
theorem dX9_hears_96 : decode cX9_hears 96 = .ok (.istore 6, 2) := by decide +kernel
theorem dX9_hears_98 : decode cX9_hears 98 = .ok (.aload_n 0, 1) := by decide +kernel
theorem dX9_hears_99 : decode cX9_hears 99 = .ok (.aload_n 0, 1) := by decide +kernel
theorem dX9_hears_100 : decode cX9_hears 100 = .ok (.getfield 66, 3) := by decide +kernel
theorem dX9_hears_103 : decode cX9_hears 103 = .ok (.ifCond .ne 29, 3) := by decide +kernel
theorem dX9_hears_106 : decode cX9_hears 106 = .ok (.iload 5, 2) := by decide +kernel
theorem dX9_hears_108 : decode cX9_hears 108 = .ok (.bipush 30, 2) := by decide +kernel
theorem dX9_hears_110 : decode cX9_hears 110 = .ok (.if_icmp .eq 26, 3) := by decide +kernel
theorem dX9_hears_113 : decode cX9_hears 113 = .ok (.iload 6, 2) := by decide +kernel
theorem dX9_hears_115 : decode cX9_hears 115 = .ok (.bipush 30, 2) := by decide +kernel
theorem dX9_hears_117 : decode cX9_hears 117 = .ok (.if_icmp .eq 15, 3) := by decide +kernel
theorem dX9_hears_120 : decode cX9_hears 120 = .ok (.aload_n 0, 1) := by decide +kernel
theorem dX9_hears_121 : decode cX9_hears 121 = .ok (.iload_n 1, 1) := by decide +kernel
theorem dX9_hears_122 : decode cX9_hears 122 = .ok (.iload 6, 2) := by decide +kernel
theorem dX9_hears_124 : decode cX9_hears 124 = .ok (.invokevirtual 73, 3) := by decide +kernel
theorem dX9_hears_127 : decode cX9_hears 127 = .ok (.iload 5, 2) := by decide +kernel
theorem dX9_hears_129 : decode cX9_hears 129 = .ok (.if_icmp .eq 7, 3) := by decide +kernel
theorem dX9_hears_132 : decode cX9_hears 132 = .ok (.iconst 1, 1) := by decide +kernel
theorem dX9_hears_133 : decode cX9_hears 133 = .ok (.goto 4, 3) := by decide +kernel
theorem dX9_hears_136 : decode cX9_hears 136 = .ok (.iconst 0, 1) := by decide +kernel
theorem dX9_hears_137 : decode cX9_hears 137 = .ok (.putfield 66, 3) := by decide +kernel
theorem dX9_hears_140 : decode cX9_hears 140 = .ok (.aload_n 0, 1) := by decide +kernel
theorem dX9_hears_141 : decode cX9_hears 141 = .ok (.getfield 22, 3) := by decide +kernel
theorem dX9_hears_144 : decode cX9_hears 144 = .ok (.iload_n 3, 1) := by decide +kernel
theorem dX9_hears_145 : decode cX9_hears 145 = .ok (.iload 6, 2) := by decide +kernel
theorem dX9_hears_147 : decode cX9_hears 147 = .ok (.iastore, 1) := by decide +kernel
theorem dX9_hears_148 : decode cX9_hears 148 = .ok (.iinc 3 1, 3) := by decide +kernel
theorem dX9_hears_151 : decode cX9_hears 151 = .ok (.iinc 4 1, 3) := by decide +kernel
theorem dX9_hears_154 : decode cX9_hears 154 = .ok (.goto (-139), 3) := by decide +kernel
theorem dX9_hears_157 : decode cX9_hears 157 = .ok (.aload_n 0, 1) := by decide +kernel
theorem dX9_hears_158 : decode cX9_hears 158 = .ok (.iload_n 3, 1) := by decide +kernel
theorem dX9_hears_159 : decode cX9_hears 159 = .ok (.putfield 70, 3) := by decide +kernel
theorem dX9_hears_162 : decode cX9_hears 162 = .ok (.aload_n 0, 1) := by decide +kernel
theorem dX9_hears_163 : decode cX9_hears 163 = .ok (.iload_n 3, 1) := by decide +kernel
theorem dX9_hears_164 : decode cX9_hears 164 = .ok (.aload_n 0, 1) := by decide +kernel
theorem dX9_hears_165 : decode cX9_hears 165 = .ok (.getfield 7, 3) := by decide +kernel
theorem dX9_hears_168 : decode cX9_hears 168 = .ok (.sipush 186, 3) := by decide +kernel
theorem dX9_hears_171 : decode cX9_hears 171 = .ok (.iload_n 1, 1) := by decide +kernel
theorem dX9_hears_172 : decode cX9_hears 172 = .ok (.iadd, 1) := by decide +kernel
theorem dX9_hears_173 : decode cX9_hears 173 = .ok (.iaload, 1) := by decide +kernel
theorem dX9_hears_174 : decode cX9_hears 174 = .ok (.imul, 1) := by decide +kernel
theorem dX9_hears_175 : decode cX9_hears 175 = .ok (.putfield 76, 3) := by decide +kernel
theorem dX9_hears_178 : decode cX9_hears 178 = .ok (.return_, 1) := by decide +kernel
theorem dX9_lays_0 : decode cX9_lays 0 = .ok (.aload_n 0, 1) := by decide +kernel
theorem dX9_lays_1 : decode cX9_lays 1 = .ok (.aload_n 0, 1) := by decide +kernel
theorem dX9_lays_2 : decode cX9_lays 2 = .ok (.getfield 7, 3) := by decide +kernel
theorem dX9_lays_5 : decode cX9_lays 5 = .ok (.sipush 192, 3) := by decide +kernel
theorem dX9_lays_8 : decode cX9_lays 8 = .ok (.bipush 14, 2) := by decide +kernel
theorem dX9_lays_10 : decode cX9_lays 10 = .ok (.iload_n 1, 1) := by decide +kernel
theorem dX9_lays_11 : decode cX9_lays 11 = .ok (.imul, 1) := by decide +kernel
theorem dX9_lays_12 : decode cX9_lays 12 = .ok (.iadd, 1) := by decide +kernel
theorem dX9_lays_13 : decode cX9_lays 13 = .ok (.iconst 0, 1) := by decide +kernel
theorem dX9_lays_14 : decode cX9_lays 14 = .ok (.iadd, 1) := by decide +kernel
theorem dX9_lays_15 : decode cX9_lays 15 = .ok (.iaload, 1) := by decide +kernel
theorem dX9_lays_16 : decode cX9_lays 16 = .ok (.putfield 70, 3) := by decide +kernel
theorem dX9_lays_19 : decode cX9_lays 19 = .ok (.iconst 0, 1) := by decide +kernel
theorem dX9_lays_20 : decode cX9_lays 20 = .ok (.istore_n 2, 1) := by decide +kernel
theorem dX9_lays_21 : decode cX9_lays 21 = .ok (.iload_n 2, 1) := by decide +kernel
theorem dX9_lays_22 : decode cX9_lays 22 = .ok (.aload_n 0, 1) := by decide +kernel
theorem dX9_lays_23 : decode cX9_lays 23 = .ok (.getfield 70, 3) := by decide +kernel
theorem dX9_lays_26 : decode cX9_lays 26 = .ok (.if_icmp .ge 32, 3) := by decide +kernel
theorem dX9_lays_29 : decode cX9_lays 29 = .ok (.aload_n 0, 1) := by decide +kernel
theorem dX9_lays_30 : decode cX9_lays 30 = .ok (.getfield 22, 3) := by decide +kernel
theorem dX9_lays_33 : decode cX9_lays 33 = .ok (.iload_n 2, 1) := by decide +kernel
theorem dX9_lays_34 : decode cX9_lays 34 = .ok (.aload_n 0, 1) := by decide +kernel
theorem dX9_lays_35 : decode cX9_lays 35 = .ok (.getfield 7, 3) := by decide +kernel
theorem dX9_lays_38 : decode cX9_lays 38 = .ok (.sipush 192, 3) := by decide +kernel
theorem dX9_lays_41 : decode cX9_lays 41 = .ok (.bipush 14, 2) := by decide +kernel
theorem dX9_lays_43 : decode cX9_lays 43 = .ok (.iload_n 1, 1) := by decide +kernel
theorem dX9_lays_44 : decode cX9_lays 44 = .ok (.imul, 1) := by decide +kernel
theorem dX9_lays_45 : decode cX9_lays 45 = .ok (.iadd, 1) := by decide +kernel
theorem dX9_lays_46 : decode cX9_lays 46 = .ok (.iconst 2, 1) := by decide +kernel
theorem dX9_lays_47 : decode cX9_lays 47 = .ok (.iadd, 1) := by decide +kernel
theorem dX9_lays_48 : decode cX9_lays 48 = .ok (.iload_n 2, 1) := by decide +kernel
theorem dX9_lays_49 : decode cX9_lays 49 = .ok (.iadd, 1) := by decide +kernel
theorem dX9_lays_50 : decode cX9_lays 50 = .ok (.iaload, 1) := by decide +kernel
theorem dX9_lays_51 : decode cX9_lays 51 = .ok (.iastore, 1) := by decide +kernel
theorem dX9_lays_52 : decode cX9_lays 52 = .ok (.iinc 2 1, 3) := by decide +kernel
