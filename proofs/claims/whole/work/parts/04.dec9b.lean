theorem dX9_lays_55 : decode cX9_lays 55 = .ok (.goto (-34), 3) := by decide +kernel
theorem dX9_lays_58 : decode cX9_lays 58 = .ok (.return_, 1) := by decide +kernel
set_option maxRecDepth 20000 in
theorem ggX9_comesBack_X9_lowest : GoodIn wsX9_comesBack wsX9_lowest := goodIn_r _ [9, 10, 11, 12, 8, 13, 2, 14, 15, 16, 17, 18, 19, 20, 21, 22, 23, 24, 25, 26, 27, 28, 29, 30, 31, 32, 33, 34, 35] (by decide +kernel) (by decide +kernel)
set_option maxRecDepth 20000 in
theorem gX9_comesBack_X9_lowest : GoodIn wsX9_comesBack (wsV RX9 73 RX9 yX9_lowest wsX9_lowest) := goodIn_app (goodIn_of _ (by decide +kernel)) ggX9_comesBack_X9_lowest
theorem dX9_comesBack_0 : decode cX9_comesBack 0 = .ok (.aload_n 0, 1) := by decide +kernel
theorem dX9_comesBack_1 : decode cX9_comesBack 1 = .ok (.getfield 70, 3) := by decide +kernel
theorem dX9_comesBack_4 : decode cX9_comesBack 4 = .ok (.aload_n 0, 1) := by decide +kernel
theorem dX9_comesBack_5 : decode cX9_comesBack 5 = .ok (.getfield 7, 3) := by decide +kernel
theorem dX9_comesBack_8 : decode cX9_comesBack 8 = .ok (.sipush 192, 3) := by decide +kernel
theorem dX9_comesBack_11 : decode cX9_comesBack 11 = .ok (.bipush 14, 2) := by decide +kernel
theorem dX9_comesBack_13 : decode cX9_comesBack 13 = .ok (.iload_n 2, 1) := by decide +kernel
theorem dX9_comesBack_14 : decode cX9_comesBack 14 = .ok (.imul, 1) := by decide +kernel
theorem dX9_comesBack_15 : decode cX9_comesBack 15 = .ok (.iadd, 1) := by decide +kernel
theorem dX9_comesBack_16 : decode cX9_comesBack 16 = .ok (.iconst 0, 1) := by decide +kernel
theorem dX9_comesBack_17 : decode cX9_comesBack 17 = .ok (.iadd, 1) := by decide +kernel
theorem dX9_comesBack_18 : decode cX9_comesBack 18 = .ok (.iaload, 1) := by decide +kernel
theorem dX9_comesBack_19 : decode cX9_comesBack 19 = .ok (.if_icmp .ne 7, 3) := by decide +kernel
theorem dX9_comesBack_22 : decode cX9_comesBack 22 = .ok (.iconst 1, 1) := by decide +kernel
theorem dX9_comesBack_23 : decode cX9_comesBack 23 = .ok (.goto 4, 3) := by decide +kernel
theorem dX9_comesBack_26 : decode cX9_comesBack 26 = .ok (.iconst 0, 1) := by decide +kernel
theorem dX9_comesBack_27 : decode cX9_comesBack 27 = .ok (.istore_n 3, 1) := by decide +kernel
theorem dX9_comesBack_28 : decode cX9_comesBack 28 = .ok (.iconst 0, 1) := by decide +kernel
theorem dX9_comesBack_29 : decode cX9_comesBack 29 = .ok (.istore 4, 2) := by decide +kernel
theorem dX9_comesBack_31 : decode cX9_comesBack 31 = .ok (.iload 4, 2) := by decide +kernel
theorem dX9_comesBack_33 : decode cX9_comesBack 33 = .ok (.aload_n 0, 1) := by decide +kernel
theorem dX9_comesBack_34 : decode cX9_comesBack 34 = .ok (.getfield 70, 3) := by decide +kernel
theorem dX9_comesBack_37 : decode cX9_comesBack 37 = .ok (.if_icmp .ge 74, 3) := by decide +kernel
theorem dX9_comesBack_40 : decode cX9_comesBack 40 = .ok (.aload_n 0, 1) := by decide +kernel
theorem dX9_comesBack_41 : decode cX9_comesBack 41 = .ok (.getfield 25, 3) := by decide +kernel
theorem dX9_comesBack_44 : decode cX9_comesBack 44 = .ok (.iload 4, 2) := by decide +kernel
theorem dX9_comesBack_46 : decode cX9_comesBack 46 = .ok (.aload_n 0, 1) := by decide +kernel
theorem dX9_comesBack_47 : decode cX9_comesBack 47 = .ok (.getfield 22, 3) := by decide +kernel
theorem dX9_comesBack_50 : decode cX9_comesBack 50 = .ok (.iload 4, 2) := by decide +kernel
theorem dX9_comesBack_52 : decode cX9_comesBack 52 = .ok (.iaload, 1) := by decide +kernel
theorem dX9_comesBack_53 : decode cX9_comesBack 53 = .ok (.iastore, 1) := by decide +kernel
theorem dX9_comesBack_54 : decode cX9_comesBack 54 = .ok (.iload_n 1, 1) := by decide +kernel
theorem dX9_comesBack_55 : decode cX9_comesBack 55 = .ok (.istore 5, 2) := by decide +kernel
theorem dX9_comesBack_57 : decode cX9_comesBack 57 = .ok (.iload 5, 2) := by decide +kernel
theorem dX9_comesBack_59 : decode cX9_comesBack 59 = .ok (.ifCond .lt 46, 3) := by decide +kernel
theorem dX9_comesBack_62 : decode cX9_comesBack 62 = .ok (.aload_n 0, 1) := by decide +kernel
theorem dX9_comesBack_63 : decode cX9_comesBack 63 = .ok (.getfield 25, 3) := by decide +kernel
theorem dX9_comesBack_66 : decode cX9_comesBack 66 = .ok (.iload 4, 2) := by decide +kernel
theorem dX9_comesBack_68 : decode cX9_comesBack 68 = .ok (.aload_n 0, 1) := by decide +kernel
theorem dX9_comesBack_69 : decode cX9_comesBack 69 = .ok (.getfield 25, 3) := by decide +kernel
theorem dX9_comesBack_72 : decode cX9_comesBack 72 = .ok (.iload 4, 2) := by decide +kernel
theorem dX9_comesBack_74 : decode cX9_comesBack 74 = .ok (.iaload, 1) := by decide +kernel
theorem dX9_comesBack_75 : decode cX9_comesBack 75 = .ok (.bipush 30, 2) := by decide +kernel
theorem dX9_comesBack_77 : decode cX9_comesBack 77 = .ok (.if_icmp .ne 8, 3) := by decide +kernel
theorem dX9_comesBack_80 : decode cX9_comesBack 80 = .ok (.bipush 30, 2) := by decide +kernel
theorem dX9_comesBack_82 : decode cX9_comesBack 82 = .ok (.goto 16, 3) := by decide +kernel
theorem dX9_comesBack_85 : decode cX9_comesBack 85 = .ok (.aload_n 0, 1) := by decide +kernel
theorem dX9_comesBack_86 : decode cX9_comesBack 86 = .ok (.iload 5, 2) := by decide +kernel
theorem dX9_comesBack_88 : decode cX9_comesBack 88 = .ok (.aload_n 0, 1) := by decide +kernel
theorem dX9_comesBack_89 : decode cX9_comesBack 89 = .ok (.getfield 25, 3) := by decide +kernel
theorem dX9_comesBack_92 : decode cX9_comesBack 92 = .ok (.iload 4, 2) := by decide +kernel
theorem dX9_comesBack_94 : decode cX9_comesBack 94 = .ok (.iaload, 1) := by decide +kernel
theorem dX9_comesBack_95 : decode cX9_comesBack 95 = .ok (.invokevirtual 73, 3) := by decide +kernel
theorem dX9_comesBack_98 : decode cX9_comesBack 98 = .ok (.iastore, 1) := by decide +kernel
theorem dX9_comesBack_99 : decode cX9_comesBack 99 = .ok (.iinc 5 (-1), 3) := by decide +kernel
theorem dX9_comesBack_102 : decode cX9_comesBack 102 = .ok (.goto (-45), 3) := by decide +kernel
theorem dX9_comesBack_105 : decode cX9_comesBack 105 = .ok (.iinc 4 1, 3) := by decide +kernel
theorem dX9_comesBack_108 : decode cX9_comesBack 108 = .ok (.goto (-77), 3) := by decide +kernel
theorem dX9_comesBack_111 : decode cX9_comesBack 111 = .ok (.iconst 0, 1) := by decide +kernel
theorem dX9_comesBack_112 : decode cX9_comesBack 112 = .ok (.istore 4, 2) := by decide +kernel
theorem dX9_comesBack_114 : decode cX9_comesBack 114 = .ok (.iload 4, 2) := by decide +kernel
theorem dX9_comesBack_116 : decode cX9_comesBack 116 = .ok (.aload_n 0, 1) := by decide +kernel
theorem dX9_comesBack_117 : decode cX9_comesBack 117 = .ok (.getfield 70, 3) := by decide +kernel
theorem dX9_comesBack_120 : decode cX9_comesBack 120 = .ok (.if_icmp .ge 47, 3) := by decide +kernel
theorem dX9_comesBack_123 : decode cX9_comesBack 123 = .ok (.iload_n 3, 1) := by decide +kernel
theorem dX9_comesBack_124 : decode cX9_comesBack 124 = .ok (.ifCond .eq 43, 3) := by decide +kernel
theorem dX9_comesBack_127 : decode cX9_comesBack 127 = .ok (.aload_n 0, 1) := by decide +kernel
theorem dX9_comesBack_128 : decode cX9_comesBack 128 = .ok (.getfield 25, 3) := by decide +kernel
theorem dX9_comesBack_131 : decode cX9_comesBack 131 = .ok (.iload 4, 2) := by decide +kernel
theorem dX9_comesBack_133 : decode cX9_comesBack 133 = .ok (.iaload, 1) := by decide +kernel
theorem dX9_comesBack_134 : decode cX9_comesBack 134 = .ok (.aload_n 0, 1) := by decide +kernel
theorem dX9_comesBack_135 : decode cX9_comesBack 135 = .ok (.getfield 7, 3) := by decide +kernel
theorem dX9_comesBack_138 : decode cX9_comesBack 138 = .ok (.sipush 192, 3) := by decide +kernel
theorem dX9_comesBack_141 : decode cX9_comesBack 141 = .ok (.bipush 14, 2) := by decide +kernel
theorem dX9_comesBack_143 : decode cX9_comesBack 143 = .ok (.iload_n 2, 1) := by decide +kernel
theorem dX9_comesBack_144 : decode cX9_comesBack 144 = .ok (.imul, 1) := by decide +kernel
theorem dX9_comesBack_145 : decode cX9_comesBack 145 = .ok (.iadd, 1) := by decide +kernel
theorem dX9_comesBack_146 : decode cX9_comesBack 146 = .ok (.iconst 2, 1) := by decide +kernel
theorem dX9_comesBack_147 : decode cX9_comesBack 147 = .ok (.iadd, 1) := by decide +kernel
theorem dX9_comesBack_148 : decode cX9_comesBack 148 = .ok (.iload 4, 2) := by decide +kernel
theorem dX9_comesBack_150 : decode cX9_comesBack 150 = .ok (.iadd, 1) := by decide +kernel
theorem dX9_comesBack_151 : decode cX9_comesBack 151 = .ok (.iaload, 1) := by decide +kernel
theorem dX9_comesBack_152 : decode cX9_comesBack 152 = .ok (.if_icmp .ne 7, 3) := by decide +kernel
theorem dX9_comesBack_155 : decode cX9_comesBack 155 = .ok (.iconst 1, 1) := by decide +kernel
theorem dX9_comesBack_156 : decode cX9_comesBack 156 = .ok (.goto 4, 3) := by decide +kernel
theorem dX9_comesBack_159 : decode cX9_comesBack 159 = .ok (.iconst 0, 1) := by decide +kernel
theorem dX9_comesBack_160 : decode cX9_comesBack 160 = .ok (.istore_n 3, 1) := by decide +kernel
theorem dX9_comesBack_161 : decode cX9_comesBack 161 = .ok (.iinc 4 1, 3) := by decide +kernel
theorem dX9_comesBack_164 : decode cX9_comesBack 164 = .ok (.goto (-50), 3) := by decide +kernel
theorem dX9_comesBack_167 : decode cX9_comesBack 167 = .ok (.iload_n 3, 1) := by decide +kernel
theorem dX9_comesBack_168 : decode cX9_comesBack 168 = .ok (.ireturn, 1) := by decide +kernel
theorem dX9_mumbles_0 : decode cX9_mumbles 0 = .ok (.iconst 0, 1) := by decide +kernel
theorem dX9_mumbles_1 : decode cX9_mumbles 1 = .ok (.istore_n 1, 1) := by decide +kernel
theorem dX9_mumbles_2 : decode cX9_mumbles 2 = .ok (.iconst 0, 1) := by decide +kernel
theorem dX9_mumbles_3 : decode cX9_mumbles 3 = .ok (.istore_n 2, 1) := by decide +kernel
theorem dX9_mumbles_4 : decode cX9_mumbles 4 = .ok (.iload_n 2, 1) := by decide +kernel
theorem dX9_mumbles_5 : decode cX9_mumbles 5 = .ok (.aload_n 0, 1) := by decide +kernel
theorem dX9_mumbles_6 : decode cX9_mumbles 6 = .ok (.getfield 70, 3) := by decide +kernel
theorem dX9_mumbles_9 : decode cX9_mumbles 9 = .ok (.if_icmp .ge 28, 3) := by decide +kernel
theorem dX9_mumbles_12 : decode cX9_mumbles 12 = .ok (.iload_n 1, 1) := by decide +kernel
theorem dX9_mumbles_13 : decode cX9_mumbles 13 = .ok (.aload_n 0, 1) := by decide +kernel
theorem dX9_mumbles_14 : decode cX9_mumbles 14 = .ok (.getfield 22, 3) := by decide +kernel
theorem dX9_mumbles_17 : decode cX9_mumbles 17 = .ok (.iload_n 2, 1) := by decide +kernel
theorem dX9_mumbles_18 : decode cX9_mumbles 18 = .ok (.iaload, 1) := by decide +kernel
theorem dX9_mumbles_19 : decode cX9_mumbles 19 = .ok (.bipush 30, 2) := by decide +kernel
theorem dX9_mumbles_21 : decode cX9_mumbles 21 = .ok (.if_icmp .ne 7, 3) := by decide +kernel
theorem dX9_mumbles_24 : decode cX9_mumbles 24 = .ok (.iconst 1, 1) := by decide +kernel
theorem dX9_mumbles_25 : decode cX9_mumbles 25 = .ok (.goto 4, 3) := by decide +kernel
theorem dX9_mumbles_28 : decode cX9_mumbles 28 = .ok (.iconst 0, 1) := by decide +kernel
theorem dX9_mumbles_29 : decode cX9_mumbles 29 = .ok (.iadd, 1) := by decide +kernel
theorem dX9_mumbles_30 : decode cX9_mumbles 30 = .ok (.istore_n 1, 1) := by decide +kernel
theorem dX9_mumbles_31 : decode cX9_mumbles 31 = .ok (.iinc 2 1, 3) := by decide +kernel
theorem dX9_mumbles_34 : decode cX9_mumbles 34 = .ok (.goto (-30), 3) := by decide +kernel
theorem dX9_mumbles_37 : decode cX9_mumbles 37 = .ok (.iload_n 1, 1) := by decide +kernel
theorem dX9_mumbles_38 : decode cX9_mumbles 38 = .ok (.ireturn, 1) := by decide +kernel
set_option maxRecDepth 20000 in
theorem ggX9_lostOf_X9_hears : GoodIn wsX9_lostOf wsX9_hears := goodIn_r _ [8, 9, 3, 1, 2, 10, 11, 12, 13, 14, 7, 15, 16, 17, 18, 19, 20, 21, 22, 23, 24, 25, 26, 27, 28, 29, 30, 31, 32, 33, 34, 35, 36, 37, 38, 39, 40, 41] (by decide +kernel) (by decide +kernel)
set_option maxRecDepth 20000 in
theorem gX9_lostOf_X9_hears : GoodIn wsX9_lostOf (wsV RX9 79 RX9 yX9_hears wsX9_hears) := goodIn_app (goodIn_of _ (by decide +kernel)) ggX9_lostOf_X9_hears
theorem dX9_lostOf_0 : decode cX9_lostOf 0 = .ok (.aload_n 0, 1) := by decide +kernel
theorem dX9_lostOf_1 : decode cX9_lostOf 1 = .ok (.iconst 1, 1) := by decide +kernel
theorem dX9_lostOf_2 : decode cX9_lostOf 2 = .ok (.putfield 70, 3) := by decide +kernel
theorem dX9_lostOf_5 : decode cX9_lostOf 5 = .ok (.aload_n 0, 1) := by decide +kernel
theorem dX9_lostOf_6 : decode cX9_lostOf 6 = .ok (.getfield 22, 3) := by decide +kernel
theorem dX9_lostOf_9 : decode cX9_lostOf 9 = .ok (.iconst 0, 1) := by decide +kernel
theorem dX9_lostOf_10 : decode cX9_lostOf 10 = .ok (.iload_n 1, 1) := by decide +kernel
theorem dX9_lostOf_11 : decode cX9_lostOf 11 = .ok (.iastore, 1) := by decide +kernel
theorem dX9_lostOf_12 : decode cX9_lostOf 12 = .ok (.iconst 0, 1) := by decide +kernel
theorem dX9_lostOf_13 : decode cX9_lostOf 13 = .ok (.istore_n 2, 1) := by decide +kernel
theorem dX9_lostOf_14 : decode cX9_lostOf 14 = .ok (.iload_n 2, 1) := by decide +kernel
theorem dX9_lostOf_15 : decode cX9_lostOf 15 = .ok (.bipush 6, 2) := by decide +kernel
theorem dX9_lostOf_17 : decode cX9_lostOf 17 = .ok (.if_icmp .ge 24, 3) := by decide +kernel
theorem dX9_lostOf_20 : decode cX9_lostOf 20 = .ok (.aload_n 0, 1) := by decide +kernel
theorem dX9_lostOf_21 : decode cX9_lostOf 21 = .ok (.iload_n 2, 1) := by decide +kernel
theorem dX9_lostOf_22 : decode cX9_lostOf 22 = .ok (.iconst 0, 1) := by decide +kernel
theorem dX9_lostOf_23 : decode cX9_lostOf 23 = .ok (.invokevirtual 79, 3) := by decide +kernel
theorem dX9_lostOf_26 : decode cX9_lostOf 26 = .ok (.aload_n 0, 1) := by decide +kernel
theorem dX9_lostOf_27 : decode cX9_lostOf 27 = .ok (.getfield 66, 3) := by decide +kernel
theorem dX9_lostOf_30 : decode cX9_lostOf 30 = .ok (.ifCond .eq 5, 3) := by decide +kernel
theorem dX9_lostOf_33 : decode cX9_lostOf 33 = .ok (.iload_n 2, 1) := by decide +kernel
theorem dX9_lostOf_34 : decode cX9_lostOf 34 = .ok (.ireturn, 1) := by decide +kernel
theorem dX9_lostOf_35 : decode cX9_lostOf 35 = .ok (.iinc 2 1, 3) := by decide +kernel
theorem dX9_lostOf_38 : decode cX9_lostOf 38 = .ok (.goto (-24), 3) := by decide +kernel
theorem dX9_lostOf_41 : decode cX9_lostOf 41 = .ok (.iconst (-1), 1) := by decide +kernel
theorem dX9_lostOf_42 : decode cX9_lostOf 42 = .ok (.ireturn, 1) := by decide +kernel
theorem dX9_ranked_0 : decode cX9_ranked 0 = .ok (.iconst 0, 1) := by decide +kernel
theorem dX9_ranked_1 : decode cX9_ranked 1 = .ok (.istore_n 2, 1) := by decide +kernel
theorem dX9_ranked_2 : decode cX9_ranked 2 = .ok (.iload_n 2, 1) := by decide +kernel
theorem dX9_ranked_3 : decode cX9_ranked 3 = .ok (.aload_n 0, 1) := by decide +kernel
theorem dX9_ranked_4 : decode cX9_ranked 4 = .ok (.getfield 7, 3) := by decide +kernel
theorem dX9_ranked_7 : decode cX9_ranked 7 = .ok (.sipush 304, 3) := by decide +kernel
theorem dX9_ranked_10 : decode cX9_ranked 10 = .ok (.iaload, 1) := by decide +kernel
theorem dX9_ranked_11 : decode cX9_ranked 11 = .ok (.if_icmp .ge 98, 3) := by decide +kernel
theorem dX9_ranked_14 : decode cX9_ranked 14 = .ok (.iconst 0, 1) := by decide +kernel
theorem dX9_ranked_15 : decode cX9_ranked 15 = .ok (.istore_n 3, 1) := by decide +kernel
theorem dX9_ranked_16 : decode cX9_ranked 16 = .ok (.iconst 0, 1) := by decide +kernel
theorem dX9_ranked_17 : decode cX9_ranked 17 = .ok (.istore 4, 2) := by decide +kernel
theorem dX9_ranked_19 : decode cX9_ranked 19 = .ok (.iload 4, 2) := by decide +kernel
theorem dX9_ranked_21 : decode cX9_ranked 21 = .ok (.aload_n 0, 1) := by decide +kernel
theorem dX9_ranked_22 : decode cX9_ranked 22 = .ok (.getfield 7, 3) := by decide +kernel
theorem dX9_ranked_25 : decode cX9_ranked 25 = .ok (.sipush 304, 3) := by decide +kernel
theorem dX9_ranked_28 : decode cX9_ranked 28 = .ok (.iaload, 1) := by decide +kernel
theorem dX9_ranked_29 : decode cX9_ranked 29 = .ok (.if_icmp .ge 67, 3) := by decide +kernel
theorem dX9_ranked_32 : decode cX9_ranked 32 = .ok (.aload_n 0, 1) := by decide +kernel
theorem dX9_ranked_33 : decode cX9_ranked 33 = .ok (.getfield 7, 3) := by decide +kernel
theorem dX9_ranked_36 : decode cX9_ranked 36 = .ok (.sipush 192, 3) := by decide +kernel
theorem dX9_ranked_39 : decode cX9_ranked 39 = .ok (.bipush 14, 2) := by decide +kernel
theorem dX9_ranked_41 : decode cX9_ranked 41 = .ok (.iload 4, 2) := by decide +kernel
theorem dX9_ranked_43 : decode cX9_ranked 43 = .ok (.imul, 1) := by decide +kernel
theorem dX9_ranked_44 : decode cX9_ranked 44 = .ok (.iadd, 1) := by decide +kernel
theorem dX9_ranked_45 : decode cX9_ranked 45 = .ok (.iconst 1, 1) := by decide +kernel
theorem dX9_ranked_46 : decode cX9_ranked 46 = .ok (.iadd, 1) := by decide +kernel
theorem dX9_ranked_47 : decode cX9_ranked 47 = .ok (.iaload, 1) := by decide +kernel
theorem dX9_ranked_48 : decode cX9_ranked 48 = .ok (.aload_n 0, 1) := by decide +kernel
theorem dX9_ranked_49 : decode cX9_ranked 49 = .ok (.getfield 7, 3) := by decide +kernel
theorem dX9_ranked_52 : decode cX9_ranked 52 = .ok (.sipush 192, 3) := by decide +kernel
theorem dX9_ranked_55 : decode cX9_ranked 55 = .ok (.bipush 14, 2) := by decide +kernel
theorem dX9_ranked_57 : decode cX9_ranked 57 = .ok (.iload_n 2, 1) := by decide +kernel
theorem dX9_ranked_58 : decode cX9_ranked 58 = .ok (.imul, 1) := by decide +kernel
theorem dX9_ranked_59 : decode cX9_ranked 59 = .ok (.iadd, 1) := by decide +kernel
theorem dX9_ranked_60 : decode cX9_ranked 60 = .ok (.iconst 1, 1) := by decide +kernel
theorem dX9_ranked_61 : decode cX9_ranked 61 = .ok (.iadd, 1) := by decide +kernel
theorem dX9_ranked_62 : decode cX9_ranked 62 = .ok (.iaload, 1) := by decide +kernel
theorem dX9_ranked_63 : decode cX9_ranked 63 = .ok (.isub, 1) := by decide +kernel
theorem dX9_ranked_64 : decode cX9_ranked 64 = .ok (.istore 5, 2) := by decide +kernel
theorem dX9_ranked_66 : decode cX9_ranked 66 = .ok (.iload_n 3, 1) := by decide +kernel
theorem dX9_ranked_67 : decode cX9_ranked 67 = .ok (.iload 5, 2) := by decide +kernel
theorem dX9_ranked_69 : decode cX9_ranked 69 = .ok (.ifCond .gt 14, 3) := by decide +kernel
theorem dX9_ranked_72 : decode cX9_ranked 72 = .ok (.iload 5, 2) := by decide +kernel
theorem dX9_ranked_74 : decode cX9_ranked 74 = .ok (.ifCond .ne 13, 3) := by decide +kernel
theorem dX9_ranked_77 : decode cX9_ranked 77 = .ok (.iload 4, 2) := by decide +kernel
theorem dX9_ranked_79 : decode cX9_ranked 79 = .ok (.iload_n 2, 1) := by decide +kernel
theorem dX9_ranked_80 : decode cX9_ranked 80 = .ok (.if_icmp .ge 7, 3) := by decide +kernel
theorem dX9_ranked_83 : decode cX9_ranked 83 = .ok (.iconst 1, 1) := by decide +kernel
theorem dX9_ranked_84 : decode cX9_ranked 84 = .ok (.goto 4, 3) := by decide +kernel
theorem dX9_ranked_87 : decode cX9_ranked 87 = .ok (.iconst 0, 1) := by decide +kernel
theorem dX9_ranked_88 : decode cX9_ranked 88 = .ok (.iadd, 1) := by decide +kernel
theorem dX9_ranked_89 : decode cX9_ranked 89 = .ok (.istore_n 3, 1) := by decide +kernel
theorem dX9_ranked_90 : decode cX9_ranked 90 = .ok (.iinc 4 1, 3) := by decide +kernel
theorem dX9_ranked_93 : decode cX9_ranked 93 = .ok (.goto (-74), 3) := by decide +kernel
theorem dX9_ranked_96 : decode cX9_ranked 96 = .ok (.iload_n 3, 1) := by decide +kernel
theorem dX9_ranked_97 : decode cX9_ranked 97 = .ok (.iload_n 1, 1) := by decide +kernel
theorem dX9_ranked_98 : decode cX9_ranked 98 = .ok (.if_icmp .ne 5, 3) := by decide +kernel
theorem dX9_ranked_101 : decode cX9_ranked 101 = .ok (.iload_n 2, 1) := by decide +kernel
theorem dX9_ranked_102 : decode cX9_ranked 102 = .ok (.ireturn, 1) := by decide +kernel
theorem dX9_ranked_103 : decode cX9_ranked 103 = .ok (.iinc 2 1, 3) := by decide +kernel
theorem dX9_ranked_106 : decode cX9_ranked 106 = .ok (.goto (-104), 3) := by decide +kernel
theorem dX9_ranked_109 : decode cX9_ranked 109 = .ok (.iconst (-1), 1) := by decide +kernel
theorem dX9_ranked_110 : decode cX9_ranked 110 = .ok (.ireturn, 1) := by decide +kernel
set_option maxRecDepth 20000 in
theorem ggX9_goes_X9_ranked : GoodIn wsX9_goes wsX9_ranked := goodIn_r _ [11, 1, 37, 38, 39, 40, 41, 42, 43, 44, 45, 46, 47, 48, 49, 50, 51, 52, 53, 54, 55, 56, 57, 58] (by decide +kernel) (by decide +kernel)
set_option maxRecDepth 20000 in
theorem gX9_goes_X9_ranked : GoodIn wsX9_goes (wsV RX9 83 RX9 yX9_ranked wsX9_ranked) := goodIn_app (goodIn_of _ (by decide +kernel)) ggX9_goes_X9_ranked
set_option maxRecDepth 20000 in
theorem ggX9_goes_X9_lays : GoodIn wsX9_goes wsX9_lays := goodIn_r _ [15, 1, 5, 6, 37, 38, 39, 40, 41, 42, 43, 44, 45, 46, 47, 48, 49, 50, 51, 52, 53, 54, 55, 56, 57, 58] (by decide +kernel) (by decide +kernel)
set_option maxRecDepth 20000 in
theorem gX9_goes_X9_lays : GoodIn wsX9_goes (wsV RX9 87 RX9 yX9_lays wsX9_lays) := goodIn_app (goodIn_of _ (by decide +kernel)) ggX9_goes_X9_lays
set_option maxRecDepth 20000 in
theorem ggX9_goes_X9_hears : GoodIn wsX9_goes wsX9_hears := goodIn_r _ [19, 2, 4, 5, 6, 1, 3, 20, 21, 22, 10, 23, 24, 25, 26, 27, 37, 38, 39, 40, 41, 42, 43, 44, 45, 46, 47, 48, 49, 50, 51, 52, 53, 54, 55, 56, 57, 58] (by decide +kernel) (by decide +kernel)
set_option maxRecDepth 20000 in
theorem gX9_goes_X9_hears : GoodIn wsX9_goes (wsV RX9 79 RX9 yX9_hears wsX9_hears) := goodIn_app (goodIn_of _ (by decide +kernel)) ggX9_goes_X9_hears
set_option maxRecDepth 20000 in
theorem ggX9_goes_X9_comesBack : GoodIn wsX9_goes wsX9_comesBack := goodIn_r _ [31, 5, 1, 32, 6, 24, 25, 26, 10, 27, 20, 21, 22, 23, 37, 38, 39, 40, 41, 42, 43, 44, 45, 46, 47, 48, 49, 50, 51, 52, 53, 54, 55, 56, 57, 58] (by decide +kernel) (by decide +kernel)
set_option maxRecDepth 20000 in
theorem gX9_goes_X9_comesBack : GoodIn wsX9_goes (wsV RX9 91 RX9 yX9_comesBack wsX9_comesBack) := goodIn_app (goodIn_of _ (by decide +kernel)) ggX9_goes_X9_comesBack
set_option maxRecDepth 20000 in
theorem ggX9_goes_X9_lostOf : GoodIn wsX9_goes wsX9_lostOf := goodIn_r _ [36, 5, 6, 4, 16, 17, 18, 10, 19, 2, 1, 3, 20, 21, 22, 23, 24, 25, 26, 27, 37, 38, 39, 40, 41, 42, 43, 44, 45, 46, 47, 48, 49, 50, 51, 52, 53, 54, 55, 56, 57, 58] (by decide +kernel) (by decide +kernel)
set_option maxRecDepth 20000 in
theorem gX9_goes_X9_lostOf : GoodIn wsX9_goes (wsV RX9 95 RX9 yX9_lostOf wsX9_lostOf) := goodIn_app (goodIn_of _ (by decide +kernel)) ggX9_goes_X9_lostOf
theorem dX9_goes_0 : decode cX9_goes 0 = .ok (.aload_n 0, 1) := by decide +kernel
theorem dX9_goes_1 : decode cX9_goes 1 = .ok (.iconst 0, 1) := by decide +kernel
theorem dX9_goes_2 : decode cX9_goes 2 = .ok (.invokevirtual 83, 3) := by decide +kernel
theorem dX9_goes_5 : decode cX9_goes 5 = .ok (.istore_n 1, 1) := by decide +kernel
theorem dX9_goes_6 : decode cX9_goes 6 = .ok (.iconst (-1), 1) := by decide +kernel
theorem dX9_goes_7 : decode cX9_goes 7 = .ok (.istore_n 2, 1) := by decide +kernel
theorem dX9_goes_8 : decode cX9_goes 8 = .ok (.iconst (-1), 1) := by decide +kernel
theorem dX9_goes_9 : decode cX9_goes 9 = .ok (.istore_n 3, 1) := by decide +kernel
theorem dX9_goes_10 : decode cX9_goes 10 = .ok (.iconst 0, 1) := by decide +kernel
theorem dX9_goes_11 : decode cX9_goes 11 = .ok (.istore 4, 2) := by decide +kernel
theorem dX9_goes_13 : decode cX9_goes 13 = .ok (.aload_n 0, 1) := by decide +kernel
theorem dX9_goes_14 : decode cX9_goes 14 = .ok (.getfield 7, 3) := by decide +kernel
theorem dX9_goes_17 : decode cX9_goes 17 = .ok (.sipush 192, 3) := by decide +kernel
theorem dX9_goes_20 : decode cX9_goes 20 = .ok (.bipush 14, 2) := by decide +kernel
theorem dX9_goes_22 : decode cX9_goes 22 = .ok (.iload_n 1, 1) := by decide +kernel
theorem dX9_goes_23 : decode cX9_goes 23 = .ok (.imul, 1) := by decide +kernel
theorem dX9_goes_24 : decode cX9_goes 24 = .ok (.iadd, 1) := by decide +kernel
theorem dX9_goes_25 : decode cX9_goes 25 = .ok (.iconst 0, 1) := by decide +kernel
theorem dX9_goes_26 : decode cX9_goes 26 = .ok (.iadd, 1) := by decide +kernel
theorem dX9_goes_27 : decode cX9_goes 27 = .ok (.iaload, 1) := by decide +kernel
theorem dX9_goes_28 : decode cX9_goes 28 = .ok (.istore 5, 2) := by decide +kernel
theorem dX9_goes_30 : decode cX9_goes 30 = .ok (.aload_n 0, 1) := by decide +kernel
theorem dX9_goes_31 : decode cX9_goes 31 = .ok (.iload_n 1, 1) := by decide +kernel
theorem dX9_goes_32 : decode cX9_goes 32 = .ok (.invokevirtual 87, 3) := by decide +kernel
theorem dX9_goes_35 : decode cX9_goes 35 = .ok (.iconst 0, 1) := by decide +kernel
theorem dX9_goes_36 : decode cX9_goes 36 = .ok (.istore 6, 2) := by decide +kernel
theorem dX9_goes_38 : decode cX9_goes 38 = .ok (.iload 6, 2) := by decide +kernel
theorem dX9_goes_40 : decode cX9_goes 40 = .ok (.bipush 6, 2) := by decide +kernel
theorem dX9_goes_42 : decode cX9_goes 42 = .ok (.if_icmp .ge 112, 3) := by decide +kernel
theorem dX9_goes_45 : decode cX9_goes 45 = .ok (.aload_n 0, 1) := by decide +kernel
theorem dX9_goes_46 : decode cX9_goes 46 = .ok (.iload 6, 2) := by decide +kernel
theorem dX9_goes_48 : decode cX9_goes 48 = .ok (.aload_n 0, 1) := by decide +kernel
theorem dX9_goes_49 : decode cX9_goes 49 = .ok (.getfield 7, 3) := by decide +kernel
theorem dX9_goes_52 : decode cX9_goes 52 = .ok (.sipush 180, 3) := by decide +kernel
theorem dX9_goes_55 : decode cX9_goes 55 = .ok (.iload 6, 2) := by decide +kernel
theorem dX9_goes_57 : decode cX9_goes 57 = .ok (.iadd, 1) := by decide +kernel
theorem dX9_goes_58 : decode cX9_goes 58 = .ok (.iaload, 1) := by decide +kernel
theorem dX9_goes_59 : decode cX9_goes 59 = .ok (.invokevirtual 79, 3) := by decide +kernel
theorem dX9_goes_62 : decode cX9_goes 62 = .ok (.aload_n 0, 1) := by decide +kernel
theorem dX9_goes_63 : decode cX9_goes 63 = .ok (.getfield 7, 3) := by decide +kernel
theorem dX9_goes_66 : decode cX9_goes 66 = .ok (.sipush 410, 3) := by decide +kernel
theorem dX9_goes_69 : decode cX9_goes 69 = .ok (.iload 6, 2) := by decide +kernel
theorem dX9_goes_71 : decode cX9_goes 71 = .ok (.iadd, 1) := by decide +kernel
theorem dX9_goes_72 : decode cX9_goes 72 = .ok (.dup2, 1) := by decide +kernel
theorem dX9_goes_73 : decode cX9_goes 73 = .ok (.iaload, 1) := by decide +kernel
theorem dX9_goes_74 : decode cX9_goes 74 = .ok (.aload_n 0, 1) := by decide +kernel
theorem dX9_goes_75 : decode cX9_goes 75 = .ok (.getfield 63, 3) := by decide +kernel
theorem dX9_goes_78 : decode cX9_goes 78 = .ok (.iadd, 1) := by decide +kernel
theorem dX9_goes_79 : decode cX9_goes 79 = .ok (.iastore, 1) := by decide +kernel
theorem dX9_goes_80 : decode cX9_goes 80 = .ok (.aload_n 0, 1) := by decide +kernel
theorem dX9_goes_81 : decode cX9_goes 81 = .ok (.getfield 7, 3) := by decide +kernel
theorem dX9_goes_84 : decode cX9_goes 84 = .ok (.sipush 416, 3) := by decide +kernel
theorem dX9_goes_87 : decode cX9_goes 87 = .ok (.iload 6, 2) := by decide +kernel
theorem dX9_goes_89 : decode cX9_goes 89 = .ok (.iadd, 1) := by decide +kernel
theorem dX9_goes_90 : decode cX9_goes 90 = .ok (.dup2, 1) := by decide +kernel
theorem dX9_goes_91 : decode cX9_goes 91 = .ok (.iaload, 1) := by decide +kernel
theorem dX9_goes_92 : decode cX9_goes 92 = .ok (.aload_n 0, 1) := by decide +kernel
theorem dX9_goes_93 : decode cX9_goes 93 = .ok (.getfield 76, 3) := by decide +kernel
theorem dX9_goes_96 : decode cX9_goes 96 = .ok (.iadd, 1) := by decide +kernel
theorem dX9_goes_97 : decode cX9_goes 97 = .ok (.iastore, 1) := by decide +kernel
theorem dX9_goes_98 : decode cX9_goes 98 = .ok (.iload 4, 2) := by decide +kernel
theorem dX9_goes_100 : decode cX9_goes 100 = .ok (.aload_n 0, 1) := by decide +kernel
theorem dX9_goes_101 : decode cX9_goes 101 = .ok (.getfield 76, 3) := by decide +kernel
theorem dX9_goes_104 : decode cX9_goes 104 = .ok (.iadd, 1) := by decide +kernel
theorem dX9_goes_105 : decode cX9_goes 105 = .ok (.istore 4, 2) := by decide +kernel
theorem dX9_goes_107 : decode cX9_goes 107 = .ok (.iload_n 2, 1) := by decide +kernel
theorem dX9_goes_108 : decode cX9_goes 108 = .ok (.iconst (-1), 1) := by decide +kernel
theorem dX9_goes_109 : decode cX9_goes 109 = .ok (.if_icmp .ne 15, 3) := by decide +kernel
theorem dX9_goes_112 : decode cX9_goes 112 = .ok (.aload_n 0, 1) := by decide +kernel
theorem dX9_goes_113 : decode cX9_goes 113 = .ok (.getfield 66, 3) := by decide +kernel
theorem dX9_goes_116 : decode cX9_goes 116 = .ok (.ifCond .eq 8, 3) := by decide +kernel
theorem dX9_goes_119 : decode cX9_goes 119 = .ok (.iload 6, 2) := by decide +kernel
theorem dX9_goes_121 : decode cX9_goes 121 = .ok (.goto 4, 3) := by decide +kernel
theorem dX9_goes_124 : decode cX9_goes 124 = .ok (.iload_n 2, 1) := by decide +kernel
theorem dX9_goes_125 : decode cX9_goes 125 = .ok (.istore_n 2, 1) := by decide +kernel
theorem dX9_goes_126 : decode cX9_goes 126 = .ok (.iload_n 3, 1) := by decide +kernel
theorem dX9_goes_127 : decode cX9_goes 127 = .ok (.iconst (-1), 1) := by decide +kernel
theorem dX9_goes_128 : decode cX9_goes 128 = .ok (.if_icmp .ne 18, 3) := by decide +kernel
theorem dX9_goes_131 : decode cX9_goes 131 = .ok (.aload_n 0, 1) := by decide +kernel
theorem dX9_goes_132 : decode cX9_goes 132 = .ok (.iload 6, 2) := by decide +kernel
theorem dX9_goes_134 : decode cX9_goes 134 = .ok (.iload_n 1, 1) := by decide +kernel
theorem dX9_goes_135 : decode cX9_goes 135 = .ok (.invokevirtual 91, 3) := by decide +kernel
theorem dX9_goes_138 : decode cX9_goes 138 = .ok (.ifCond .ne 8, 3) := by decide +kernel
theorem dX9_goes_141 : decode cX9_goes 141 = .ok (.iload 6, 2) := by decide +kernel
theorem dX9_goes_143 : decode cX9_goes 143 = .ok (.goto 4, 3) := by decide +kernel
theorem dX9_goes_146 : decode cX9_goes 146 = .ok (.iload_n 3, 1) := by decide +kernel
theorem dX9_goes_147 : decode cX9_goes 147 = .ok (.istore_n 3, 1) := by decide +kernel
theorem dX9_goes_148 : decode cX9_goes 148 = .ok (.iinc 6 1, 3) := by decide +kernel
theorem dX9_goes_151 : decode cX9_goes 151 = .ok (.goto (-113), 3) := by decide +kernel
theorem dX9_goes_154 : decode cX9_goes 154 = .ok (.bipush 101, 2) := by decide +kernel
theorem dX9_goes_156 : decode cX9_goes 156 = .ok (.istore 6, 2) := by decide +kernel
theorem dX9_goes_158 : decode cX9_goes 158 = .ok (.iload 6, 2) := by decide +kernel
theorem dX9_goes_160 : decode cX9_goes 160 = .ok (.bipush 17, 2) := by decide +kernel
theorem dX9_goes_162 : decode cX9_goes 162 = .ok (.if_icmp .lt 34, 3) := by decide +kernel
theorem dX9_goes_165 : decode cX9_goes 165 = .ok (.aload_n 0, 1) := by decide +kernel
theorem dX9_goes_166 : decode cX9_goes 166 = .ok (.getfield 7, 3) := by decide +kernel
theorem dX9_goes_169 : decode cX9_goes 169 = .ok (.sipush 306, 3) := by decide +kernel
theorem dX9_goes_172 : decode cX9_goes 172 = .ok (.iload 6, 2) := by decide +kernel
theorem dX9_goes_174 : decode cX9_goes 174 = .ok (.iadd, 1) := by decide +kernel
theorem dX9_goes_175 : decode cX9_goes 175 = .ok (.aload_n 0, 1) := by decide +kernel
theorem dX9_goes_176 : decode cX9_goes 176 = .ok (.getfield 7, 3) := by decide +kernel
theorem dX9_goes_179 : decode cX9_goes 179 = .ok (.sipush 306, 3) := by decide +kernel
theorem dX9_goes_182 : decode cX9_goes 182 = .ok (.iload 6, 2) := by decide +kernel
theorem dX9_goes_184 : decode cX9_goes 184 = .ok (.iadd, 1) := by decide +kernel
theorem dX9_goes_185 : decode cX9_goes 185 = .ok (.bipush 17, 2) := by decide +kernel
theorem dX9_goes_187 : decode cX9_goes 187 = .ok (.isub, 1) := by decide +kernel
theorem dX9_goes_188 : decode cX9_goes 188 = .ok (.iaload, 1) := by decide +kernel
theorem dX9_goes_189 : decode cX9_goes 189 = .ok (.iastore, 1) := by decide +kernel
theorem dX9_goes_190 : decode cX9_goes 190 = .ok (.iinc 6 (-1), 3) := by decide +kernel
theorem dX9_goes_193 : decode cX9_goes 193 = .ok (.goto (-35), 3) := by decide +kernel
theorem dX9_goes_196 : decode cX9_goes 196 = .ok (.aload_n 0, 1) := by decide +kernel
theorem dX9_goes_197 : decode cX9_goes 197 = .ok (.getfield 7, 3) := by decide +kernel
theorem dX9_goes_200 : decode cX9_goes 200 = .ok (.sipush 306, 3) := by decide +kernel
theorem dX9_goes_203 : decode cX9_goes 203 = .ok (.aload_n 0, 1) := by decide +kernel
theorem dX9_goes_204 : decode cX9_goes 204 = .ok (.getfield 70, 3) := by decide +kernel
theorem dX9_goes_207 : decode cX9_goes 207 = .ok (.iastore, 1) := by decide +kernel
theorem dX9_goes_208 : decode cX9_goes 208 = .ok (.iconst 0, 1) := by decide +kernel
theorem dX9_goes_209 : decode cX9_goes 209 = .ok (.istore 6, 2) := by decide +kernel
theorem dX9_goes_211 : decode cX9_goes 211 = .ok (.iload 6, 2) := by decide +kernel
theorem dX9_goes_213 : decode cX9_goes 213 = .ok (.bipush 12, 2) := by decide +kernel
theorem dX9_goes_215 : decode cX9_goes 215 = .ok (.if_icmp .ge 40, 3) := by decide +kernel
theorem dX9_goes_218 : decode cX9_goes 218 = .ok (.aload_n 0, 1) := by decide +kernel
theorem dX9_goes_219 : decode cX9_goes 219 = .ok (.getfield 7, 3) := by decide +kernel
theorem dX9_goes_222 : decode cX9_goes 222 = .ok (.sipush 307, 3) := by decide +kernel
theorem dX9_goes_225 : decode cX9_goes 225 = .ok (.iload 6, 2) := by decide +kernel
theorem dX9_goes_227 : decode cX9_goes 227 = .ok (.iadd, 1) := by decide +kernel
theorem dX9_goes_228 : decode cX9_goes 228 = .ok (.iload 6, 2) := by decide +kernel
theorem dX9_goes_230 : decode cX9_goes 230 = .ok (.aload_n 0, 1) := by decide +kernel
theorem dX9_goes_231 : decode cX9_goes 231 = .ok (.getfield 70, 3) := by decide +kernel
theorem dX9_goes_234 : decode cX9_goes 234 = .ok (.if_icmp .ge 13, 3) := by decide +kernel
theorem dX9_goes_237 : decode cX9_goes 237 = .ok (.aload_n 0, 1) := by decide +kernel
theorem dX9_goes_238 : decode cX9_goes 238 = .ok (.getfield 22, 3) := by decide +kernel
theorem dX9_goes_241 : decode cX9_goes 241 = .ok (.iload 6, 2) := by decide +kernel
theorem dX9_goes_243 : decode cX9_goes 243 = .ok (.iaload, 1) := by decide +kernel
theorem dX9_goes_244 : decode cX9_goes 244 = .ok (.goto 4, 3) := by decide +kernel
theorem dX9_goes_247 : decode cX9_goes 247 = .ok (.iconst 0, 1) := by decide +kernel
theorem dX9_goes_248 : decode cX9_goes 248 = .ok (.iastore, 1) := by decide +kernel
theorem dX9_goes_249 : decode cX9_goes 249 = .ok (.iinc 6 1, 3) := by decide +kernel
theorem dX9_goes_252 : decode cX9_goes 252 = .ok (.goto (-41), 3) := by decide +kernel
theorem dX9_goes_255 : decode cX9_goes 255 = .ok (.aload_n 0, 1) := by decide +kernel
theorem dX9_goes_256 : decode cX9_goes 256 = .ok (.getfield 7, 3) := by decide +kernel
theorem dX9_goes_259 : decode cX9_goes 259 = .ok (.sipush 319, 3) := by decide +kernel
theorem dX9_goes_262 : decode cX9_goes 262 = .ok (.iload 4, 2) := by decide +kernel
theorem dX9_goes_264 : decode cX9_goes 264 = .ok (.iastore, 1) := by decide +kernel
theorem dX9_goes_265 : decode cX9_goes 265 = .ok (.aload_n 0, 1) := by decide +kernel
theorem dX9_goes_266 : decode cX9_goes 266 = .ok (.getfield 7, 3) := by decide +kernel
theorem dX9_goes_269 : decode cX9_goes 269 = .ok (.sipush 320, 3) := by decide +kernel
theorem dX9_goes_272 : decode cX9_goes 272 = .ok (.iload_n 2, 1) := by decide +kernel
theorem dX9_goes_273 : decode cX9_goes 273 = .ok (.iastore, 1) := by decide +kernel
theorem dX9_goes_274 : decode cX9_goes 274 = .ok (.aload_n 0, 1) := by decide +kernel
theorem dX9_goes_275 : decode cX9_goes 275 = .ok (.getfield 7, 3) := by decide +kernel
theorem dX9_goes_278 : decode cX9_goes 278 = .ok (.sipush 321, 3) := by decide +kernel
theorem dX9_goes_281 : decode cX9_goes 281 = .ok (.iload_n 3, 1) := by decide +kernel
theorem dX9_goes_282 : decode cX9_goes 282 = .ok (.iastore, 1) := by decide +kernel
theorem dX9_goes_283 : decode cX9_goes 283 = .ok (.aload_n 0, 1) := by decide +kernel
theorem dX9_goes_284 : decode cX9_goes 284 = .ok (.getfield 7, 3) := by decide +kernel
theorem dX9_goes_287 : decode cX9_goes 287 = .ok (.sipush 322, 3) := by decide +kernel
theorem dX9_goes_290 : decode cX9_goes 290 = .ok (.iload 5, 2) := by decide +kernel
theorem dX9_goes_292 : decode cX9_goes 292 = .ok (.iastore, 1) := by decide +kernel
theorem dX9_goes_293 : decode cX9_goes 293 = .ok (.aload_n 0, 1) := by decide +kernel
theorem dX9_goes_294 : decode cX9_goes 294 = .ok (.getfield 7, 3) := by decide +kernel
theorem dX9_goes_297 : decode cX9_goes 297 = .ok (.sipush 408, 3) := by decide +kernel
theorem dX9_goes_300 : decode cX9_goes 300 = .ok (.dup2, 1) := by decide +kernel
theorem dX9_goes_301 : decode cX9_goes 301 = .ok (.iaload, 1) := by decide +kernel
theorem dX9_goes_302 : decode cX9_goes 302 = .ok (.aload_n 0, 1) := by decide +kernel
theorem dX9_goes_303 : decode cX9_goes 303 = .ok (.getfield 7, 3) := by decide +kernel
theorem dX9_goes_306 : decode cX9_goes 306 = .ok (.sipush 408, 3) := by decide +kernel
theorem dX9_goes_309 : decode cX9_goes 309 = .ok (.iaload, 1) := by decide +kernel
theorem dX9_goes_310 : decode cX9_goes 310 = .ok (.bipush 6, 2) := by decide +kernel
theorem dX9_goes_312 : decode cX9_goes 312 = .ok (.if_icmp .ge 7, 3) := by decide +kernel
theorem dX9_goes_315 : decode cX9_goes 315 = .ok (.iconst 1, 1) := by decide +kernel
theorem dX9_goes_316 : decode cX9_goes 316 = .ok (.goto 4, 3) := by decide +kernel
theorem dX9_goes_319 : decode cX9_goes 319 = .ok (.iconst 0, 1) := by decide +kernel
theorem dX9_goes_320 : decode cX9_goes 320 = .ok (.iadd, 1) := by decide +kernel
theorem dX9_goes_321 : decode cX9_goes 321 = .ok (.iastore, 1) := by decide +kernel
theorem dX9_goes_322 : decode cX9_goes 322 = .ok (.aload_n 0, 1) := by decide +kernel
theorem dX9_goes_323 : decode cX9_goes 323 = .ok (.getfield 7, 3) := by decide +kernel
theorem dX9_goes_326 : decode cX9_goes 326 = .ok (.sipush 305, 3) := by decide +kernel
theorem dX9_goes_329 : decode cX9_goes 329 = .ok (.dup2, 1) := by decide +kernel
theorem dX9_goes_330 : decode cX9_goes 330 = .ok (.iaload, 1) := by decide +kernel
theorem dX9_goes_331 : decode cX9_goes 331 = .ok (.iconst 1, 1) := by decide +kernel
theorem dX9_goes_332 : decode cX9_goes 332 = .ok (.iadd, 1) := by decide +kernel
theorem dX9_goes_333 : decode cX9_goes 333 = .ok (.iastore, 1) := by decide +kernel
theorem dX9_goes_334 : decode cX9_goes 334 = .ok (.iload_n 2, 1) := by decide +kernel
theorem dX9_goes_335 : decode cX9_goes 335 = .ok (.iconst (-1), 1) := by decide +kernel
theorem dX9_goes_336 : decode cX9_goes 336 = .ok (.if_icmp .eq 116, 3) := by decide +kernel
theorem dX9_goes_339 : decode cX9_goes 339 = .ok (.aload_n 0, 1) := by decide +kernel
theorem dX9_goes_340 : decode cX9_goes 340 = .ok (.getfield 7, 3) := by decide +kernel
theorem dX9_goes_343 : decode cX9_goes 343 = .ok (.sipush 409, 3) := by decide +kernel
theorem dX9_goes_346 : decode cX9_goes 346 = .ok (.dup2, 1) := by decide +kernel
theorem dX9_goes_347 : decode cX9_goes 347 = .ok (.iaload, 1) := by decide +kernel
theorem dX9_goes_348 : decode cX9_goes 348 = .ok (.iconst 1, 1) := by decide +kernel
theorem dX9_goes_349 : decode cX9_goes 349 = .ok (.iadd, 1) := by decide +kernel
theorem dX9_goes_350 : decode cX9_goes 350 = .ok (.iastore, 1) := by decide +kernel
theorem dX9_goes_351 : decode cX9_goes 351 = .ok (.aload_n 0, 1) := by decide +kernel
theorem dX9_goes_352 : decode cX9_goes 352 = .ok (.getfield 7, 3) := by decide +kernel
theorem dX9_goes_355 : decode cX9_goes 355 = .ok (.sipush 422, 3) := by decide +kernel
theorem dX9_goes_358 : decode cX9_goes 358 = .ok (.iload_n 2, 1) := by decide +kernel
theorem dX9_goes_359 : decode cX9_goes 359 = .ok (.iadd, 1) := by decide +kernel
theorem dX9_goes_360 : decode cX9_goes 360 = .ok (.dup2, 1) := by decide +kernel
theorem dX9_goes_361 : decode cX9_goes 361 = .ok (.iaload, 1) := by decide +kernel
theorem dX9_goes_362 : decode cX9_goes 362 = .ok (.iconst 1, 1) := by decide +kernel
theorem dX9_goes_363 : decode cX9_goes 363 = .ok (.iadd, 1) := by decide +kernel
theorem dX9_goes_364 : decode cX9_goes 364 = .ok (.iastore, 1) := by decide +kernel
theorem dX9_goes_365 : decode cX9_goes 365 = .ok (.iconst 0, 1) := by decide +kernel
theorem dX9_goes_366 : decode cX9_goes 366 = .ok (.istore 6, 2) := by decide +kernel
theorem dX9_goes_368 : decode cX9_goes 368 = .ok (.iconst 0, 1) := by decide +kernel
theorem dX9_goes_369 : decode cX9_goes 369 = .ok (.istore 7, 2) := by decide +kernel
theorem dX9_goes_371 : decode cX9_goes 371 = .ok (.iload 7, 2) := by decide +kernel
theorem dX9_goes_373 : decode cX9_goes 373 = .ok (.iload 5, 2) := by decide +kernel
theorem dX9_goes_375 : decode cX9_goes 375 = .ok (.if_icmp .ge 77, 3) := by decide +kernel
theorem dX9_goes_378 : decode cX9_goes 378 = .ok (.aload_n 0, 1) := by decide +kernel
theorem dX9_goes_379 : decode cX9_goes 379 = .ok (.getfield 7, 3) := by decide +kernel
theorem dX9_goes_382 : decode cX9_goes 382 = .ok (.sipush 192, 3) := by decide +kernel
theorem dX9_goes_385 : decode cX9_goes 385 = .ok (.bipush 14, 2) := by decide +kernel
theorem dX9_goes_387 : decode cX9_goes 387 = .ok (.iload_n 1, 1) := by decide +kernel
theorem dX9_goes_388 : decode cX9_goes 388 = .ok (.imul, 1) := by decide +kernel
theorem dX9_goes_389 : decode cX9_goes 389 = .ok (.iadd, 1) := by decide +kernel
theorem dX9_goes_390 : decode cX9_goes 390 = .ok (.iconst 2, 1) := by decide +kernel
theorem dX9_goes_391 : decode cX9_goes 391 = .ok (.iadd, 1) := by decide +kernel
theorem dX9_goes_392 : decode cX9_goes 392 = .ok (.iload 7, 2) := by decide +kernel
theorem dX9_goes_394 : decode cX9_goes 394 = .ok (.iadd, 1) := by decide +kernel
theorem dX9_goes_395 : decode cX9_goes 395 = .ok (.iaload, 1) := by decide +kernel
theorem dX9_goes_396 : decode cX9_goes 396 = .ok (.istore 8, 2) := by decide +kernel
theorem dX9_goes_398 : decode cX9_goes 398 = .ok (.aload_n 0, 1) := by decide +kernel
theorem dX9_goes_399 : decode cX9_goes 399 = .ok (.getfield 7, 3) := by decide +kernel
theorem dX9_goes_402 : decode cX9_goes 402 = .ok (.sipush 428, 3) := by decide +kernel
theorem dX9_goes_405 : decode cX9_goes 405 = .ok (.iload 8, 2) := by decide +kernel
theorem dX9_goes_407 : decode cX9_goes 407 = .ok (.iadd, 1) := by decide +kernel
