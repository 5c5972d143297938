theorem dX9_arrived_0 : decode cX9_arrived 0 = .ok (.iload_n 2, 1) := by decide +kernel
theorem dX9_arrived_1 : decode cX9_arrived 1 = .ok (.iconst 1, 1) := by decide +kernel
theorem dX9_arrived_2 : decode cX9_arrived 2 = .ok (.if_icmp .ne 49, 3) := by decide +kernel
theorem dX9_arrived_5 : decode cX9_arrived 5 = .ok (.iconst 0, 1) := by decide +kernel
theorem dX9_arrived_6 : decode cX9_arrived 6 = .ok (.istore_n 3, 1) := by decide +kernel
theorem dX9_arrived_7 : decode cX9_arrived 7 = .ok (.iconst 0, 1) := by decide +kernel
theorem dX9_arrived_8 : decode cX9_arrived 8 = .ok (.istore 4, 2) := by decide +kernel
theorem dX9_arrived_10 : decode cX9_arrived 10 = .ok (.iload 4, 2) := by decide +kernel
theorem dX9_arrived_12 : decode cX9_arrived 12 = .ok (.aload_n 0, 1) := by decide +kernel
theorem dX9_arrived_13 : decode cX9_arrived 13 = .ok (.iload_n 1, 1) := by decide +kernel
theorem dX9_arrived_14 : decode cX9_arrived 14 = .ok (.iconst 0, 1) := by decide +kernel
theorem dX9_arrived_15 : decode cX9_arrived 15 = .ok (.invokevirtual 154, 3) := by decide +kernel
theorem dX9_arrived_18 : decode cX9_arrived 18 = .ok (.if_icmp .ge 31, 3) := by decide +kernel
theorem dX9_arrived_21 : decode cX9_arrived 21 = .ok (.iload_n 3, 1) := by decide +kernel
theorem dX9_arrived_22 : decode cX9_arrived 22 = .ok (.aload_n 0, 1) := by decide +kernel
theorem dX9_arrived_23 : decode cX9_arrived 23 = .ok (.iload_n 1, 1) := by decide +kernel
theorem dX9_arrived_24 : decode cX9_arrived 24 = .ok (.iconst 1, 1) := by decide +kernel
theorem dX9_arrived_25 : decode cX9_arrived 25 = .ok (.iload 4, 2) := by decide +kernel
theorem dX9_arrived_27 : decode cX9_arrived 27 = .ok (.iadd, 1) := by decide +kernel
theorem dX9_arrived_28 : decode cX9_arrived 28 = .ok (.invokevirtual 154, 3) := by decide +kernel
theorem dX9_arrived_31 : decode cX9_arrived 31 = .ok (.bipush 30, 2) := by decide +kernel
theorem dX9_arrived_33 : decode cX9_arrived 33 = .ok (.if_icmp .ne 7, 3) := by decide +kernel
theorem dX9_arrived_36 : decode cX9_arrived 36 = .ok (.iconst 1, 1) := by decide +kernel
theorem dX9_arrived_37 : decode cX9_arrived 37 = .ok (.goto 4, 3) := by decide +kernel
theorem dX9_arrived_40 : decode cX9_arrived 40 = .ok (.iconst 0, 1) := by decide +kernel
theorem dX9_arrived_41 : decode cX9_arrived 41 = .ok (.iadd, 1) := by decide +kernel
theorem dX9_arrived_42 : decode cX9_arrived 42 = .ok (.istore_n 3, 1) := by decide +kernel
theorem dX9_arrived_43 : decode cX9_arrived 43 = .ok (.iinc 4 1, 3) := by decide +kernel
theorem dX9_arrived_46 : decode cX9_arrived 46 = .ok (.goto (-36), 3) := by decide +kernel
theorem dX9_arrived_49 : decode cX9_arrived 49 = .ok (.iload_n 3, 1) := by decide +kernel
theorem dX9_arrived_50 : decode cX9_arrived 50 = .ok (.ireturn, 1) := by decide +kernel
theorem dX9_arrived_51 : decode cX9_arrived 51 = .ok (.aload_n 0, 1) := by decide +kernel
theorem dX9_arrived_52 : decode cX9_arrived 52 = .ok (.iload_n 1, 1) := by decide +kernel
theorem dX9_arrived_53 : decode cX9_arrived 53 = .ok (.iload_n 2, 1) := by decide +kernel
theorem dX9_arrived_54 : decode cX9_arrived 54 = .ok (.ifCond .ne 7, 3) := by decide +kernel
theorem dX9_arrived_57 : decode cX9_arrived 57 = .ok (.iconst 0, 1) := by decide +kernel
theorem dX9_arrived_58 : decode cX9_arrived 58 = .ok (.goto 35, 3) := by decide +kernel
theorem dX9_arrived_61 : decode cX9_arrived 61 = .ok (.iload_n 2, 1) := by decide +kernel
theorem dX9_arrived_62 : decode cX9_arrived 62 = .ok (.iconst 2, 1) := by decide +kernel
theorem dX9_arrived_63 : decode cX9_arrived 63 = .ok (.if_icmp .ne 8, 3) := by decide +kernel
theorem dX9_arrived_66 : decode cX9_arrived 66 = .ok (.bipush 13, 2) := by decide +kernel
theorem dX9_arrived_68 : decode cX9_arrived 68 = .ok (.goto 25, 3) := by decide +kernel
theorem dX9_arrived_71 : decode cX9_arrived 71 = .ok (.iload_n 2, 1) := by decide +kernel
theorem dX9_arrived_72 : decode cX9_arrived 72 = .ok (.iconst 3, 1) := by decide +kernel
theorem dX9_arrived_73 : decode cX9_arrived 73 = .ok (.if_icmp .ne 8, 3) := by decide +kernel
theorem dX9_arrived_76 : decode cX9_arrived 76 = .ok (.bipush 14, 2) := by decide +kernel
theorem dX9_arrived_78 : decode cX9_arrived 78 = .ok (.goto 15, 3) := by decide +kernel
theorem dX9_arrived_81 : decode cX9_arrived 81 = .ok (.iload_n 2, 1) := by decide +kernel
theorem dX9_arrived_82 : decode cX9_arrived 82 = .ok (.iconst 4, 1) := by decide +kernel
theorem dX9_arrived_83 : decode cX9_arrived 83 = .ok (.if_icmp .ne 8, 3) := by decide +kernel
theorem dX9_arrived_86 : decode cX9_arrived 86 = .ok (.bipush 15, 2) := by decide +kernel
theorem dX9_arrived_88 : decode cX9_arrived 88 = .ok (.goto 5, 3) := by decide +kernel
theorem dX9_arrived_91 : decode cX9_arrived 91 = .ok (.bipush 16, 2) := by decide +kernel
theorem dX9_arrived_93 : decode cX9_arrived 93 = .ok (.invokevirtual 154, 3) := by decide +kernel
theorem dX9_arrived_96 : decode cX9_arrived 96 = .ok (.ireturn, 1) := by decide +kernel
set_option maxRecDepth 20000 in
theorem ggX9_arrival_X9_in : GoodIn wsX9_arrival wsX9_in := goodIn_r _ [5] rfl (by decide +kernel)
set_option maxRecDepth 20000 in
theorem gX9_arrival_X9_in : GoodIn wsX9_arrival (va_wsS RX9 35 yX9_in wsX9_in) := goodIn_app (goodIn_of _ (by decide +kernel)) ggX9_arrival_X9_in
set_option maxRecDepth 20000 in
theorem ggX9_arrival_X9_refused : GoodIn wsX9_arrival wsX9_refused := goodIn_r _ [9, 10, 19, 20, 21, 22, 23, 24, 25, 26, 27, 28, 29, 30, 31, 32, 33, 34, 35, 36, 37, 38, 39, 40] rfl (by decide +kernel)
set_option maxRecDepth 20000 in
theorem gX9_arrival_X9_refused : GoodIn wsX9_arrival (wsV RX9 53 RX9 yX9_refused wsX9_refused) := goodIn_app (goodIn_of _ (by decide +kernel)) ggX9_arrival_X9_refused
set_option maxRecDepth 20000 in
theorem ggX9_arrival_X9_arrived : GoodIn wsX9_arrival wsX9_arrived := goodIn_r _ [14, 15, 16, 17, 4, 18, 1, 19, 20, 21, 22, 23, 24, 25, 26, 27, 28, 29, 30, 31, 32, 33, 34, 35, 36, 37, 38, 39, 40] rfl (by decide +kernel)
set_option maxRecDepth 20000 in
theorem gX9_arrival_X9_arrived : GoodIn wsX9_arrival (wsV RX9 178 RX9 yX9_arrived wsX9_arrived) := goodIn_app (goodIn_of _ (by decide +kernel)) ggX9_arrival_X9_arrived
theorem dX9_arrival_0 : decode cX9_arrival 0 = .ok (.aload_n 0, 1) := by decide +kernel
theorem dX9_arrival_1 : decode cX9_arrival 1 = .ok (.iload_n 1, 1) := by decide +kernel
theorem dX9_arrival_2 : decode cX9_arrival 2 = .ok (.iconst 0, 1) := by decide +kernel
theorem dX9_arrival_3 : decode cX9_arrival 3 = .ok (.iconst 5, 1) := by decide +kernel
theorem dX9_arrival_4 : decode cX9_arrival 4 = .ok (.invokestatic 35, 3) := by decide +kernel
theorem dX9_arrival_7 : decode cX9_arrival 7 = .ok (.ifCond .eq 16, 3) := by decide +kernel
theorem dX9_arrival_10 : decode cX9_arrival 10 = .ok (.iload_n 2, 1) := by decide +kernel
theorem dX9_arrival_11 : decode cX9_arrival 11 = .ok (.iconst 0, 1) := by decide +kernel
theorem dX9_arrival_12 : decode cX9_arrival 12 = .ok (.iconst 5, 1) := by decide +kernel
theorem dX9_arrival_13 : decode cX9_arrival 13 = .ok (.invokestatic 35, 3) := by decide +kernel
theorem dX9_arrival_16 : decode cX9_arrival 16 = .ok (.ifCond .eq 7, 3) := by decide +kernel
theorem dX9_arrival_19 : decode cX9_arrival 19 = .ok (.iconst 0, 1) := by decide +kernel
theorem dX9_arrival_20 : decode cX9_arrival 20 = .ok (.goto 4, 3) := by decide +kernel
theorem dX9_arrival_23 : decode cX9_arrival 23 = .ok (.iconst 1, 1) := by decide +kernel
theorem dX9_arrival_24 : decode cX9_arrival 24 = .ok (.invokevirtual 53, 3) := by decide +kernel
theorem dX9_arrival_27 : decode cX9_arrival 27 = .ok (.ifCond .eq 5, 3) := by decide +kernel
theorem dX9_arrival_30 : decode cX9_arrival 30 = .ok (.iconst 0, 1) := by decide +kernel
theorem dX9_arrival_31 : decode cX9_arrival 31 = .ok (.ireturn, 1) := by decide +kernel
theorem dX9_arrival_32 : decode cX9_arrival 32 = .ok (.iload_n 1, 1) := by decide +kernel
theorem dX9_arrival_33 : decode cX9_arrival 33 = .ok (.aload_n 0, 1) := by decide +kernel
theorem dX9_arrival_34 : decode cX9_arrival 34 = .ok (.getfield 7, 3) := by decide +kernel
theorem dX9_arrival_37 : decode cX9_arrival 37 = .ok (.sipush 408, 3) := by decide +kernel
theorem dX9_arrival_40 : decode cX9_arrival 40 = .ok (.iaload, 1) := by decide +kernel
theorem dX9_arrival_41 : decode cX9_arrival 41 = .ok (.if_icmp .ge 12, 3) := by decide +kernel
theorem dX9_arrival_44 : decode cX9_arrival 44 = .ok (.aload_n 0, 1) := by decide +kernel
theorem dX9_arrival_45 : decode cX9_arrival 45 = .ok (.iload_n 1, 1) := by decide +kernel
theorem dX9_arrival_46 : decode cX9_arrival 46 = .ok (.iload_n 2, 1) := by decide +kernel
theorem dX9_arrival_47 : decode cX9_arrival 47 = .ok (.invokevirtual 178, 3) := by decide +kernel
theorem dX9_arrival_50 : decode cX9_arrival 50 = .ok (.goto 4, 3) := by decide +kernel
theorem dX9_arrival_53 : decode cX9_arrival 53 = .ok (.iconst (-1), 1) := by decide +kernel
theorem dX9_arrival_54 : decode cX9_arrival 54 = .ok (.ireturn, 1) := by decide +kernel
theorem dX9_sum_0 : decode cX9_sum 0 = .ok (.iconst 0, 1) := by decide +kernel
theorem dX9_sum_1 : decode cX9_sum 1 = .ok (.istore_n 2, 1) := by decide +kernel
theorem dX9_sum_2 : decode cX9_sum 2 = .ok (.iconst 0, 1) := by decide +kernel
theorem dX9_sum_3 : decode cX9_sum 3 = .ok (.istore_n 3, 1) := by decide +kernel
theorem dX9_sum_4 : decode cX9_sum 4 = .ok (.iload_n 3, 1) := by decide +kernel
theorem dX9_sum_5 : decode cX9_sum 5 = .ok (.bipush 6, 2) := by decide +kernel
theorem dX9_sum_7 : decode cX9_sum 7 = .ok (.if_icmp .ge 20, 3) := by decide +kernel
theorem dX9_sum_10 : decode cX9_sum 10 = .ok (.iload_n 2, 1) := by decide +kernel
theorem dX9_sum_11 : decode cX9_sum 11 = .ok (.aload_n 0, 1) := by decide +kernel
theorem dX9_sum_12 : decode cX9_sum 12 = .ok (.getfield 7, 3) := by decide +kernel
theorem dX9_sum_15 : decode cX9_sum 15 = .ok (.iload_n 1, 1) := by decide +kernel
theorem dX9_sum_16 : decode cX9_sum 16 = .ok (.iload_n 3, 1) := by decide +kernel
theorem dX9_sum_17 : decode cX9_sum 17 = .ok (.iadd, 1) := by decide +kernel
theorem dX9_sum_18 : decode cX9_sum 18 = .ok (.iaload, 1) := by decide +kernel
theorem dX9_sum_19 : decode cX9_sum 19 = .ok (.iadd, 1) := by decide +kernel
theorem dX9_sum_20 : decode cX9_sum 20 = .ok (.istore_n 2, 1) := by decide +kernel
theorem dX9_sum_21 : decode cX9_sum 21 = .ok (.iinc 3 1, 3) := by decide +kernel
theorem dX9_sum_24 : decode cX9_sum 24 = .ok (.goto (-20), 3) := by decide +kernel
theorem dX9_sum_27 : decode cX9_sum 27 = .ok (.iload_n 2, 1) := by decide +kernel
theorem dX9_sum_28 : decode cX9_sum 28 = .ok (.ireturn, 1) := by decide +kernel
set_option maxRecDepth 20000 in
theorem ggX9_counts_X9_sum : GoodIn wsX9_counts wsX9_sum := goodIn_r _ [7, 1, 8, 9, 10, 11, 12, 13, 14, 15, 16, 17, 18, 19, 20, 21, 22, 23, 24, 25, 26, 27, 28, 29] rfl (by decide +kernel)
set_option maxRecDepth 20000 in
theorem gX9_counts_X9_sum : GoodIn wsX9_counts (wsV RX9 181 RX9 yX9_sum wsX9_sum) := goodIn_app (goodIn_of _ (by decide +kernel)) ggX9_counts_X9_sum
theorem dX9_counts_0 : decode cX9_counts 0 = .ok (.iload_n 1, 1) := by decide +kernel
theorem dX9_counts_1 : decode cX9_counts 1 = .ok (.tableswitch 91 0 5 #[39, 48, 57, 66, 75, 83], 39) := by decide +kernel
theorem dX9_counts_40 : decode cX9_counts 40 = .ok (.aload_n 0, 1) := by decide +kernel
theorem dX9_counts_41 : decode cX9_counts 41 = .ok (.getfield 7, 3) := by decide +kernel
theorem dX9_counts_44 : decode cX9_counts 44 = .ok (.sipush 304, 3) := by decide +kernel
theorem dX9_counts_47 : decode cX9_counts 47 = .ok (.iaload, 1) := by decide +kernel
theorem dX9_counts_48 : decode cX9_counts 48 = .ok (.ireturn, 1) := by decide +kernel
theorem dX9_counts_49 : decode cX9_counts 49 = .ok (.aload_n 0, 1) := by decide +kernel
theorem dX9_counts_50 : decode cX9_counts 50 = .ok (.getfield 7, 3) := by decide +kernel
theorem dX9_counts_53 : decode cX9_counts 53 = .ok (.sipush 305, 3) := by decide +kernel
theorem dX9_counts_56 : decode cX9_counts 56 = .ok (.iaload, 1) := by decide +kernel
theorem dX9_counts_57 : decode cX9_counts 57 = .ok (.ireturn, 1) := by decide +kernel
theorem dX9_counts_58 : decode cX9_counts 58 = .ok (.aload_n 0, 1) := by decide +kernel
theorem dX9_counts_59 : decode cX9_counts 59 = .ok (.getfield 7, 3) := by decide +kernel
theorem dX9_counts_62 : decode cX9_counts 62 = .ok (.sipush 408, 3) := by decide +kernel
theorem dX9_counts_65 : decode cX9_counts 65 = .ok (.iaload, 1) := by decide +kernel
theorem dX9_counts_66 : decode cX9_counts 66 = .ok (.ireturn, 1) := by decide +kernel
theorem dX9_counts_67 : decode cX9_counts 67 = .ok (.aload_n 0, 1) := by decide +kernel
theorem dX9_counts_68 : decode cX9_counts 68 = .ok (.getfield 7, 3) := by decide +kernel
theorem dX9_counts_71 : decode cX9_counts 71 = .ok (.sipush 409, 3) := by decide +kernel
theorem dX9_counts_74 : decode cX9_counts 74 = .ok (.iaload, 1) := by decide +kernel
theorem dX9_counts_75 : decode cX9_counts 75 = .ok (.ireturn, 1) := by decide +kernel
theorem dX9_counts_76 : decode cX9_counts 76 = .ok (.aload_n 0, 1) := by decide +kernel
theorem dX9_counts_77 : decode cX9_counts 77 = .ok (.sipush 416, 3) := by decide +kernel
theorem dX9_counts_80 : decode cX9_counts 80 = .ok (.invokevirtual 181, 3) := by decide +kernel
theorem dX9_counts_83 : decode cX9_counts 83 = .ok (.ireturn, 1) := by decide +kernel
theorem dX9_counts_84 : decode cX9_counts 84 = .ok (.aload_n 0, 1) := by decide +kernel
theorem dX9_counts_85 : decode cX9_counts 85 = .ok (.sipush 410, 3) := by decide +kernel
theorem dX9_counts_88 : decode cX9_counts 88 = .ok (.invokevirtual 181, 3) := by decide +kernel
theorem dX9_counts_91 : decode cX9_counts 91 = .ok (.ireturn, 1) := by decide +kernel
theorem dX9_counts_92 : decode cX9_counts 92 = .ok (.aload_n 0, 1) := by decide +kernel
theorem dX9_counts_93 : decode cX9_counts 93 = .ok (.getfield 39, 3) := by decide +kernel
theorem dX9_counts_96 : decode cX9_counts 96 = .ok (.ireturn, 1) := by decide +kernel
set_option maxRecDepth 20000 in
theorem ggX9_count_X9_in : GoodIn wsX9_count wsX9_in := goodIn_r _ [4] rfl (by decide +kernel)
set_option maxRecDepth 20000 in
theorem gX9_count_X9_in : GoodIn wsX9_count (va_wsS RX9 35 yX9_in wsX9_in) := goodIn_app (goodIn_of _ (by decide +kernel)) ggX9_count_X9_in
set_option maxRecDepth 20000 in
theorem ggX9_count_X9_refused : GoodIn wsX9_count wsX9_refused := goodIn_r _ [8, 9, 20, 21, 22, 23, 24, 25, 26, 27, 28, 29, 30, 31, 32, 33, 34, 35, 36, 37, 38, 39, 40, 41] rfl (by decide +kernel)
set_option maxRecDepth 20000 in
theorem gX9_count_X9_refused : GoodIn wsX9_count (wsV RX9 53 RX9 yX9_refused wsX9_refused) := goodIn_app (goodIn_of _ (by decide +kernel)) ggX9_count_X9_refused
set_option maxRecDepth 20000 in
theorem ggX9_count_X9_counts : GoodIn wsX9_count wsX9_counts := goodIn_r _ [13, 14, 15, 16, 17, 18, 3, 19, 20, 21, 22, 23, 24, 25, 26, 27, 28, 29, 30, 31, 32, 33, 34, 35, 36, 37, 38, 39, 40, 41] rfl (by decide +kernel)
set_option maxRecDepth 20000 in
theorem gX9_count_X9_counts : GoodIn wsX9_count (wsV RX9 184 RX9 yX9_counts wsX9_counts) := goodIn_app (goodIn_of _ (by decide +kernel)) ggX9_count_X9_counts
theorem dX9_count_0 : decode cX9_count 0 = .ok (.aload_n 0, 1) := by decide +kernel
theorem dX9_count_1 : decode cX9_count 1 = .ok (.iload_n 1, 1) := by decide +kernel
theorem dX9_count_2 : decode cX9_count 2 = .ok (.iconst 0, 1) := by decide +kernel
theorem dX9_count_3 : decode cX9_count 3 = .ok (.bipush 6, 2) := by decide +kernel
theorem dX9_count_5 : decode cX9_count 5 = .ok (.invokestatic 35, 3) := by decide +kernel
theorem dX9_count_8 : decode cX9_count 8 = .ok (.ifCond .eq 7, 3) := by decide +kernel
theorem dX9_count_11 : decode cX9_count 11 = .ok (.iconst 0, 1) := by decide +kernel
theorem dX9_count_12 : decode cX9_count 12 = .ok (.goto 4, 3) := by decide +kernel
theorem dX9_count_15 : decode cX9_count 15 = .ok (.iconst 1, 1) := by decide +kernel
theorem dX9_count_16 : decode cX9_count 16 = .ok (.invokevirtual 53, 3) := by decide +kernel
theorem dX9_count_19 : decode cX9_count 19 = .ok (.ifCond .eq 5, 3) := by decide +kernel
theorem dX9_count_22 : decode cX9_count 22 = .ok (.iconst 0, 1) := by decide +kernel
theorem dX9_count_23 : decode cX9_count 23 = .ok (.ireturn, 1) := by decide +kernel
theorem dX9_count_24 : decode cX9_count 24 = .ok (.aload_n 0, 1) := by decide +kernel
theorem dX9_count_25 : decode cX9_count 25 = .ok (.iload_n 1, 1) := by decide +kernel
theorem dX9_count_26 : decode cX9_count 26 = .ok (.invokevirtual 184, 3) := by decide +kernel
theorem dX9_count_29 : decode cX9_count 29 = .ok (.ireturn, 1) := by decide +kernel
theorem dX9_losing_0 : decode cX9_losing 0 = .ok (.iconst 0, 1) := by decide +kernel
theorem dX9_losing_1 : decode cX9_losing 1 = .ok (.istore_n 3, 1) := by decide +kernel
theorem dX9_losing_2 : decode cX9_losing 2 = .ok (.iload_n 3, 1) := by decide +kernel
theorem dX9_losing_3 : decode cX9_losing 3 = .ok (.bipush 30, 2) := by decide +kernel
theorem dX9_losing_5 : decode cX9_losing 5 = .ok (.if_icmp .ge 117, 3) := by decide +kernel
theorem dX9_losing_8 : decode cX9_losing 8 = .ok (.iconst 0, 1) := by decide +kernel
theorem dX9_losing_9 : decode cX9_losing 9 = .ok (.istore 4, 2) := by decide +kernel
theorem dX9_losing_11 : decode cX9_losing 11 = .ok (.iconst 0, 1) := by decide +kernel
theorem dX9_losing_12 : decode cX9_losing 12 = .ok (.istore 5, 2) := by decide +kernel
theorem dX9_losing_14 : decode cX9_losing 14 = .ok (.iload 5, 2) := by decide +kernel
theorem dX9_losing_16 : decode cX9_losing 16 = .ok (.bipush 30, 2) := by decide +kernel
theorem dX9_losing_18 : decode cX9_losing 18 = .ok (.if_icmp .ge 73, 3) := by decide +kernel
theorem dX9_losing_21 : decode cX9_losing 21 = .ok (.iload 4, 2) := by decide +kernel
theorem dX9_losing_23 : decode cX9_losing 23 = .ok (.aload_n 0, 1) := by decide +kernel
theorem dX9_losing_24 : decode cX9_losing 24 = .ok (.getfield 7, 3) := by decide +kernel
theorem dX9_losing_27 : decode cX9_losing 27 = .ok (.sipush 428, 3) := by decide +kernel
theorem dX9_losing_30 : decode cX9_losing 30 = .ok (.iload 5, 2) := by decide +kernel
theorem dX9_losing_32 : decode cX9_losing 32 = .ok (.iadd, 1) := by decide +kernel
theorem dX9_losing_33 : decode cX9_losing 33 = .ok (.iaload, 1) := by decide +kernel
theorem dX9_losing_34 : decode cX9_losing 34 = .ok (.aload_n 0, 1) := by decide +kernel
theorem dX9_losing_35 : decode cX9_losing 35 = .ok (.getfield 7, 3) := by decide +kernel
theorem dX9_losing_38 : decode cX9_losing 38 = .ok (.sipush 428, 3) := by decide +kernel
theorem dX9_losing_41 : decode cX9_losing 41 = .ok (.iload_n 3, 1) := by decide +kernel
theorem dX9_losing_42 : decode cX9_losing 42 = .ok (.iadd, 1) := by decide +kernel
theorem dX9_losing_43 : decode cX9_losing 43 = .ok (.iaload, 1) := by decide +kernel
theorem dX9_losing_44 : decode cX9_losing 44 = .ok (.if_icmp .gt 33, 3) := by decide +kernel
theorem dX9_losing_47 : decode cX9_losing 47 = .ok (.aload_n 0, 1) := by decide +kernel
theorem dX9_losing_48 : decode cX9_losing 48 = .ok (.getfield 7, 3) := by decide +kernel
theorem dX9_losing_51 : decode cX9_losing 51 = .ok (.sipush 428, 3) := by decide +kernel
theorem dX9_losing_54 : decode cX9_losing 54 = .ok (.iload 5, 2) := by decide +kernel
theorem dX9_losing_56 : decode cX9_losing 56 = .ok (.iadd, 1) := by decide +kernel
theorem dX9_losing_57 : decode cX9_losing 57 = .ok (.iaload, 1) := by decide +kernel
theorem dX9_losing_58 : decode cX9_losing 58 = .ok (.aload_n 0, 1) := by decide +kernel
theorem dX9_losing_59 : decode cX9_losing 59 = .ok (.getfield 7, 3) := by decide +kernel
theorem dX9_losing_62 : decode cX9_losing 62 = .ok (.sipush 428, 3) := by decide +kernel
theorem dX9_losing_65 : decode cX9_losing 65 = .ok (.iload_n 3, 1) := by decide +kernel
theorem dX9_losing_66 : decode cX9_losing 66 = .ok (.iadd, 1) := by decide +kernel
theorem dX9_losing_67 : decode cX9_losing 67 = .ok (.iaload, 1) := by decide +kernel
theorem dX9_losing_68 : decode cX9_losing 68 = .ok (.if_icmp .ne 13, 3) := by decide +kernel
theorem dX9_losing_71 : decode cX9_losing 71 = .ok (.iload 5, 2) := by decide +kernel
theorem dX9_losing_73 : decode cX9_losing 73 = .ok (.iload_n 3, 1) := by decide +kernel
theorem dX9_losing_74 : decode cX9_losing 74 = .ok (.if_icmp .ge 7, 3) := by decide +kernel
theorem dX9_losing_77 : decode cX9_losing 77 = .ok (.iconst 1, 1) := by decide +kernel
theorem dX9_losing_78 : decode cX9_losing 78 = .ok (.goto 4, 3) := by decide +kernel
theorem dX9_losing_81 : decode cX9_losing 81 = .ok (.iconst 0, 1) := by decide +kernel
theorem dX9_losing_82 : decode cX9_losing 82 = .ok (.iadd, 1) := by decide +kernel
theorem dX9_losing_83 : decode cX9_losing 83 = .ok (.istore 4, 2) := by decide +kernel
theorem dX9_losing_85 : decode cX9_losing 85 = .ok (.iinc 5 1, 3) := by decide +kernel
theorem dX9_losing_88 : decode cX9_losing 88 = .ok (.goto (-74), 3) := by decide +kernel
theorem dX9_losing_91 : decode cX9_losing 91 = .ok (.iload 4, 2) := by decide +kernel
theorem dX9_losing_93 : decode cX9_losing 93 = .ok (.iload_n 1, 1) := by decide +kernel
theorem dX9_losing_94 : decode cX9_losing 94 = .ok (.if_icmp .ne 22, 3) := by decide +kernel
theorem dX9_losing_97 : decode cX9_losing 97 = .ok (.iload_n 2, 1) := by decide +kernel
theorem dX9_losing_98 : decode cX9_losing 98 = .ok (.ifCond .ne 7, 3) := by decide +kernel
theorem dX9_losing_101 : decode cX9_losing 101 = .ok (.iload_n 3, 1) := by decide +kernel
theorem dX9_losing_102 : decode cX9_losing 102 = .ok (.goto 13, 3) := by decide +kernel
theorem dX9_losing_105 : decode cX9_losing 105 = .ok (.aload_n 0, 1) := by decide +kernel
theorem dX9_losing_106 : decode cX9_losing 106 = .ok (.getfield 7, 3) := by decide +kernel
theorem dX9_losing_109 : decode cX9_losing 109 = .ok (.sipush 428, 3) := by decide +kernel
theorem dX9_losing_112 : decode cX9_losing 112 = .ok (.iload_n 3, 1) := by decide +kernel
theorem dX9_losing_113 : decode cX9_losing 113 = .ok (.iadd, 1) := by decide +kernel
theorem dX9_losing_114 : decode cX9_losing 114 = .ok (.iaload, 1) := by decide +kernel
theorem dX9_losing_115 : decode cX9_losing 115 = .ok (.ireturn, 1) := by decide +kernel
theorem dX9_losing_116 : decode cX9_losing 116 = .ok (.iinc 3 1, 3) := by decide +kernel
theorem dX9_losing_119 : decode cX9_losing 119 = .ok (.goto (-117), 3) := by decide +kernel
theorem dX9_losing_122 : decode cX9_losing 122 = .ok (.iconst (-1), 1) := by decide +kernel
theorem dX9_losing_123 : decode cX9_losing 123 = .ok (.ireturn, 1) := by decide +kernel
set_option maxRecDepth 20000 in
theorem ggX9_lost_X9_in : GoodIn wsX9_lost wsX9_in := goodIn_r _ [4] rfl (by decide +kernel)
set_option maxRecDepth 20000 in
theorem gX9_lost_X9_in : GoodIn wsX9_lost (va_wsS RX9 35 yX9_in wsX9_in) := goodIn_app (goodIn_of _ (by decide +kernel)) ggX9_lost_X9_in
set_option maxRecDepth 20000 in
theorem ggX9_lost_X9_refused : GoodIn wsX9_lost wsX9_refused := goodIn_r _ [8, 9, 15, 16, 17, 18, 19, 20, 21, 22, 23, 24, 25, 26, 27, 28, 29, 30, 31, 32, 33, 34, 35, 36] rfl (by decide +kernel)
set_option maxRecDepth 20000 in
theorem gX9_lost_X9_refused : GoodIn wsX9_lost (wsV RX9 53 RX9 yX9_refused wsX9_refused) := goodIn_app (goodIn_of _ (by decide +kernel)) ggX9_lost_X9_refused
set_option maxRecDepth 20000 in
theorem ggX9_lost_X9_losing : GoodIn wsX9_lost wsX9_losing := goodIn_r _ [13, 14, 15, 16, 17, 18, 19, 20, 21, 22, 23, 24, 25, 26, 27, 28, 29, 30, 31, 32, 33, 34, 35, 36] rfl (by decide +kernel)
set_option maxRecDepth 20000 in
theorem gX9_lost_X9_losing : GoodIn wsX9_lost (wsV RX9 187 RX9 yX9_losing wsX9_losing) := goodIn_app (goodIn_of _ (by decide +kernel)) ggX9_lost_X9_losing
theorem dX9_lost_0 : decode cX9_lost 0 = .ok (.aload_n 0, 1) := by decide +kernel
theorem dX9_lost_1 : decode cX9_lost 1 = .ok (.iload_n 1, 1) := by decide +kernel
theorem dX9_lost_2 : decode cX9_lost 2 = .ok (.iconst 0, 1) := by decide +kernel
theorem dX9_lost_3 : decode cX9_lost 3 = .ok (.bipush 29, 2) := by decide +kernel
theorem dX9_lost_5 : decode cX9_lost 5 = .ok (.invokestatic 35, 3) := by decide +kernel
theorem dX9_lost_8 : decode cX9_lost 8 = .ok (.ifCond .eq 16, 3) := by decide +kernel
theorem dX9_lost_11 : decode cX9_lost 11 = .ok (.iload_n 2, 1) := by decide +kernel
theorem dX9_lost_12 : decode cX9_lost 12 = .ok (.iconst 0, 1) := by decide +kernel
theorem dX9_lost_13 : decode cX9_lost 13 = .ok (.iconst 1, 1) := by decide +kernel
theorem dX9_lost_14 : decode cX9_lost 14 = .ok (.invokestatic 35, 3) := by decide +kernel
theorem dX9_lost_17 : decode cX9_lost 17 = .ok (.ifCond .eq 7, 3) := by decide +kernel
theorem dX9_lost_20 : decode cX9_lost 20 = .ok (.iconst 0, 1) := by decide +kernel
theorem dX9_lost_21 : decode cX9_lost 21 = .ok (.goto 4, 3) := by decide +kernel
theorem dX9_lost_24 : decode cX9_lost 24 = .ok (.iconst 1, 1) := by decide +kernel
theorem dX9_lost_25 : decode cX9_lost 25 = .ok (.invokevirtual 53, 3) := by decide +kernel
theorem dX9_lost_28 : decode cX9_lost 28 = .ok (.ifCond .eq 5, 3) := by decide +kernel
theorem dX9_lost_31 : decode cX9_lost 31 = .ok (.iconst 0, 1) := by decide +kernel
theorem dX9_lost_32 : decode cX9_lost 32 = .ok (.ireturn, 1) := by decide +kernel
theorem dX9_lost_33 : decode cX9_lost 33 = .ok (.aload_n 0, 1) := by decide +kernel
theorem dX9_lost_34 : decode cX9_lost 34 = .ok (.iload_n 1, 1) := by decide +kernel
theorem dX9_lost_35 : decode cX9_lost 35 = .ok (.iload_n 2, 1) := by decide +kernel
theorem dX9_lost_36 : decode cX9_lost 36 = .ok (.invokevirtual 187, 3) := by decide +kernel
theorem dX9_lost_39 : decode cX9_lost 39 = .ok (.ireturn, 1) := by decide +kernel
set_option maxRecDepth 20000 in
theorem ggX9_gone_X9_ranked : GoodIn wsX9_gone wsX9_ranked := goodIn_r _ [9, 1, 32, 33, 34, 35, 36, 37, 38, 39, 40, 41, 42, 43, 44, 45, 46, 47, 48, 49, 50, 51, 52, 53] rfl (by decide +kernel)
set_option maxRecDepth 20000 in
theorem gX9_gone_X9_ranked : GoodIn wsX9_gone (wsV RX9 83 RX9 yX9_ranked wsX9_ranked) := goodIn_app (goodIn_of _ (by decide +kernel)) ggX9_gone_X9_ranked
set_option maxRecDepth 20000 in
theorem ggX9_gone_X9_lays : GoodIn wsX9_gone wsX9_lays := goodIn_r _ [13, 1, 2, 14, 32, 33, 34, 35, 36, 37, 38, 39, 40, 41, 42, 43, 44, 45, 46, 47, 48, 49, 50, 51, 52, 53] rfl (by decide +kernel)
set_option maxRecDepth 20000 in
theorem gX9_gone_X9_lays : GoodIn wsX9_gone (wsV RX9 87 RX9 yX9_lays wsX9_lays) := goodIn_app (goodIn_of _ (by decide +kernel)) ggX9_gone_X9_lays
set_option maxRecDepth 20000 in
theorem ggX9_gone_X9_hears : GoodIn wsX9_gone wsX9_hears := goodIn_r _ [18, 4, 19, 2, 14, 1, 3, 20, 21, 22, 8, 23, 24, 25, 26, 27, 32, 33, 34, 35, 36, 37, 38, 39, 40, 41, 42, 43, 44, 45, 46, 47, 48, 49, 50, 51, 52, 53] rfl (by decide +kernel)
set_option maxRecDepth 20000 in
theorem gX9_gone_X9_hears : GoodIn wsX9_gone (wsV RX9 79 RX9 yX9_hears wsX9_hears) := goodIn_app (goodIn_of _ (by decide +kernel)) ggX9_gone_X9_hears
set_option maxRecDepth 20000 in
theorem ggX9_gone_X9_mumbles : GoodIn wsX9_gone wsX9_mumbles := goodIn_r _ [31, 2, 14, 32, 33, 34, 35, 36, 37, 38, 39, 40, 41, 42, 43, 44, 45, 46, 47, 48, 49, 50, 51, 52, 53] rfl (by decide +kernel)
set_option maxRecDepth 20000 in
theorem gX9_gone_X9_mumbles : GoodIn wsX9_gone (wsV RX9 190 RX9 yX9_mumbles wsX9_mumbles) := goodIn_app (goodIn_of _ (by decide +kernel)) ggX9_gone_X9_mumbles
theorem dX9_gone_0 : decode cX9_gone 0 = .ok (.aload_n 0, 1) := by decide +kernel
theorem dX9_gone_1 : decode cX9_gone 1 = .ok (.getfield 7, 3) := by decide +kernel
theorem dX9_gone_4 : decode cX9_gone 4 = .ok (.sipush 304, 3) := by decide +kernel
theorem dX9_gone_7 : decode cX9_gone 7 = .ok (.iaload, 1) := by decide +kernel
theorem dX9_gone_8 : decode cX9_gone 8 = .ok (.ifCond .ne 5, 3) := by decide +kernel
theorem dX9_gone_11 : decode cX9_gone 11 = .ok (.iconst (-1), 1) := by decide +kernel
theorem dX9_gone_12 : decode cX9_gone 12 = .ok (.ireturn, 1) := by decide +kernel
theorem dX9_gone_13 : decode cX9_gone 13 = .ok (.aload_n 0, 1) := by decide +kernel
theorem dX9_gone_14 : decode cX9_gone 14 = .ok (.aload_n 0, 1) := by decide +kernel
theorem dX9_gone_15 : decode cX9_gone 15 = .ok (.iconst 0, 1) := by decide +kernel
theorem dX9_gone_16 : decode cX9_gone 16 = .ok (.invokevirtual 83, 3) := by decide +kernel
theorem dX9_gone_19 : decode cX9_gone 19 = .ok (.invokevirtual 87, 3) := by decide +kernel
theorem dX9_gone_22 : decode cX9_gone 22 = .ok (.iconst 0, 1) := by decide +kernel
theorem dX9_gone_23 : decode cX9_gone 23 = .ok (.istore_n 3, 1) := by decide +kernel
theorem dX9_gone_24 : decode cX9_gone 24 = .ok (.iload_n 3, 1) := by decide +kernel
theorem dX9_gone_25 : decode cX9_gone 25 = .ok (.iload_n 1, 1) := by decide +kernel
theorem dX9_gone_26 : decode cX9_gone 26 = .ok (.if_icmp .gt 24, 3) := by decide +kernel
theorem dX9_gone_29 : decode cX9_gone 29 = .ok (.aload_n 0, 1) := by decide +kernel
theorem dX9_gone_30 : decode cX9_gone 30 = .ok (.iload_n 3, 1) := by decide +kernel
theorem dX9_gone_31 : decode cX9_gone 31 = .ok (.aload_n 0, 1) := by decide +kernel
theorem dX9_gone_32 : decode cX9_gone 32 = .ok (.getfield 7, 3) := by decide +kernel
theorem dX9_gone_35 : decode cX9_gone 35 = .ok (.sipush 180, 3) := by decide +kernel
theorem dX9_gone_38 : decode cX9_gone 38 = .ok (.iload_n 3, 1) := by decide +kernel
theorem dX9_gone_39 : decode cX9_gone 39 = .ok (.iadd, 1) := by decide +kernel
theorem dX9_gone_40 : decode cX9_gone 40 = .ok (.iaload, 1) := by decide +kernel
theorem dX9_gone_41 : decode cX9_gone 41 = .ok (.invokevirtual 79, 3) := by decide +kernel
theorem dX9_gone_44 : decode cX9_gone 44 = .ok (.iinc 3 1, 3) := by decide +kernel
theorem dX9_gone_47 : decode cX9_gone 47 = .ok (.goto (-23), 3) := by decide +kernel
theorem dX9_gone_50 : decode cX9_gone 50 = .ok (.iload_n 2, 1) := by decide +kernel
theorem dX9_gone_51 : decode cX9_gone 51 = .ok (.ifCond .ne 10, 3) := by decide +kernel
theorem dX9_gone_54 : decode cX9_gone 54 = .ok (.aload_n 0, 1) := by decide +kernel
theorem dX9_gone_55 : decode cX9_gone 55 = .ok (.getfield 70, 3) := by decide +kernel
theorem dX9_gone_58 : decode cX9_gone 58 = .ok (.goto 31, 3) := by decide +kernel
theorem dX9_gone_61 : decode cX9_gone 61 = .ok (.iload_n 2, 1) := by decide +kernel
theorem dX9_gone_62 : decode cX9_gone 62 = .ok (.iconst 1, 1) := by decide +kernel
theorem dX9_gone_63 : decode cX9_gone 63 = .ok (.if_icmp .ne 10, 3) := by decide +kernel
theorem dX9_gone_66 : decode cX9_gone 66 = .ok (.aload_n 0, 1) := by decide +kernel
theorem dX9_gone_67 : decode cX9_gone 67 = .ok (.invokevirtual 190, 3) := by decide +kernel
theorem dX9_gone_70 : decode cX9_gone 70 = .ok (.goto 19, 3) := by decide +kernel
theorem dX9_gone_73 : decode cX9_gone 73 = .ok (.iload_n 2, 1) := by decide +kernel
theorem dX9_gone_74 : decode cX9_gone 74 = .ok (.iconst 2, 1) := by decide +kernel
theorem dX9_gone_75 : decode cX9_gone 75 = .ok (.if_icmp .ne 10, 3) := by decide +kernel
theorem dX9_gone_78 : decode cX9_gone 78 = .ok (.aload_n 0, 1) := by decide +kernel
theorem dX9_gone_79 : decode cX9_gone 79 = .ok (.getfield 76, 3) := by decide +kernel
theorem dX9_gone_82 : decode cX9_gone 82 = .ok (.goto 7, 3) := by decide +kernel
theorem dX9_gone_85 : decode cX9_gone 85 = .ok (.aload_n 0, 1) := by decide +kernel
theorem dX9_gone_86 : decode cX9_gone 86 = .ok (.getfield 63, 3) := by decide +kernel
theorem dX9_gone_89 : decode cX9_gone 89 = .ok (.ireturn, 1) := by decide +kernel
set_option maxRecDepth 20000 in
theorem ggX9_ifGone_X9_isLink : GoodIn wsX9_ifGone wsX9_isLink := goodIn_r _ [4, 5, 6, 3, 7] rfl (by decide +kernel)
set_option maxRecDepth 20000 in
theorem gX9_ifGone_X9_isLink : GoodIn wsX9_ifGone (va_wsS RX9 46 yX9_isLink wsX9_isLink) := goodIn_app (goodIn_of _ (by decide +kernel)) ggX9_ifGone_X9_isLink
set_option maxRecDepth 20000 in
theorem ggX9_ifGone_X9_in : GoodIn wsX9_ifGone wsX9_in := goodIn_r _ [7] rfl (by decide +kernel)
set_option maxRecDepth 20000 in
theorem gX9_ifGone_X9_in : GoodIn wsX9_ifGone (va_wsS RX9 35 yX9_in wsX9_in) := goodIn_app (goodIn_of _ (by decide +kernel)) ggX9_ifGone_X9_in
set_option maxRecDepth 20000 in
theorem ggX9_ifGone_X9_refused : GoodIn wsX9_ifGone wsX9_refused := goodIn_r _ [11, 12, 47, 48, 49, 50, 51, 52, 53, 54, 55, 56, 57, 58, 59, 60, 61, 62, 63, 64, 65, 66, 67, 68] rfl (by decide +kernel)
set_option maxRecDepth 20000 in
theorem gX9_ifGone_X9_refused : GoodIn wsX9_ifGone (wsV RX9 53 RX9 yX9_refused wsX9_refused) := goodIn_app (goodIn_of _ (by decide +kernel)) ggX9_ifGone_X9_refused
set_option maxRecDepth 20000 in
theorem ggX9_ifGone_X9_gone : GoodIn wsX9_ifGone wsX9_gone := goodIn_r _ [16, 17, 18, 19, 20, 21, 22, 23, 3, 24, 25, 26, 27, 28, 29, 30, 31, 32, 33, 34, 35, 36, 37, 38, 39, 40, 41, 42, 43, 44, 45, 46, 47, 48, 49, 50, 51, 52, 53, 54, 55, 56, 57, 58, 59, 60, 61, 62, 63, 64, 65, 66, 67, 68] rfl (by decide +kernel)
set_option maxRecDepth 20000 in
theorem gX9_ifGone_X9_gone : GoodIn wsX9_ifGone (wsV RX9 193 RX9 yX9_gone wsX9_gone) := goodIn_app (goodIn_of _ (by decide +kernel)) ggX9_ifGone_X9_gone
theorem dX9_ifGone_0 : decode cX9_ifGone 0 = .ok (.aload_n 0, 1) := by decide +kernel
theorem dX9_ifGone_1 : decode cX9_ifGone 1 = .ok (.iload_n 1, 1) := by decide +kernel
theorem dX9_ifGone_2 : decode cX9_ifGone 2 = .ok (.invokestatic 46, 3) := by decide +kernel
theorem dX9_ifGone_5 : decode cX9_ifGone 5 = .ok (.ifCond .ne 7, 3) := by decide +kernel
theorem dX9_ifGone_8 : decode cX9_ifGone 8 = .ok (.iconst 1, 1) := by decide +kernel
theorem dX9_ifGone_9 : decode cX9_ifGone 9 = .ok (.goto 17, 3) := by decide +kernel
theorem dX9_ifGone_12 : decode cX9_ifGone 12 = .ok (.iload_n 2, 1) := by decide +kernel
theorem dX9_ifGone_13 : decode cX9_ifGone 13 = .ok (.iconst 0, 1) := by decide +kernel
theorem dX9_ifGone_14 : decode cX9_ifGone 14 = .ok (.iconst 3, 1) := by decide +kernel
theorem dX9_ifGone_15 : decode cX9_ifGone 15 = .ok (.invokestatic 35, 3) := by decide +kernel
theorem dX9_ifGone_18 : decode cX9_ifGone 18 = .ok (.ifCond .eq 7, 3) := by decide +kernel
theorem dX9_ifGone_21 : decode cX9_ifGone 21 = .ok (.iconst 0, 1) := by decide +kernel
theorem dX9_ifGone_22 : decode cX9_ifGone 22 = .ok (.goto 4, 3) := by decide +kernel
theorem dX9_ifGone_25 : decode cX9_ifGone 25 = .ok (.iconst 2, 1) := by decide +kernel
theorem dX9_ifGone_26 : decode cX9_ifGone 26 = .ok (.invokevirtual 53, 3) := by decide +kernel
theorem dX9_ifGone_29 : decode cX9_ifGone 29 = .ok (.ifCond .eq 5, 3) := by decide +kernel
theorem dX9_ifGone_32 : decode cX9_ifGone 32 = .ok (.iconst 0, 1) := by decide +kernel
theorem dX9_ifGone_33 : decode cX9_ifGone 33 = .ok (.ireturn, 1) := by decide +kernel
theorem dX9_ifGone_34 : decode cX9_ifGone 34 = .ok (.aload_n 0, 1) := by decide +kernel
theorem dX9_ifGone_35 : decode cX9_ifGone 35 = .ok (.iload_n 1, 1) := by decide +kernel
theorem dX9_ifGone_36 : decode cX9_ifGone 36 = .ok (.iload_n 2, 1) := by decide +kernel
theorem dX9_ifGone_37 : decode cX9_ifGone 37 = .ok (.invokevirtual 193, 3) := by decide +kernel
theorem dX9_ifGone_40 : decode cX9_ifGone 40 = .ok (.ireturn, 1) := by decide +kernel
set_option maxRecDepth 20000 in
theorem ggX9_lostAt_X9_isWord : GoodIn wsX9_lostAt wsX9_isWord := goodIn_r _ [4, 5, 6, 3, 7] rfl (by decide +kernel)
set_option maxRecDepth 20000 in
theorem gX9_lostAt_X9_isWord : GoodIn wsX9_lostAt (va_wsS RX9 50 yX9_isWord wsX9_isWord) := goodIn_app (goodIn_of _ (by decide +kernel)) ggX9_lostAt_X9_isWord
set_option maxRecDepth 20000 in
theorem ggX9_lostAt_X9_refused : GoodIn wsX9_lostAt wsX9_refused := goodIn_r _ [11, 12, 35, 36, 37, 38, 39, 40, 41, 42, 43, 44, 45, 46, 47, 48, 49, 50, 51, 52, 53, 54, 55, 56] rfl (by decide +kernel)
set_option maxRecDepth 20000 in
theorem gX9_lostAt_X9_refused : GoodIn wsX9_lostAt (wsV RX9 53 RX9 yX9_refused wsX9_refused) := goodIn_app (goodIn_of _ (by decide +kernel)) ggX9_lostAt_X9_refused
set_option maxRecDepth 20000 in
theorem ggX9_lostAt_X9_lostOf : GoodIn wsX9_lostAt wsX9_lostOf := goodIn_r _ [16, 17, 18, 19, 20, 21, 22, 3, 23, 24, 25, 26, 27, 28, 29, 30, 31, 32, 33, 34, 35, 36, 37, 38, 39, 40, 41, 42, 43, 44, 45, 46, 47, 48, 49, 50, 51, 52, 53, 54, 55, 56] rfl (by decide +kernel)
set_option maxRecDepth 20000 in
theorem gX9_lostAt_X9_lostOf : GoodIn wsX9_lostAt (wsV RX9 95 RX9 yX9_lostOf wsX9_lostOf) := goodIn_app (goodIn_of _ (by decide +kernel)) ggX9_lostAt_X9_lostOf
theorem dX9_lostAt_0 : decode cX9_lostAt 0 = .ok (.aload_n 0, 1) := by decide +kernel
theorem dX9_lostAt_1 : decode cX9_lostAt 1 = .ok (.iload_n 1, 1) := by decide +kernel
theorem dX9_lostAt_2 : decode cX9_lostAt 2 = .ok (.invokestatic 50, 3) := by decide +kernel
theorem dX9_lostAt_5 : decode cX9_lostAt 5 = .ok (.ifCond .eq 7, 3) := by decide +kernel
theorem dX9_lostAt_8 : decode cX9_lostAt 8 = .ok (.iconst 0, 1) := by decide +kernel
theorem dX9_lostAt_9 : decode cX9_lostAt 9 = .ok (.goto 4, 3) := by decide +kernel
theorem dX9_lostAt_12 : decode cX9_lostAt 12 = .ok (.iconst 1, 1) := by decide +kernel
theorem dX9_lostAt_13 : decode cX9_lostAt 13 = .ok (.invokevirtual 53, 3) := by decide +kernel
theorem dX9_lostAt_16 : decode cX9_lostAt 16 = .ok (.ifCond .eq 5, 3) := by decide +kernel
theorem dX9_lostAt_19 : decode cX9_lostAt 19 = .ok (.iconst 0, 1) := by decide +kernel
theorem dX9_lostAt_20 : decode cX9_lostAt 20 = .ok (.ireturn, 1) := by decide +kernel
theorem dX9_lostAt_21 : decode cX9_lostAt 21 = .ok (.aload_n 0, 1) := by decide +kernel
theorem dX9_lostAt_22 : decode cX9_lostAt 22 = .ok (.iload_n 1, 1) := by decide +kernel
theorem dX9_lostAt_23 : decode cX9_lostAt 23 = .ok (.invokevirtual 95, 3) := by decide +kernel
theorem dX9_lostAt_26 : decode cX9_lostAt 26 = .ok (.ireturn, 1) := by decide +kernel
set_option maxRecDepth 20000 in
theorem ggX9_arrives_X9_lays : GoodIn wsX9_arrives wsX9_lays := goodIn_r _ [8, 1, 3, 9, 24, 25, 26, 27, 28, 29, 30, 31, 32, 33, 34, 35, 36, 37, 38, 39, 40, 41, 42, 43, 44, 45] rfl (by decide +kernel)
set_option maxRecDepth 20000 in
theorem gX9_arrives_X9_lays : GoodIn wsX9_arrives (wsV RX9 87 RX9 yX9_lays wsX9_lays) := goodIn_app (goodIn_of _ (by decide +kernel)) ggX9_arrives_X9_lays
set_option maxRecDepth 20000 in
theorem ggX9_arrives_X9_hears : GoodIn wsX9_arrives wsX9_hears := goodIn_r _ [13, 14, 15, 3, 9, 1, 2, 16, 17, 18, 7, 19, 20, 21, 22, 23, 24, 25, 26, 27, 28, 29, 30, 31, 32, 33, 34, 35, 36, 37, 38, 39, 40, 41, 42, 43, 44, 45] rfl (by decide +kernel)
set_option maxRecDepth 20000 in
theorem gX9_arrives_X9_hears : GoodIn wsX9_arrives (wsV RX9 79 RX9 yX9_hears wsX9_hears) := goodIn_app (goodIn_of _ (by decide +kernel)) ggX9_arrives_X9_hears
theorem dX9_arrives_0 : decode cX9_arrives 0 = .ok (.aload_n 0, 1) := by decide +kernel
theorem dX9_arrives_1 : decode cX9_arrives 1 = .ok (.iload_n 1, 1) := by decide +kernel
theorem dX9_arrives_2 : decode cX9_arrives 2 = .ok (.invokevirtual 87, 3) := by decide +kernel
theorem dX9_arrives_5 : decode cX9_arrives 5 = .ok (.iconst 0, 1) := by decide +kernel
theorem dX9_arrives_6 : decode cX9_arrives 6 = .ok (.istore_n 3, 1) := by decide +kernel
theorem dX9_arrives_7 : decode cX9_arrives 7 = .ok (.iconst 0, 1) := by decide +kernel
theorem dX9_arrives_8 : decode cX9_arrives 8 = .ok (.istore 4, 2) := by decide +kernel
theorem dX9_arrives_10 : decode cX9_arrives 10 = .ok (.iload 4, 2) := by decide +kernel
theorem dX9_arrives_12 : decode cX9_arrives 12 = .ok (.bipush 6, 2) := by decide +kernel
theorem dX9_arrives_14 : decode cX9_arrives 14 = .ok (.if_icmp .ge 43, 3) := by decide +kernel
theorem dX9_arrives_17 : decode cX9_arrives 17 = .ok (.aload_n 0, 1) := by decide +kernel
theorem dX9_arrives_18 : decode cX9_arrives 18 = .ok (.iload 4, 2) := by decide +kernel
theorem dX9_arrives_20 : decode cX9_arrives 20 = .ok (.iload 4, 2) := by decide +kernel
theorem dX9_arrives_22 : decode cX9_arrives 22 = .ok (.iload_n 2, 1) := by decide +kernel
theorem dX9_arrives_23 : decode cX9_arrives 23 = .ok (.if_icmp .ne 7, 3) := by decide +kernel
theorem dX9_arrives_26 : decode cX9_arrives 26 = .ok (.iconst 0, 1) := by decide +kernel
theorem dX9_arrives_27 : decode cX9_arrives 27 = .ok (.goto 14, 3) := by decide +kernel
theorem dX9_arrives_30 : decode cX9_arrives 30 = .ok (.aload_n 0, 1) := by decide +kernel
theorem dX9_arrives_31 : decode cX9_arrives 31 = .ok (.getfield 7, 3) := by decide +kernel
theorem dX9_arrives_34 : decode cX9_arrives 34 = .ok (.sipush 180, 3) := by decide +kernel
theorem dX9_arrives_37 : decode cX9_arrives 37 = .ok (.iload 4, 2) := by decide +kernel
theorem dX9_arrives_39 : decode cX9_arrives 39 = .ok (.iadd, 1) := by decide +kernel
theorem dX9_arrives_40 : decode cX9_arrives 40 = .ok (.iaload, 1) := by decide +kernel
theorem dX9_arrives_41 : decode cX9_arrives 41 = .ok (.invokevirtual 79, 3) := by decide +kernel
theorem dX9_arrives_44 : decode cX9_arrives 44 = .ok (.iload_n 3, 1) := by decide +kernel
theorem dX9_arrives_45 : decode cX9_arrives 45 = .ok (.aload_n 0, 1) := by decide +kernel
theorem dX9_arrives_46 : decode cX9_arrives 46 = .ok (.getfield 76, 3) := by decide +kernel
theorem dX9_arrives_49 : decode cX9_arrives 49 = .ok (.iadd, 1) := by decide +kernel
theorem dX9_arrives_50 : decode cX9_arrives 50 = .ok (.istore_n 3, 1) := by decide +kernel
theorem dX9_arrives_51 : decode cX9_arrives 51 = .ok (.iinc 4 1, 3) := by decide +kernel
theorem dX9_arrives_54 : decode cX9_arrives 54 = .ok (.goto (-44), 3) := by decide +kernel
theorem dX9_arrives_57 : decode cX9_arrives 57 = .ok (.aload_n 0, 1) := by decide +kernel
theorem dX9_arrives_58 : decode cX9_arrives 58 = .ok (.iload_n 3, 1) := by decide +kernel
theorem dX9_arrives_59 : decode cX9_arrives 59 = .ok (.putfield 76, 3) := by decide +kernel
theorem dX9_arrives_62 : decode cX9_arrives 62 = .ok (.aload_n 0, 1) := by decide +kernel
theorem dX9_arrives_63 : decode cX9_arrives 63 = .ok (.getfield 70, 3) := by decide +kernel
theorem dX9_arrives_66 : decode cX9_arrives 66 = .ok (.ireturn, 1) := by decide +kernel
set_option maxRecDepth 20000 in
theorem ggX9_worst_X9_ranked : GoodIn wsX9_worst wsX9_ranked := goodIn_r _ [6, 1, 32, 33, 34, 35, 36, 37, 38, 39, 40, 41, 42, 43, 44, 45, 46, 47, 48, 49, 50, 51, 52, 53] rfl (by decide +kernel)
set_option maxRecDepth 20000 in
theorem gX9_worst_X9_ranked : GoodIn wsX9_worst (wsV RX9 83 RX9 yX9_ranked wsX9_ranked) := goodIn_app (goodIn_of _ (by decide +kernel)) ggX9_worst_X9_ranked
set_option maxRecDepth 20000 in
theorem ggX9_worst_X9_arrives : GoodIn wsX9_worst wsX9_arrives := goodIn_r _ [10, 1, 11, 12, 13, 14, 15, 5, 16, 17, 18, 19, 20, 21, 22, 23, 24, 25, 26, 27, 28, 29, 30, 31, 32, 33, 34, 35, 36, 37, 38, 39, 40, 41, 42, 43, 44, 45, 46, 47, 48, 49, 50, 51, 52, 53] rfl (by decide +kernel)
set_option maxRecDepth 20000 in
theorem gX9_worst_X9_arrives : GoodIn wsX9_worst (wsV RX9 196 RX9 yX9_arrives wsX9_arrives) := goodIn_app (goodIn_of _ (by decide +kernel)) ggX9_worst_X9_arrives
