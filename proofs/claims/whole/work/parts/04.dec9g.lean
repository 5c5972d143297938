theorem dX9_worst_0 : decode cX9_worst 0 = .ok (.aload_n 0, 1) := by decide +kernel
theorem dX9_worst_1 : decode cX9_worst 1 = .ok (.getfield 7, 3) := by decide +kernel
theorem dX9_worst_4 : decode cX9_worst 4 = .ok (.sipush 304, 3) := by decide +kernel
theorem dX9_worst_7 : decode cX9_worst 7 = .ok (.iaload, 1) := by decide +kernel
theorem dX9_worst_8 : decode cX9_worst 8 = .ok (.ifCond .ne 5, 3) := by decide +kernel
theorem dX9_worst_11 : decode cX9_worst 11 = .ok (.iconst (-1), 1) := by decide +kernel
theorem dX9_worst_12 : decode cX9_worst 12 = .ok (.ireturn, 1) := by decide +kernel
theorem dX9_worst_13 : decode cX9_worst 13 = .ok (.aload_n 0, 1) := by decide +kernel
theorem dX9_worst_14 : decode cX9_worst 14 = .ok (.iconst 0, 1) := by decide +kernel
theorem dX9_worst_15 : decode cX9_worst 15 = .ok (.invokevirtual 83, 3) := by decide +kernel
theorem dX9_worst_18 : decode cX9_worst 18 = .ok (.istore_n 1, 1) := by decide +kernel
theorem dX9_worst_19 : decode cX9_worst 19 = .ok (.aload_n 0, 1) := by decide +kernel
theorem dX9_worst_20 : decode cX9_worst 20 = .ok (.iload_n 1, 1) := by decide +kernel
theorem dX9_worst_21 : decode cX9_worst 21 = .ok (.iconst (-1), 1) := by decide +kernel
theorem dX9_worst_22 : decode cX9_worst 22 = .ok (.invokevirtual 196, 3) := by decide +kernel
theorem dX9_worst_25 : decode cX9_worst 25 = .ok (.istore_n 2, 1) := by decide +kernel
theorem dX9_worst_26 : decode cX9_worst 26 = .ok (.iconst (-1), 1) := by decide +kernel
theorem dX9_worst_27 : decode cX9_worst 27 = .ok (.istore_n 3, 1) := by decide +kernel
theorem dX9_worst_28 : decode cX9_worst 28 = .ok (.iconst 0, 1) := by decide +kernel
theorem dX9_worst_29 : decode cX9_worst 29 = .ok (.istore 4, 2) := by decide +kernel
theorem dX9_worst_31 : decode cX9_worst 31 = .ok (.iload 4, 2) := by decide +kernel
theorem dX9_worst_33 : decode cX9_worst 33 = .ok (.bipush 6, 2) := by decide +kernel
theorem dX9_worst_35 : decode cX9_worst 35 = .ok (.if_icmp .ge 44, 3) := by decide +kernel
theorem dX9_worst_38 : decode cX9_worst 38 = .ok (.aload_n 0, 1) := by decide +kernel
theorem dX9_worst_39 : decode cX9_worst 39 = .ok (.iload_n 1, 1) := by decide +kernel
theorem dX9_worst_40 : decode cX9_worst 40 = .ok (.iload 4, 2) := by decide +kernel
theorem dX9_worst_42 : decode cX9_worst 42 = .ok (.invokevirtual 196, 3) := by decide +kernel
theorem dX9_worst_45 : decode cX9_worst 45 = .ok (.istore 5, 2) := by decide +kernel
theorem dX9_worst_47 : decode cX9_worst 47 = .ok (.iload 5, 2) := by decide +kernel
theorem dX9_worst_49 : decode cX9_worst 49 = .ok (.iload_n 2, 1) := by decide +kernel
theorem dX9_worst_50 : decode cX9_worst 50 = .ok (.if_icmp .le 8, 3) := by decide +kernel
theorem dX9_worst_53 : decode cX9_worst 53 = .ok (.iload 4, 2) := by decide +kernel
theorem dX9_worst_55 : decode cX9_worst 55 = .ok (.goto 4, 3) := by decide +kernel
theorem dX9_worst_58 : decode cX9_worst 58 = .ok (.iload_n 3, 1) := by decide +kernel
theorem dX9_worst_59 : decode cX9_worst 59 = .ok (.istore_n 3, 1) := by decide +kernel
theorem dX9_worst_60 : decode cX9_worst 60 = .ok (.iload 5, 2) := by decide +kernel
theorem dX9_worst_62 : decode cX9_worst 62 = .ok (.iload_n 2, 1) := by decide +kernel
theorem dX9_worst_63 : decode cX9_worst 63 = .ok (.if_icmp .le 8, 3) := by decide +kernel
theorem dX9_worst_66 : decode cX9_worst 66 = .ok (.iload 5, 2) := by decide +kernel
theorem dX9_worst_68 : decode cX9_worst 68 = .ok (.goto 4, 3) := by decide +kernel
theorem dX9_worst_71 : decode cX9_worst 71 = .ok (.iload_n 2, 1) := by decide +kernel
theorem dX9_worst_72 : decode cX9_worst 72 = .ok (.istore_n 2, 1) := by decide +kernel
theorem dX9_worst_73 : decode cX9_worst 73 = .ok (.iinc 4 1, 3) := by decide +kernel
theorem dX9_worst_76 : decode cX9_worst 76 = .ok (.goto (-45), 3) := by decide +kernel
theorem dX9_worst_79 : decode cX9_worst 79 = .ok (.iload_n 3, 1) := by decide +kernel
theorem dX9_worst_80 : decode cX9_worst 80 = .ok (.ireturn, 1) := by decide +kernel
set_option maxRecDepth 20000 in
theorem ggX9_worstEar_X9_worst : GoodIn wsX9_worstEar wsX9_worst := goodIn_r _ [6, 7, 8, 9, 10, 5, 11, 12, 13, 14, 15, 16, 17, 18, 19, 20, 21, 22, 23, 24, 25, 26, 27, 28, 29, 30, 31, 32, 33, 34, 35, 36, 37, 38, 39, 40, 41, 42, 43, 44, 45, 46, 47, 48, 49, 50, 51, 52, 53, 54, 55, 56, 57, 58] rfl (by decide +kernel)
set_option maxRecDepth 20000 in
theorem gX9_worstEar_X9_worst : GoodIn wsX9_worstEar (wsV RX9 199 RX9 yX9_worst wsX9_worst) := goodIn_app (goodIn_of _ (by decide +kernel)) ggX9_worstEar_X9_worst
theorem dX9_worstEar_0 : decode cX9_worstEar 0 = .ok (.aload_n 0, 1) := by decide +kernel
theorem dX9_worstEar_1 : decode cX9_worstEar 1 = .ok (.iconst 0, 1) := by decide +kernel
theorem dX9_worstEar_2 : decode cX9_worstEar 2 = .ok (.putfield 31, 3) := by decide +kernel
theorem dX9_worstEar_5 : decode cX9_worstEar 5 = .ok (.aload_n 0, 1) := by decide +kernel
theorem dX9_worstEar_6 : decode cX9_worstEar 6 = .ok (.invokevirtual 199, 3) := by decide +kernel
theorem dX9_worstEar_9 : decode cX9_worstEar 9 = .ok (.ireturn, 1) := by decide +kernel
set_option maxRecDepth 20000 in
theorem ggX9_allCosts_X9_arrives : GoodIn wsX9_allCosts wsX9_arrives := goodIn_r _ [7, 1, 2, 8, 9, 10, 11, 6, 12, 13, 14, 15, 16, 17, 18, 19, 20, 21, 22, 23, 24, 25, 26, 27, 28, 29, 30, 31, 32, 33, 34, 35, 36, 37, 38, 39, 40, 41, 42, 43, 44, 45, 46, 47, 48, 49] rfl (by decide +kernel)
set_option maxRecDepth 20000 in
theorem gX9_allCosts_X9_arrives : GoodIn wsX9_allCosts (wsV RX9 196 RX9 yX9_arrives wsX9_arrives) := goodIn_app (goodIn_of _ (by decide +kernel)) ggX9_allCosts_X9_arrives
theorem dX9_allCosts_0 : decode cX9_allCosts 0 = .ok (.iconst 0, 1) := by decide +kernel
theorem dX9_allCosts_1 : decode cX9_allCosts 1 = .ok (.istore_n 1, 1) := by decide +kernel
theorem dX9_allCosts_2 : decode cX9_allCosts 2 = .ok (.iconst 0, 1) := by decide +kernel
theorem dX9_allCosts_3 : decode cX9_allCosts 3 = .ok (.istore_n 2, 1) := by decide +kernel
theorem dX9_allCosts_4 : decode cX9_allCosts 4 = .ok (.iload_n 2, 1) := by decide +kernel
theorem dX9_allCosts_5 : decode cX9_allCosts 5 = .ok (.aload_n 0, 1) := by decide +kernel
theorem dX9_allCosts_6 : decode cX9_allCosts 6 = .ok (.getfield 7, 3) := by decide +kernel
theorem dX9_allCosts_9 : decode cX9_allCosts 9 = .ok (.sipush 304, 3) := by decide +kernel
theorem dX9_allCosts_12 : decode cX9_allCosts 12 = .ok (.iaload, 1) := by decide +kernel
theorem dX9_allCosts_13 : decode cX9_allCosts 13 = .ok (.if_icmp .ge 23, 3) := by decide +kernel
theorem dX9_allCosts_16 : decode cX9_allCosts 16 = .ok (.aload_n 0, 1) := by decide +kernel
theorem dX9_allCosts_17 : decode cX9_allCosts 17 = .ok (.iload_n 2, 1) := by decide +kernel
theorem dX9_allCosts_18 : decode cX9_allCosts 18 = .ok (.iconst (-1), 1) := by decide +kernel
theorem dX9_allCosts_19 : decode cX9_allCosts 19 = .ok (.invokevirtual 196, 3) := by decide +kernel
theorem dX9_allCosts_22 : decode cX9_allCosts 22 = .ok (.istore_n 3, 1) := by decide +kernel
theorem dX9_allCosts_23 : decode cX9_allCosts 23 = .ok (.iload_n 1, 1) := by decide +kernel
theorem dX9_allCosts_24 : decode cX9_allCosts 24 = .ok (.aload_n 0, 1) := by decide +kernel
theorem dX9_allCosts_25 : decode cX9_allCosts 25 = .ok (.getfield 76, 3) := by decide +kernel
theorem dX9_allCosts_28 : decode cX9_allCosts 28 = .ok (.iadd, 1) := by decide +kernel
theorem dX9_allCosts_29 : decode cX9_allCosts 29 = .ok (.istore_n 1, 1) := by decide +kernel
theorem dX9_allCosts_30 : decode cX9_allCosts 30 = .ok (.iinc 2 1, 3) := by decide +kernel
theorem dX9_allCosts_33 : decode cX9_allCosts 33 = .ok (.goto (-29), 3) := by decide +kernel
theorem dX9_allCosts_36 : decode cX9_allCosts 36 = .ok (.iload_n 1, 1) := by decide +kernel
theorem dX9_allCosts_37 : decode cX9_allCosts 37 = .ok (.ireturn, 1) := by decide +kernel
set_option maxRecDepth 20000 in
theorem ggX9_costs_X9_allCosts : GoodIn wsX9_costs wsX9_allCosts := goodIn_r _ [6, 7, 8, 9, 10, 11, 5, 12, 13, 14, 15, 16, 17, 18, 19, 20, 21, 22, 23, 24, 25, 26, 27, 28, 29, 30, 31, 32, 33, 34, 35, 36, 37, 38, 39, 40, 41, 42, 43, 44, 45, 46, 47, 48, 49, 50, 51, 52, 53, 54] rfl (by decide +kernel)
set_option maxRecDepth 20000 in
theorem gX9_costs_X9_allCosts : GoodIn wsX9_costs (wsV RX9 202 RX9 yX9_allCosts wsX9_allCosts) := goodIn_app (goodIn_of _ (by decide +kernel)) ggX9_costs_X9_allCosts
theorem dX9_costs_0 : decode cX9_costs 0 = .ok (.aload_n 0, 1) := by decide +kernel
theorem dX9_costs_1 : decode cX9_costs 1 = .ok (.iconst 0, 1) := by decide +kernel
theorem dX9_costs_2 : decode cX9_costs 2 = .ok (.putfield 31, 3) := by decide +kernel
theorem dX9_costs_5 : decode cX9_costs 5 = .ok (.aload_n 0, 1) := by decide +kernel
theorem dX9_costs_6 : decode cX9_costs 6 = .ok (.invokevirtual 202, 3) := by decide +kernel
theorem dX9_costs_9 : decode cX9_costs 9 = .ok (.ireturn, 1) := by decide +kernel
theorem dX9_share_0 : decode cX9_share 0 = .ok (.aload_n 0, 1) := by decide +kernel
theorem dX9_share_1 : decode cX9_share 1 = .ok (.getfield 7, 3) := by decide +kernel
theorem dX9_share_4 : decode cX9_share 4 = .ok (.sipush 305, 3) := by decide +kernel
theorem dX9_share_7 : decode cX9_share 7 = .ok (.iaload, 1) := by decide +kernel
theorem dX9_share_8 : decode cX9_share 8 = .ok (.ifCond .ne 7, 3) := by decide +kernel
theorem dX9_share_11 : decode cX9_share 11 = .ok (.dconst 1, 1) := by decide +kernel
theorem dX9_share_12 : decode cX9_share 12 = .ok (.goto 31, 3) := by decide +kernel
theorem dX9_share_15 : decode cX9_share 15 = .ok (.aload_n 0, 1) := by decide +kernel
theorem dX9_share_16 : decode cX9_share 16 = .ok (.getfield 7, 3) := by decide +kernel
theorem dX9_share_19 : decode cX9_share 19 = .ok (.sipush 305, 3) := by decide +kernel
theorem dX9_share_22 : decode cX9_share 22 = .ok (.iaload, 1) := by decide +kernel
theorem dX9_share_23 : decode cX9_share 23 = .ok (.aload_n 0, 1) := by decide +kernel
theorem dX9_share_24 : decode cX9_share 24 = .ok (.getfield 7, 3) := by decide +kernel
theorem dX9_share_27 : decode cX9_share 27 = .ok (.sipush 409, 3) := by decide +kernel
theorem dX9_share_30 : decode cX9_share 30 = .ok (.iaload, 1) := by decide +kernel
theorem dX9_share_31 : decode cX9_share 31 = .ok (.isub, 1) := by decide +kernel
theorem dX9_share_32 : decode cX9_share 32 = .ok (.i2d, 1) := by decide +kernel
theorem dX9_share_33 : decode cX9_share 33 = .ok (.aload_n 0, 1) := by decide +kernel
theorem dX9_share_34 : decode cX9_share 34 = .ok (.getfield 7, 3) := by decide +kernel
theorem dX9_share_37 : decode cX9_share 37 = .ok (.sipush 305, 3) := by decide +kernel
theorem dX9_share_40 : decode cX9_share 40 = .ok (.iaload, 1) := by decide +kernel
theorem dX9_share_41 : decode cX9_share 41 = .ok (.i2d, 1) := by decide +kernel
theorem dX9_share_42 : decode cX9_share 42 = .ok (.ddiv, 1) := by decide +kernel
theorem dX9_share_43 : decode cX9_share 43 = .ok (.dreturn, 1) := by decide +kernel
set_option maxRecDepth 20000 in
theorem ggX9_throughShare_X9_share : GoodIn wsX9_throughShare wsX9_share := goodIn_r _ [6, 7, 8, 9, 10, 11, 12, 13, 14, 15, 16, 17, 18, 19, 20, 21, 22, 23, 24, 25, 26, 27, 28, 29] rfl (by decide +kernel)
set_option maxRecDepth 20000 in
theorem gX9_throughShare_X9_share : GoodIn wsX9_throughShare (wsV RX9 205 RX9 yX9_share wsX9_share) := goodIn_app (goodIn_of _ (by decide +kernel)) ggX9_throughShare_X9_share
theorem dX9_throughShare_0 : decode cX9_throughShare 0 = .ok (.aload_n 0, 1) := by decide +kernel
theorem dX9_throughShare_1 : decode cX9_throughShare 1 = .ok (.iconst 0, 1) := by decide +kernel
theorem dX9_throughShare_2 : decode cX9_throughShare 2 = .ok (.putfield 31, 3) := by decide +kernel
theorem dX9_throughShare_5 : decode cX9_throughShare 5 = .ok (.aload_n 0, 1) := by decide +kernel
theorem dX9_throughShare_6 : decode cX9_throughShare 6 = .ok (.invokevirtual 205, 3) := by decide +kernel
theorem dX9_throughShare_9 : decode cX9_throughShare 9 = .ok (.dreturn, 1) := by decide +kernel
set_option maxRecDepth 20000 in
theorem ggX9_digest_X9_counts : GoodIn wsX9_digest wsX9_counts := goodIn_r _ [11, 4, 12, 13, 14, 15, 10, 16, 122, 123, 124, 125, 126, 127, 128, 129, 130, 131, 132, 133, 134, 135, 136, 137, 138, 139, 140, 141, 142, 143] rfl (by decide +kernel)
set_option maxRecDepth 20000 in
theorem gX9_digest_X9_counts : GoodIn wsX9_digest (wsV RX9 184 RX9 yX9_counts wsX9_counts) := goodIn_app (goodIn_of _ (by decide +kernel)) ggX9_digest_X9_counts
set_option maxRecDepth 20000 in
theorem ggX9_digest_X9_ofLink : GoodIn wsX9_digest wsX9_ofLink := goodIn_r _ [20, 4, 21, 22, 23, 10, 24, 25, 26, 27, 28, 29, 30, 31, 32, 33, 34, 35, 36, 122, 123, 124, 125, 126, 127, 128, 129, 130, 131, 132, 133, 134, 135, 136, 137, 138, 139, 140, 141, 142, 143] rfl (by decide +kernel)
set_option maxRecDepth 20000 in
theorem gX9_digest_X9_ofLink : GoodIn wsX9_digest (wsV RX9 172 RX9 yX9_ofLink wsX9_ofLink) := goodIn_app (goodIn_of _ (by decide +kernel)) ggX9_digest_X9_ofLink
set_option maxRecDepth 20000 in
theorem ggX9_digest_X9_gone : GoodIn wsX9_digest wsX9_gone := goodIn_r _ [40, 4, 41, 42, 43, 44, 45, 46, 10, 47, 48, 49, 50, 51, 52, 53, 54, 55, 56, 57, 25, 26, 27, 28, 33, 34, 35, 36, 58, 59, 60, 61, 122, 123, 124, 125, 126, 127, 128, 129, 130, 131, 132, 133, 134, 135, 136, 137, 138, 139, 140, 141, 142, 143] rfl (by decide +kernel)
set_option maxRecDepth 20000 in
theorem gX9_digest_X9_gone : GoodIn wsX9_digest (wsV RX9 193 RX9 yX9_gone wsX9_gone) := goodIn_app (goodIn_of _ (by decide +kernel)) ggX9_digest_X9_gone
set_option maxRecDepth 20000 in
theorem ggX9_digest_X9_meanings : GoodIn wsX9_digest wsX9_meanings := goodIn_r _ [65, 25, 26, 27, 10, 28, 4, 33, 34, 35, 36, 122, 123, 124, 125, 126, 127, 128, 129, 130, 131, 132, 133, 134, 135, 136, 137, 138, 139, 140, 141, 142, 143] rfl (by decide +kernel)
set_option maxRecDepth 20000 in
theorem gX9_digest_X9_meanings : GoodIn wsX9_digest (wsV RX9 163 RX9 yX9_meanings wsX9_meanings) := goodIn_app (goodIn_of _ (by decide +kernel)) ggX9_digest_X9_meanings
set_option maxRecDepth 20000 in
theorem ggX9_digest_X9_waiting : GoodIn wsX9_digest wsX9_waiting := goodIn_r _ [69, 4, 44, 45, 46, 10, 47, 122, 123, 124, 125, 126, 127, 128, 129, 130, 131, 132, 133, 134, 135, 136, 137, 138, 139, 140, 141, 142, 143] rfl (by decide +kernel)
set_option maxRecDepth 20000 in
theorem gX9_digest_X9_waiting : GoodIn wsX9_digest (wsV RX9 175 RX9 yX9_waiting wsX9_waiting) := goodIn_app (goodIn_of _ (by decide +kernel)) ggX9_digest_X9_waiting
set_option maxRecDepth 20000 in
theorem ggX9_digest_X9_arrived : GoodIn wsX9_digest wsX9_arrived := goodIn_r _ [73, 74, 75, 76, 10, 77, 4, 122, 123, 124, 125, 126, 127, 128, 129, 130, 131, 132, 133, 134, 135, 136, 137, 138, 139, 140, 141, 142, 143] rfl (by decide +kernel)
set_option maxRecDepth 20000 in
theorem gX9_digest_X9_arrived : GoodIn wsX9_digest (wsV RX9 178 RX9 yX9_arrived wsX9_arrived) := goodIn_app (goodIn_of _ (by decide +kernel)) ggX9_digest_X9_arrived
set_option maxRecDepth 20000 in
theorem ggX9_digest_X9_character : GoodIn wsX9_digest wsX9_character := goodIn_r _ [81, 74, 75, 76, 10, 77, 4, 122, 123, 124, 125, 126, 127, 128, 129, 130, 131, 132, 133, 134, 135, 136, 137, 138, 139, 140, 141, 142, 143] rfl (by decide +kernel)
set_option maxRecDepth 20000 in
theorem gX9_digest_X9_character : GoodIn wsX9_digest (wsV RX9 157 RX9 yX9_character wsX9_character) := goodIn_app (goodIn_of _ (by decide +kernel)) ggX9_digest_X9_character
set_option maxRecDepth 20000 in
theorem ggX9_digest_X9_losing : GoodIn wsX9_digest wsX9_losing := goodIn_r _ [85, 4, 122, 123, 124, 125, 126, 127, 128, 129, 130, 131, 132, 133, 134, 135, 136, 137, 138, 139, 140, 141, 142, 143] rfl (by decide +kernel)
set_option maxRecDepth 20000 in
theorem gX9_digest_X9_losing : GoodIn wsX9_digest (wsV RX9 187 RX9 yX9_losing wsX9_losing) := goodIn_app (goodIn_of _ (by decide +kernel)) ggX9_digest_X9_losing
set_option maxRecDepth 20000 in
theorem ggX9_digest_X9_lostOf : GoodIn wsX9_digest wsX9_lostOf := goodIn_r _ [89, 41, 52, 57, 53, 54, 55, 10, 56, 43, 4, 42, 25, 26, 27, 28, 33, 34, 35, 36, 122, 123, 124, 125, 126, 127, 128, 129, 130, 131, 132, 133, 134, 135, 136, 137, 138, 139, 140, 141, 142, 143] rfl (by decide +kernel)
set_option maxRecDepth 20000 in
theorem gX9_digest_X9_lostOf : GoodIn wsX9_digest (wsV RX9 95 RX9 yX9_lostOf wsX9_lostOf) := goodIn_app (goodIn_of _ (by decide +kernel)) ggX9_digest_X9_lostOf
set_option maxRecDepth 20000 in
theorem ggX9_digest_X9_stop : GoodIn wsX9_digest wsX9_stop := goodIn_r _ [93, 4, 122, 123, 124, 125, 126, 127, 128, 129, 130, 131, 132, 133, 134, 135, 136, 137, 138, 139, 140, 141, 142, 143] rfl (by decide +kernel)
set_option maxRecDepth 20000 in
theorem gX9_digest_X9_stop : GoodIn wsX9_digest (wsV RX9 151 RX9 yX9_stop wsX9_stop) := goodIn_app (goodIn_of _ (by decide +kernel)) ggX9_digest_X9_stop
set_option maxRecDepth 20000 in
theorem ggX9_digest_X9_worst : GoodIn wsX9_digest wsX9_worst := goodIn_r _ [97, 4, 44, 45, 46, 10, 47, 98, 99, 100, 101, 42, 41, 48, 49, 50, 51, 52, 53, 54, 55, 56, 43, 57, 25, 26, 27, 28, 33, 34, 35, 36, 122, 123, 124, 125, 126, 127, 128, 129, 130, 131, 132, 133, 134, 135, 136, 137, 138, 139, 140, 141, 142, 143] rfl (by decide +kernel)
set_option maxRecDepth 20000 in
theorem gX9_digest_X9_worst : GoodIn wsX9_digest (wsV RX9 199 RX9 yX9_worst wsX9_worst) := goodIn_app (goodIn_of _ (by decide +kernel)) ggX9_digest_X9_worst
set_option maxRecDepth 20000 in
theorem ggX9_digest_X9_allCosts : GoodIn wsX9_digest wsX9_allCosts := goodIn_r _ [105, 4, 42, 98, 99, 100, 10, 101, 41, 48, 49, 50, 51, 52, 53, 54, 55, 56, 43, 57, 25, 26, 27, 28, 33, 34, 35, 36, 122, 123, 124, 125, 126, 127, 128, 129, 130, 131, 132, 133, 134, 135, 136, 137, 138, 139, 140, 141, 142, 143] rfl (by decide +kernel)
set_option maxRecDepth 20000 in
theorem gX9_digest_X9_allCosts : GoodIn wsX9_digest (wsV RX9 202 RX9 yX9_allCosts wsX9_allCosts) := goodIn_app (goodIn_of _ (by decide +kernel)) ggX9_digest_X9_allCosts
set_option maxRecDepth 20000 in
theorem ggX9_digest_X9_share : GoodIn wsX9_digest wsX9_share := goodIn_r _ [109, 4, 122, 123, 124, 125, 126, 127, 128, 129, 130, 131, 132, 133, 134, 135, 136, 137, 138, 139, 140, 141, 142, 143] rfl (by decide +kernel)
set_option maxRecDepth 20000 in
theorem gX9_digest_X9_share : GoodIn wsX9_digest (wsV RX9 205 RX9 yX9_share wsX9_share) := goodIn_app (goodIn_of _ (by decide +kernel)) ggX9_digest_X9_share
set_option maxRecDepth 20000 in
theorem ggX9_digest_Jxe99ae_doubleToLongBits_ccdee : GoodIn wsX9_digest wsJxe99ae_doubleToLongBits_ccdee := goodIn_r _ [113, 114, 115, 116, 117, 118, 119, 120, 112, 121] rfl (by decide +kernel)
set_option maxRecDepth 20000 in
theorem gX9_digest_Jxe99ae_doubleToLongBits_ccdee : GoodIn wsX9_digest (va_wsS RX9 213 yJxe99ae_doubleToLongBits_ccdee wsJxe99ae_doubleToLongBits_ccdee) := goodIn_app (goodIn_of _ (by decide +kernel)) ggX9_digest_Jxe99ae_doubleToLongBits_ccdee
theorem dX9_digest_0 : decode cX9_digest 0 = .ok (.aload_n 0, 1) := by decide +kernel
theorem dX9_digest_1 : decode cX9_digest 1 = .ok (.iconst 0, 1) := by decide +kernel
theorem dX9_digest_2 : decode cX9_digest 2 = .ok (.putfield 31, 3) := by decide +kernel
theorem dX9_digest_5 : decode cX9_digest 5 = .ok (.ldc2_w 209, 3) := by decide +kernel
theorem dX9_digest_8 : decode cX9_digest 8 = .ok (.lstore_n 1, 1) := by decide +kernel
theorem dX9_digest_9 : decode cX9_digest 9 = .ok (.iconst 0, 1) := by decide +kernel
theorem dX9_digest_10 : decode cX9_digest 10 = .ok (.istore_n 3, 1) := by decide +kernel
theorem dX9_digest_11 : decode cX9_digest 11 = .ok (.iload_n 3, 1) := by decide +kernel
theorem dX9_digest_12 : decode cX9_digest 12 = .ok (.bipush 7, 2) := by decide +kernel
theorem dX9_digest_14 : decode cX9_digest 14 = .ok (.if_icmp .ge 22, 3) := by decide +kernel
theorem dX9_digest_17 : decode cX9_digest 17 = .ok (.ldc2_w 211, 3) := by decide +kernel
theorem dX9_digest_20 : decode cX9_digest 20 = .ok (.lload_n 1, 1) := by decide +kernel
theorem dX9_digest_21 : decode cX9_digest 21 = .ok (.lmul, 1) := by decide +kernel
theorem dX9_digest_22 : decode cX9_digest 22 = .ok (.aload_n 0, 1) := by decide +kernel
theorem dX9_digest_23 : decode cX9_digest 23 = .ok (.iload_n 3, 1) := by decide +kernel
theorem dX9_digest_24 : decode cX9_digest 24 = .ok (.invokevirtual 184, 3) := by decide +kernel
theorem dX9_digest_27 : decode cX9_digest 27 = .ok (.i2l, 1) := by decide +kernel
theorem dX9_digest_28 : decode cX9_digest 28 = .ok (.ladd, 1) := by decide +kernel
theorem dX9_digest_29 : decode cX9_digest 29 = .ok (.lstore_n 1, 1) := by decide +kernel
theorem dX9_digest_30 : decode cX9_digest 30 = .ok (.iinc 3 1, 3) := by decide +kernel
theorem dX9_digest_33 : decode cX9_digest 33 = .ok (.goto (-22), 3) := by decide +kernel
theorem dX9_digest_36 : decode cX9_digest 36 = .ok (.iconst 0, 1) := by decide +kernel
theorem dX9_digest_37 : decode cX9_digest 37 = .ok (.istore_n 3, 1) := by decide +kernel
theorem dX9_digest_38 : decode cX9_digest 38 = .ok (.iload_n 3, 1) := by decide +kernel
theorem dX9_digest_39 : decode cX9_digest 39 = .ok (.bipush 6, 2) := by decide +kernel
theorem dX9_digest_41 : decode cX9_digest 41 = .ok (.if_icmp .ge 118, 3) := by decide +kernel
theorem dX9_digest_44 : decode cX9_digest 44 = .ok (.iconst 0, 1) := by decide +kernel
theorem dX9_digest_45 : decode cX9_digest 45 = .ok (.istore 4, 2) := by decide +kernel
theorem dX9_digest_47 : decode cX9_digest 47 = .ok (.iload 4, 2) := by decide +kernel
theorem dX9_digest_49 : decode cX9_digest 49 = .ok (.bipush 7, 2) := by decide +kernel
theorem dX9_digest_51 : decode cX9_digest 51 = .ok (.if_icmp .ge 24, 3) := by decide +kernel
theorem dX9_digest_54 : decode cX9_digest 54 = .ok (.ldc2_w 211, 3) := by decide +kernel
theorem dX9_digest_57 : decode cX9_digest 57 = .ok (.lload_n 1, 1) := by decide +kernel
theorem dX9_digest_58 : decode cX9_digest 58 = .ok (.lmul, 1) := by decide +kernel
theorem dX9_digest_59 : decode cX9_digest 59 = .ok (.aload_n 0, 1) := by decide +kernel
theorem dX9_digest_60 : decode cX9_digest 60 = .ok (.iload_n 3, 1) := by decide +kernel
theorem dX9_digest_61 : decode cX9_digest 61 = .ok (.iload 4, 2) := by decide +kernel
theorem dX9_digest_63 : decode cX9_digest 63 = .ok (.invokevirtual 172, 3) := by decide +kernel
theorem dX9_digest_66 : decode cX9_digest 66 = .ok (.i2l, 1) := by decide +kernel
theorem dX9_digest_67 : decode cX9_digest 67 = .ok (.ladd, 1) := by decide +kernel
theorem dX9_digest_68 : decode cX9_digest 68 = .ok (.lstore_n 1, 1) := by decide +kernel
theorem dX9_digest_69 : decode cX9_digest 69 = .ok (.iinc 4 1, 3) := by decide +kernel
theorem dX9_digest_72 : decode cX9_digest 72 = .ok (.goto (-25), 3) := by decide +kernel
theorem dX9_digest_75 : decode cX9_digest 75 = .ok (.iconst 0, 1) := by decide +kernel
theorem dX9_digest_76 : decode cX9_digest 76 = .ok (.istore 4, 2) := by decide +kernel
theorem dX9_digest_78 : decode cX9_digest 78 = .ok (.iload 4, 2) := by decide +kernel
theorem dX9_digest_80 : decode cX9_digest 80 = .ok (.iconst 4, 1) := by decide +kernel
theorem dX9_digest_81 : decode cX9_digest 81 = .ok (.if_icmp .ge 24, 3) := by decide +kernel
theorem dX9_digest_84 : decode cX9_digest 84 = .ok (.ldc2_w 211, 3) := by decide +kernel
theorem dX9_digest_87 : decode cX9_digest 87 = .ok (.lload_n 1, 1) := by decide +kernel
theorem dX9_digest_88 : decode cX9_digest 88 = .ok (.lmul, 1) := by decide +kernel
theorem dX9_digest_89 : decode cX9_digest 89 = .ok (.aload_n 0, 1) := by decide +kernel
theorem dX9_digest_90 : decode cX9_digest 90 = .ok (.iload_n 3, 1) := by decide +kernel
theorem dX9_digest_91 : decode cX9_digest 91 = .ok (.iload 4, 2) := by decide +kernel
theorem dX9_digest_93 : decode cX9_digest 93 = .ok (.invokevirtual 193, 3) := by decide +kernel
theorem dX9_digest_96 : decode cX9_digest 96 = .ok (.i2l, 1) := by decide +kernel
theorem dX9_digest_97 : decode cX9_digest 97 = .ok (.ladd, 1) := by decide +kernel
theorem dX9_digest_98 : decode cX9_digest 98 = .ok (.lstore_n 1, 1) := by decide +kernel
theorem dX9_digest_99 : decode cX9_digest 99 = .ok (.iinc 4 1, 3) := by decide +kernel
theorem dX9_digest_102 : decode cX9_digest 102 = .ok (.goto (-24), 3) := by decide +kernel
theorem dX9_digest_105 : decode cX9_digest 105 = .ok (.iconst 0, 1) := by decide +kernel
theorem dX9_digest_106 : decode cX9_digest 106 = .ok (.istore 4, 2) := by decide +kernel
theorem dX9_digest_108 : decode cX9_digest 108 = .ok (.iload 4, 2) := by decide +kernel
theorem dX9_digest_110 : decode cX9_digest 110 = .ok (.bipush 30, 2) := by decide +kernel
theorem dX9_digest_112 : decode cX9_digest 112 = .ok (.if_icmp .ge 41, 3) := by decide +kernel
theorem dX9_digest_115 : decode cX9_digest 115 = .ok (.iconst 0, 1) := by decide +kernel
theorem dX9_digest_116 : decode cX9_digest 116 = .ok (.istore 5, 2) := by decide +kernel
theorem dX9_digest_118 : decode cX9_digest 118 = .ok (.iload 5, 2) := by decide +kernel
theorem dX9_digest_120 : decode cX9_digest 120 = .ok (.iconst 3, 1) := by decide +kernel
theorem dX9_digest_121 : decode cX9_digest 121 = .ok (.if_icmp .ge 26, 3) := by decide +kernel
theorem dX9_digest_124 : decode cX9_digest 124 = .ok (.ldc2_w 211, 3) := by decide +kernel
theorem dX9_digest_127 : decode cX9_digest 127 = .ok (.lload_n 1, 1) := by decide +kernel
theorem dX9_digest_128 : decode cX9_digest 128 = .ok (.lmul, 1) := by decide +kernel
theorem dX9_digest_129 : decode cX9_digest 129 = .ok (.aload_n 0, 1) := by decide +kernel
theorem dX9_digest_130 : decode cX9_digest 130 = .ok (.iload_n 3, 1) := by decide +kernel
theorem dX9_digest_131 : decode cX9_digest 131 = .ok (.iload 4, 2) := by decide +kernel
theorem dX9_digest_133 : decode cX9_digest 133 = .ok (.iload 5, 2) := by decide +kernel
theorem dX9_digest_135 : decode cX9_digest 135 = .ok (.invokevirtual 163, 3) := by decide +kernel
theorem dX9_digest_138 : decode cX9_digest 138 = .ok (.i2l, 1) := by decide +kernel
theorem dX9_digest_139 : decode cX9_digest 139 = .ok (.ladd, 1) := by decide +kernel
theorem dX9_digest_140 : decode cX9_digest 140 = .ok (.lstore_n 1, 1) := by decide +kernel
theorem dX9_digest_141 : decode cX9_digest 141 = .ok (.iinc 5 1, 3) := by decide +kernel
theorem dX9_digest_144 : decode cX9_digest 144 = .ok (.goto (-26), 3) := by decide +kernel
theorem dX9_digest_147 : decode cX9_digest 147 = .ok (.iinc 4 1, 3) := by decide +kernel
theorem dX9_digest_150 : decode cX9_digest 150 = .ok (.goto (-42), 3) := by decide +kernel
theorem dX9_digest_153 : decode cX9_digest 153 = .ok (.iinc 3 1, 3) := by decide +kernel
theorem dX9_digest_156 : decode cX9_digest 156 = .ok (.goto (-118), 3) := by decide +kernel
theorem dX9_digest_159 : decode cX9_digest 159 = .ok (.iconst 0, 1) := by decide +kernel
theorem dX9_digest_160 : decode cX9_digest 160 = .ok (.istore_n 3, 1) := by decide +kernel
theorem dX9_digest_161 : decode cX9_digest 161 = .ok (.iload_n 3, 1) := by decide +kernel
theorem dX9_digest_162 : decode cX9_digest 162 = .ok (.aload_n 0, 1) := by decide +kernel
theorem dX9_digest_163 : decode cX9_digest 163 = .ok (.getfield 7, 3) := by decide +kernel
theorem dX9_digest_166 : decode cX9_digest 166 = .ok (.sipush 304, 3) := by decide +kernel
theorem dX9_digest_169 : decode cX9_digest 169 = .ok (.iaload, 1) := by decide +kernel
theorem dX9_digest_170 : decode cX9_digest 170 = .ok (.if_icmp .ge 39, 3) := by decide +kernel
theorem dX9_digest_173 : decode cX9_digest 173 = .ok (.iconst 0, 1) := by decide +kernel
theorem dX9_digest_174 : decode cX9_digest 174 = .ok (.istore 4, 2) := by decide +kernel
theorem dX9_digest_176 : decode cX9_digest 176 = .ok (.iload 4, 2) := by decide +kernel
theorem dX9_digest_178 : decode cX9_digest 178 = .ok (.iconst 3, 1) := by decide +kernel
theorem dX9_digest_179 : decode cX9_digest 179 = .ok (.if_icmp .ge 24, 3) := by decide +kernel
theorem dX9_digest_182 : decode cX9_digest 182 = .ok (.ldc2_w 211, 3) := by decide +kernel
theorem dX9_digest_185 : decode cX9_digest 185 = .ok (.lload_n 1, 1) := by decide +kernel
theorem dX9_digest_186 : decode cX9_digest 186 = .ok (.lmul, 1) := by decide +kernel
theorem dX9_digest_187 : decode cX9_digest 187 = .ok (.aload_n 0, 1) := by decide +kernel
theorem dX9_digest_188 : decode cX9_digest 188 = .ok (.iload_n 3, 1) := by decide +kernel
theorem dX9_digest_189 : decode cX9_digest 189 = .ok (.iload 4, 2) := by decide +kernel
theorem dX9_digest_191 : decode cX9_digest 191 = .ok (.invokevirtual 175, 3) := by decide +kernel
theorem dX9_digest_194 : decode cX9_digest 194 = .ok (.i2l, 1) := by decide +kernel
theorem dX9_digest_195 : decode cX9_digest 195 = .ok (.ladd, 1) := by decide +kernel
theorem dX9_digest_196 : decode cX9_digest 196 = .ok (.lstore_n 1, 1) := by decide +kernel
theorem dX9_digest_197 : decode cX9_digest 197 = .ok (.iinc 4 1, 3) := by decide +kernel
theorem dX9_digest_200 : decode cX9_digest 200 = .ok (.goto (-24), 3) := by decide +kernel
theorem dX9_digest_203 : decode cX9_digest 203 = .ok (.iinc 3 1, 3) := by decide +kernel
theorem dX9_digest_206 : decode cX9_digest 206 = .ok (.goto (-45), 3) := by decide +kernel
theorem dX9_digest_209 : decode cX9_digest 209 = .ok (.iconst 0, 1) := by decide +kernel
theorem dX9_digest_210 : decode cX9_digest 210 = .ok (.istore_n 3, 1) := by decide +kernel
theorem dX9_digest_211 : decode cX9_digest 211 = .ok (.iload_n 3, 1) := by decide +kernel
theorem dX9_digest_212 : decode cX9_digest 212 = .ok (.aload_n 0, 1) := by decide +kernel
theorem dX9_digest_213 : decode cX9_digest 213 = .ok (.getfield 7, 3) := by decide +kernel
theorem dX9_digest_216 : decode cX9_digest 216 = .ok (.sipush 408, 3) := by decide +kernel
theorem dX9_digest_219 : decode cX9_digest 219 = .ok (.iaload, 1) := by decide +kernel
theorem dX9_digest_220 : decode cX9_digest 220 = .ok (.if_icmp .ge 75, 3) := by decide +kernel
theorem dX9_digest_223 : decode cX9_digest 223 = .ok (.iconst 0, 1) := by decide +kernel
theorem dX9_digest_224 : decode cX9_digest 224 = .ok (.istore 4, 2) := by decide +kernel
theorem dX9_digest_226 : decode cX9_digest 226 = .ok (.iload 4, 2) := by decide +kernel
theorem dX9_digest_228 : decode cX9_digest 228 = .ok (.bipush 6, 2) := by decide +kernel
theorem dX9_digest_230 : decode cX9_digest 230 = .ok (.if_icmp .ge 24, 3) := by decide +kernel
theorem dX9_digest_233 : decode cX9_digest 233 = .ok (.ldc2_w 211, 3) := by decide +kernel
theorem dX9_digest_236 : decode cX9_digest 236 = .ok (.lload_n 1, 1) := by decide +kernel
theorem dX9_digest_237 : decode cX9_digest 237 = .ok (.lmul, 1) := by decide +kernel
theorem dX9_digest_238 : decode cX9_digest 238 = .ok (.aload_n 0, 1) := by decide +kernel
theorem dX9_digest_239 : decode cX9_digest 239 = .ok (.iload_n 3, 1) := by decide +kernel
theorem dX9_digest_240 : decode cX9_digest 240 = .ok (.iload 4, 2) := by decide +kernel
theorem dX9_digest_242 : decode cX9_digest 242 = .ok (.invokevirtual 178, 3) := by decide +kernel
theorem dX9_digest_245 : decode cX9_digest 245 = .ok (.i2l, 1) := by decide +kernel
theorem dX9_digest_246 : decode cX9_digest 246 = .ok (.ladd, 1) := by decide +kernel
theorem dX9_digest_247 : decode cX9_digest 247 = .ok (.lstore_n 1, 1) := by decide +kernel
theorem dX9_digest_248 : decode cX9_digest 248 = .ok (.iinc 4 1, 3) := by decide +kernel
theorem dX9_digest_251 : decode cX9_digest 251 = .ok (.goto (-25), 3) := by decide +kernel
theorem dX9_digest_254 : decode cX9_digest 254 = .ok (.iconst 0, 1) := by decide +kernel
theorem dX9_digest_255 : decode cX9_digest 255 = .ok (.istore 4, 2) := by decide +kernel
theorem dX9_digest_257 : decode cX9_digest 257 = .ok (.aload_n 0, 1) := by decide +kernel
theorem dX9_digest_258 : decode cX9_digest 258 = .ok (.iload_n 3, 1) := by decide +kernel
theorem dX9_digest_259 : decode cX9_digest 259 = .ok (.iload 4, 2) := by decide +kernel
theorem dX9_digest_261 : decode cX9_digest 261 = .ok (.invokevirtual 157, 3) := by decide +kernel
theorem dX9_digest_264 : decode cX9_digest 264 = .ok (.iconst (-1), 1) := by decide +kernel
theorem dX9_digest_265 : decode cX9_digest 265 = .ok (.if_icmp .eq 24, 3) := by decide +kernel
theorem dX9_digest_268 : decode cX9_digest 268 = .ok (.ldc2_w 211, 3) := by decide +kernel
theorem dX9_digest_271 : decode cX9_digest 271 = .ok (.lload_n 1, 1) := by decide +kernel
theorem dX9_digest_272 : decode cX9_digest 272 = .ok (.lmul, 1) := by decide +kernel
theorem dX9_digest_273 : decode cX9_digest 273 = .ok (.aload_n 0, 1) := by decide +kernel
theorem dX9_digest_274 : decode cX9_digest 274 = .ok (.iload_n 3, 1) := by decide +kernel
theorem dX9_digest_275 : decode cX9_digest 275 = .ok (.iload 4, 2) := by decide +kernel
theorem dX9_digest_277 : decode cX9_digest 277 = .ok (.invokevirtual 157, 3) := by decide +kernel
theorem dX9_digest_280 : decode cX9_digest 280 = .ok (.i2l, 1) := by decide +kernel
theorem dX9_digest_281 : decode cX9_digest 281 = .ok (.ladd, 1) := by decide +kernel
theorem dX9_digest_282 : decode cX9_digest 282 = .ok (.lstore_n 1, 1) := by decide +kernel
theorem dX9_digest_283 : decode cX9_digest 283 = .ok (.iinc 4 1, 3) := by decide +kernel
theorem dX9_digest_286 : decode cX9_digest 286 = .ok (.goto (-29), 3) := by decide +kernel
theorem dX9_digest_289 : decode cX9_digest 289 = .ok (.iinc 3 1, 3) := by decide +kernel
theorem dX9_digest_292 : decode cX9_digest 292 = .ok (.goto (-81), 3) := by decide +kernel
theorem dX9_digest_295 : decode cX9_digest 295 = .ok (.iconst 0, 1) := by decide +kernel
theorem dX9_digest_296 : decode cX9_digest 296 = .ok (.istore_n 3, 1) := by decide +kernel
theorem dX9_digest_297 : decode cX9_digest 297 = .ok (.iload_n 3, 1) := by decide +kernel
theorem dX9_digest_298 : decode cX9_digest 298 = .ok (.iconst 5, 1) := by decide +kernel
theorem dX9_digest_299 : decode cX9_digest 299 = .ok (.if_icmp .ge 37, 3) := by decide +kernel
theorem dX9_digest_302 : decode cX9_digest 302 = .ok (.ldc2_w 211, 3) := by decide +kernel
theorem dX9_digest_305 : decode cX9_digest 305 = .ok (.lload_n 1, 1) := by decide +kernel
theorem dX9_digest_306 : decode cX9_digest 306 = .ok (.lmul, 1) := by decide +kernel
theorem dX9_digest_307 : decode cX9_digest 307 = .ok (.aload_n 0, 1) := by decide +kernel
theorem dX9_digest_308 : decode cX9_digest 308 = .ok (.iload_n 3, 1) := by decide +kernel
theorem dX9_digest_309 : decode cX9_digest 309 = .ok (.iconst 0, 1) := by decide +kernel
theorem dX9_digest_310 : decode cX9_digest 310 = .ok (.invokevirtual 187, 3) := by decide +kernel
theorem dX9_digest_313 : decode cX9_digest 313 = .ok (.i2l, 1) := by decide +kernel
theorem dX9_digest_314 : decode cX9_digest 314 = .ok (.ladd, 1) := by decide +kernel
theorem dX9_digest_315 : decode cX9_digest 315 = .ok (.lstore_n 1, 1) := by decide +kernel
theorem dX9_digest_316 : decode cX9_digest 316 = .ok (.ldc2_w 211, 3) := by decide +kernel
theorem dX9_digest_319 : decode cX9_digest 319 = .ok (.lload_n 1, 1) := by decide +kernel
theorem dX9_digest_320 : decode cX9_digest 320 = .ok (.lmul, 1) := by decide +kernel
theorem dX9_digest_321 : decode cX9_digest 321 = .ok (.aload_n 0, 1) := by decide +kernel
theorem dX9_digest_322 : decode cX9_digest 322 = .ok (.iload_n 3, 1) := by decide +kernel
theorem dX9_digest_323 : decode cX9_digest 323 = .ok (.iconst 1, 1) := by decide +kernel
theorem dX9_digest_324 : decode cX9_digest 324 = .ok (.invokevirtual 187, 3) := by decide +kernel
theorem dX9_digest_327 : decode cX9_digest 327 = .ok (.i2l, 1) := by decide +kernel
theorem dX9_digest_328 : decode cX9_digest 328 = .ok (.ladd, 1) := by decide +kernel
theorem dX9_digest_329 : decode cX9_digest 329 = .ok (.lstore_n 1, 1) := by decide +kernel
theorem dX9_digest_330 : decode cX9_digest 330 = .ok (.iinc 3 1, 3) := by decide +kernel
theorem dX9_digest_333 : decode cX9_digest 333 = .ok (.goto (-36), 3) := by decide +kernel
theorem dX9_digest_336 : decode cX9_digest 336 = .ok (.iconst 0, 1) := by decide +kernel
theorem dX9_digest_337 : decode cX9_digest 337 = .ok (.istore_n 3, 1) := by decide +kernel
theorem dX9_digest_338 : decode cX9_digest 338 = .ok (.iload_n 3, 1) := by decide +kernel
theorem dX9_digest_339 : decode cX9_digest 339 = .ok (.bipush 30, 2) := by decide +kernel
theorem dX9_digest_341 : decode cX9_digest 341 = .ok (.if_icmp .ge 22, 3) := by decide +kernel
theorem dX9_digest_344 : decode cX9_digest 344 = .ok (.ldc2_w 211, 3) := by decide +kernel
theorem dX9_digest_347 : decode cX9_digest 347 = .ok (.lload_n 1, 1) := by decide +kernel
theorem dX9_digest_348 : decode cX9_digest 348 = .ok (.lmul, 1) := by decide +kernel
theorem dX9_digest_349 : decode cX9_digest 349 = .ok (.aload_n 0, 1) := by decide +kernel
theorem dX9_digest_350 : decode cX9_digest 350 = .ok (.iload_n 3, 1) := by decide +kernel
theorem dX9_digest_351 : decode cX9_digest 351 = .ok (.invokevirtual 95, 3) := by decide +kernel
theorem dX9_digest_354 : decode cX9_digest 354 = .ok (.i2l, 1) := by decide +kernel
theorem dX9_digest_355 : decode cX9_digest 355 = .ok (.ladd, 1) := by decide +kernel
theorem dX9_digest_356 : decode cX9_digest 356 = .ok (.lstore_n 1, 1) := by decide +kernel
theorem dX9_digest_357 : decode cX9_digest 357 = .ok (.iinc 3 1, 3) := by decide +kernel
theorem dX9_digest_360 : decode cX9_digest 360 = .ok (.goto (-22), 3) := by decide +kernel
theorem dX9_digest_363 : decode cX9_digest 363 = .ok (.ldc2_w 211, 3) := by decide +kernel
theorem dX9_digest_366 : decode cX9_digest 366 = .ok (.lload_n 1, 1) := by decide +kernel
theorem dX9_digest_367 : decode cX9_digest 367 = .ok (.lmul, 1) := by decide +kernel
theorem dX9_digest_368 : decode cX9_digest 368 = .ok (.aload_n 0, 1) := by decide +kernel
theorem dX9_digest_369 : decode cX9_digest 369 = .ok (.iconst 0, 1) := by decide +kernel
theorem dX9_digest_370 : decode cX9_digest 370 = .ok (.invokevirtual 151, 3) := by decide +kernel
theorem dX9_digest_373 : decode cX9_digest 373 = .ok (.i2l, 1) := by decide +kernel
theorem dX9_digest_374 : decode cX9_digest 374 = .ok (.ladd, 1) := by decide +kernel
theorem dX9_digest_375 : decode cX9_digest 375 = .ok (.lstore_n 1, 1) := by decide +kernel
theorem dX9_digest_376 : decode cX9_digest 376 = .ok (.ldc2_w 211, 3) := by decide +kernel
theorem dX9_digest_379 : decode cX9_digest 379 = .ok (.lload_n 1, 1) := by decide +kernel
theorem dX9_digest_380 : decode cX9_digest 380 = .ok (.lmul, 1) := by decide +kernel
theorem dX9_digest_381 : decode cX9_digest 381 = .ok (.aload_n 0, 1) := by decide +kernel
theorem dX9_digest_382 : decode cX9_digest 382 = .ok (.iconst 1, 1) := by decide +kernel
theorem dX9_digest_383 : decode cX9_digest 383 = .ok (.invokevirtual 151, 3) := by decide +kernel
theorem dX9_digest_386 : decode cX9_digest 386 = .ok (.i2l, 1) := by decide +kernel
theorem dX9_digest_387 : decode cX9_digest 387 = .ok (.ladd, 1) := by decide +kernel
theorem dX9_digest_388 : decode cX9_digest 388 = .ok (.lstore_n 1, 1) := by decide +kernel
theorem dX9_digest_389 : decode cX9_digest 389 = .ok (.ldc2_w 211, 3) := by decide +kernel
theorem dX9_digest_392 : decode cX9_digest 392 = .ok (.lload_n 1, 1) := by decide +kernel
theorem dX9_digest_393 : decode cX9_digest 393 = .ok (.lmul, 1) := by decide +kernel
theorem dX9_digest_394 : decode cX9_digest 394 = .ok (.aload_n 0, 1) := by decide +kernel
theorem dX9_digest_395 : decode cX9_digest 395 = .ok (.invokevirtual 199, 3) := by decide +kernel
theorem dX9_digest_398 : decode cX9_digest 398 = .ok (.i2l, 1) := by decide +kernel
theorem dX9_digest_399 : decode cX9_digest 399 = .ok (.ladd, 1) := by decide +kernel
theorem dX9_digest_400 : decode cX9_digest 400 = .ok (.lstore_n 1, 1) := by decide +kernel
theorem dX9_digest_401 : decode cX9_digest 401 = .ok (.ldc2_w 211, 3) := by decide +kernel
theorem dX9_digest_404 : decode cX9_digest 404 = .ok (.lload_n 1, 1) := by decide +kernel
theorem dX9_digest_405 : decode cX9_digest 405 = .ok (.lmul, 1) := by decide +kernel
theorem dX9_digest_406 : decode cX9_digest 406 = .ok (.aload_n 0, 1) := by decide +kernel
theorem dX9_digest_407 : decode cX9_digest 407 = .ok (.invokevirtual 202, 3) := by decide +kernel
theorem dX9_digest_410 : decode cX9_digest 410 = .ok (.i2l, 1) := by decide +kernel
theorem dX9_digest_411 : decode cX9_digest 411 = .ok (.ladd, 1) := by decide +kernel
theorem dX9_digest_412 : decode cX9_digest 412 = .ok (.lstore_n 1, 1) := by decide +kernel
theorem dX9_digest_413 : decode cX9_digest 413 = .ok (.ldc2_w 211, 3) := by decide +kernel
theorem dX9_digest_416 : decode cX9_digest 416 = .ok (.lload_n 1, 1) := by decide +kernel
theorem dX9_digest_417 : decode cX9_digest 417 = .ok (.lmul, 1) := by decide +kernel
theorem dX9_digest_418 : decode cX9_digest 418 = .ok (.aload_n 0, 1) := by decide +kernel
theorem dX9_digest_419 : decode cX9_digest 419 = .ok (.invokevirtual 205, 3) := by decide +kernel
theorem dX9_digest_422 : decode cX9_digest 422 = .ok (.invokestatic 213, 3) := by decide +kernel
theorem dX9_digest_425 : decode cX9_digest 425 = .ok (.ladd, 1) := by decide +kernel
theorem dX9_digest_426 : decode cX9_digest 426 = .ok (.lstore_n 1, 1) := by decide +kernel
theorem dX9_digest_427 : decode cX9_digest 427 = .ok (.ldc2_w 211, 3) := by decide +kernel
theorem dX9_digest_430 : decode cX9_digest 430 = .ok (.lload_n 1, 1) := by decide +kernel
theorem dX9_digest_431 : decode cX9_digest 431 = .ok (.lmul, 1) := by decide +kernel
theorem dX9_digest_432 : decode cX9_digest 432 = .ok (.aload_n 0, 1) := by decide +kernel
theorem dX9_digest_433 : decode cX9_digest 433 = .ok (.getfield 101, 3) := by decide +kernel
theorem dX9_digest_436 : decode cX9_digest 436 = .ok (.i2l, 1) := by decide +kernel
theorem dX9_digest_437 : decode cX9_digest 437 = .ok (.ladd, 1) := by decide +kernel
theorem dX9_digest_438 : decode cX9_digest 438 = .ok (.lstore_n 1, 1) := by decide +kernel
theorem dX9_digest_439 : decode cX9_digest 439 = .ok (.iconst 0, 1) := by decide +kernel
theorem dX9_digest_440 : decode cX9_digest 440 = .ok (.istore_n 3, 1) := by decide +kernel
theorem dX9_digest_441 : decode cX9_digest 441 = .ok (.iload_n 3, 1) := by decide +kernel
theorem dX9_digest_442 : decode cX9_digest 442 = .ok (.aload_n 0, 1) := by decide +kernel
theorem dX9_digest_443 : decode cX9_digest 443 = .ok (.getfield 101, 3) := by decide +kernel
theorem dX9_digest_446 : decode cX9_digest 446 = .ok (.if_icmp .ge 23, 3) := by decide +kernel
theorem dX9_digest_449 : decode cX9_digest 449 = .ok (.ldc2_w 211, 3) := by decide +kernel
theorem dX9_digest_452 : decode cX9_digest 452 = .ok (.lload_n 1, 1) := by decide +kernel
theorem dX9_digest_453 : decode cX9_digest 453 = .ok (.lmul, 1) := by decide +kernel
theorem dX9_digest_454 : decode cX9_digest 454 = .ok (.aload_n 0, 1) := by decide +kernel
theorem dX9_digest_455 : decode cX9_digest 455 = .ok (.getfield 19, 3) := by decide +kernel
theorem dX9_digest_458 : decode cX9_digest 458 = .ok (.iload_n 3, 1) := by decide +kernel
theorem dX9_digest_459 : decode cX9_digest 459 = .ok (.iaload, 1) := by decide +kernel
theorem dX9_digest_460 : decode cX9_digest 460 = .ok (.i2l, 1) := by decide +kernel
theorem dX9_digest_461 : decode cX9_digest 461 = .ok (.ladd, 1) := by decide +kernel
theorem dX9_digest_462 : decode cX9_digest 462 = .ok (.lstore_n 1, 1) := by decide +kernel
theorem dX9_digest_463 : decode cX9_digest 463 = .ok (.iinc 3 1, 3) := by decide +kernel
theorem dX9_digest_466 : decode cX9_digest 466 = .ok (.goto (-25), 3) := by decide +kernel
theorem dX9_digest_469 : decode cX9_digest 469 = .ok (.lload_n 1, 1) := by decide +kernel
theorem dX9_digest_470 : decode cX9_digest 470 = .ok (.lreturn, 1) := by decide +kernel

