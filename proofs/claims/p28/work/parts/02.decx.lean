theorem dX0_init_0 : decode cX0_init 0 = .ok (.aload_n 0, 1) := by decide +kernel
theorem dX0_init_1 : decode cX0_init 1 = .ok (.invokespecial 3, 3) := by decide +kernel
theorem dX0_init_4 : decode cX0_init 4 = .ok (.aload_n 0, 1) := by decide +kernel
theorem dX0_init_5 : decode cX0_init 5 = .ok (.bipush 72, 2) := by decide +kernel
theorem dX0_init_7 : decode cX0_init 7 = .ok (.newarray .int, 2) := by decide +kernel
theorem dX0_init_9 : decode cX0_init 9 = .ok (.putfield 9, 3) := by decide +kernel
theorem dX0_init_12 : decode cX0_init 12 = .ok (.aload_n 0, 1) := by decide +kernel
theorem dX0_init_13 : decode cX0_init 13 = .ok (.bipush 36, 2) := by decide +kernel
theorem dX0_init_15 : decode cX0_init 15 = .ok (.newarray .int, 2) := by decide +kernel
theorem dX0_init_17 : decode cX0_init 17 = .ok (.putfield 15, 3) := by decide +kernel
theorem dX0_init_20 : decode cX0_init 20 = .ok (.return_, 1) := by decide +kernel
theorem dX0_copyFrom_0 : decode cX0_copyFrom 0 = .ok (.aload_n 1, 1) := by decide +kernel
theorem dX0_copyFrom_1 : decode cX0_copyFrom 1 = .ok (.getfield 9, 3) := by decide +kernel
theorem dX0_copyFrom_4 : decode cX0_copyFrom 4 = .ok (.iconst 0, 1) := by decide +kernel
theorem dX0_copyFrom_5 : decode cX0_copyFrom 5 = .ok (.aload_n 0, 1) := by decide +kernel
theorem dX0_copyFrom_6 : decode cX0_copyFrom 6 = .ok (.getfield 9, 3) := by decide +kernel
theorem dX0_copyFrom_9 : decode cX0_copyFrom 9 = .ok (.iconst 0, 1) := by decide +kernel
theorem dX0_copyFrom_10 : decode cX0_copyFrom 10 = .ok (.bipush 72, 2) := by decide +kernel
theorem dX0_copyFrom_12 : decode cX0_copyFrom 12 = .ok (.invokestatic 18, 3) := by decide +kernel
theorem dX0_copyFrom_15 : decode cX0_copyFrom 15 = .ok (.aload_n 1, 1) := by decide +kernel
theorem dX0_copyFrom_16 : decode cX0_copyFrom 16 = .ok (.getfield 15, 3) := by decide +kernel
theorem dX0_copyFrom_19 : decode cX0_copyFrom 19 = .ok (.iconst 0, 1) := by decide +kernel
theorem dX0_copyFrom_20 : decode cX0_copyFrom 20 = .ok (.aload_n 0, 1) := by decide +kernel
theorem dX0_copyFrom_21 : decode cX0_copyFrom 21 = .ok (.getfield 15, 3) := by decide +kernel
theorem dX0_copyFrom_24 : decode cX0_copyFrom 24 = .ok (.iconst 0, 1) := by decide +kernel
theorem dX0_copyFrom_25 : decode cX0_copyFrom 25 = .ok (.bipush 36, 2) := by decide +kernel
theorem dX0_copyFrom_27 : decode cX0_copyFrom 27 = .ok (.invokestatic 18, 3) := by decide +kernel
theorem dX0_copyFrom_30 : decode cX0_copyFrom 30 = .ok (.aload_n 0, 1) := by decide +kernel
theorem dX0_copyFrom_31 : decode cX0_copyFrom 31 = .ok (.aload_n 1, 1) := by decide +kernel
theorem dX0_copyFrom_32 : decode cX0_copyFrom 32 = .ok (.getfield 24, 3) := by decide +kernel
theorem dX0_copyFrom_35 : decode cX0_copyFrom 35 = .ok (.putfield 24, 3) := by decide +kernel
theorem dX0_copyFrom_38 : decode cX0_copyFrom 38 = .ok (.return_, 1) := by decide +kernel
set_option maxRecDepth 20000 in
theorem ggX0_add_X0_copyBack : GoodIn wsX0_add wsX0_copyBack := goodIn_r _ [12, 6, 13, 14, 15, 16, 7, 61, 62, 63] (by decide +kernel) (by decide +kernel)
set_option maxRecDepth 20000 in
theorem gX0_add_X0_copyBack : GoodIn wsX0_add (wsV RX0 28 RX0 yX0_copyBack wsX0_copyBack) := goodIn_app (goodIn_of _ (by decide +kernel)) ggX0_add_X0_copyBack
set_option maxRecDepth 20000 in
theorem ggX0_add_X6_copyArrived : GoodIn wsX0_add wsX6_copyArrived := goodIn_r _ [21, 22, 23, 14, 15, 16, 64, 65, 66] (by decide +kernel) (by decide +kernel)
set_option maxRecDepth 20000 in
theorem gX0_add_X6_copyArrived : GoodIn wsX0_add (wsV RX0 38 RX6 yX6_copyArrived wsX6_copyArrived) := goodIn_app (goodIn_of _ (by decide +kernel)) ggX0_add_X6_copyArrived
set_option maxRecDepth 20000 in
theorem ggX0_add_X6_arrivedWords : GoodIn wsX0_add wsX6_arrivedWords := goodIn_r _ [27, 28, 64, 65, 66] (by decide +kernel) (by decide +kernel)
set_option maxRecDepth 20000 in
theorem gX0_add_X6_arrivedWords : GoodIn wsX0_add (wsV RX0 44 RX6 yX6_arrivedWords wsX6_arrivedWords) := goodIn_app (goodIn_of _ (by decide +kernel)) ggX0_add_X6_arrivedWords
set_option maxRecDepth 20000 in
theorem ggX0_add_X6_mumblesBehind : GoodIn wsX0_add wsX6_mumblesBehind := goodIn_r _ [32, 28, 22, 64, 65, 66] (by decide +kernel) (by decide +kernel)
set_option maxRecDepth 20000 in
theorem gX0_add_X6_mumblesBehind : GoodIn wsX0_add (wsV RX0 48 RX6 yX6_mumblesBehind wsX6_mumblesBehind) := goodIn_app (goodIn_of _ (by decide +kernel)) ggX0_add_X6_mumblesBehind
set_option maxRecDepth 20000 in
theorem ggX0_add_X6_payOfAll : GoodIn wsX0_add wsX6_payOfAll := goodIn_r _ [36, 37, 38, 39, 20, 40, 28, 41, 64, 65, 66, 67, 68, 69, 70, 71, 72] (by decide +kernel) (by decide +kernel)
set_option maxRecDepth 20000 in
theorem gX0_add_X6_payOfAll : GoodIn wsX0_add (wsV RX0 52 RX6 yX6_payOfAll wsX6_payOfAll) := goodIn_app (goodIn_of _ (by decide +kernel)) ggX0_add_X6_payOfAll
set_option maxRecDepth 20000 in
theorem ggX0_add_X6_lossBySendingBack : GoodIn wsX0_add wsX6_lossBySendingBack := goodIn_r _ [45, 46, 47, 48, 20, 49, 28, 22, 50, 23, 14, 15, 16, 51, 52, 53, 54, 55, 56, 64, 65, 66, 67, 68, 69, 70, 71, 72] (by decide +kernel) (by decide +kernel)
set_option maxRecDepth 20000 in
theorem gX0_add_X6_lossBySendingBack : GoodIn wsX0_add (wsV RX0 56 RX6 yX6_lossBySendingBack wsX6_lossBySendingBack) := goodIn_app (goodIn_of _ (by decide +kernel)) ggX0_add_X6_lossBySendingBack
set_option maxRecDepth 20000 in
theorem ggX0_add_X6_sentWords : GoodIn wsX0_add wsX6_sentWords := goodIn_r _ [60, 28, 64, 65, 66] (by decide +kernel) (by decide +kernel)
set_option maxRecDepth 20000 in
theorem gX0_add_X6_sentWords : GoodIn wsX0_add (wsV RX0 59 RX6 yX6_sentWords wsX6_sentWords) := goodIn_app (goodIn_of _ (by decide +kernel)) ggX0_add_X6_sentWords
theorem dX0_add_0 : decode cX0_add 0 = .ok (.iconst 5, 1) := by decide +kernel
theorem dX0_add_1 : decode cX0_add 1 = .ok (.istore 4, 2) := by decide +kernel
theorem dX0_add_3 : decode cX0_add 3 = .ok (.iload 4, 2) := by decide +kernel
theorem dX0_add_5 : decode cX0_add 5 = .ok (.ifCond .le 19, 3) := by decide +kernel
theorem dX0_add_8 : decode cX0_add 8 = .ok (.aload_n 0, 1) := by decide +kernel
theorem dX0_add_9 : decode cX0_add 9 = .ok (.iload 4, 2) := by decide +kernel
theorem dX0_add_11 : decode cX0_add 11 = .ok (.iconst 1, 1) := by decide +kernel
theorem dX0_add_12 : decode cX0_add 12 = .ok (.isub, 1) := by decide +kernel
theorem dX0_add_13 : decode cX0_add 13 = .ok (.iload 4, 2) := by decide +kernel
theorem dX0_add_15 : decode cX0_add 15 = .ok (.invokevirtual 28, 3) := by decide +kernel
theorem dX0_add_18 : decode cX0_add 18 = .ok (.iinc 4 (-1), 3) := by decide +kernel
theorem dX0_add_21 : decode cX0_add 21 = .ok (.goto (-18), 3) := by decide +kernel
theorem dX0_add_24 : decode cX0_add 24 = .ok (.aload_n 0, 1) := by decide +kernel
theorem dX0_add_25 : decode cX0_add 25 = .ok (.aload_n 0, 1) := by decide +kernel
theorem dX0_add_26 : decode cX0_add 26 = .ok (.getfield 24, 3) := by decide +kernel
theorem dX0_add_29 : decode cX0_add 29 = .ok (.iconst 1, 1) := by decide +kernel
theorem dX0_add_30 : decode cX0_add 30 = .ok (.iadd, 1) := by decide +kernel
theorem dX0_add_31 : decode cX0_add 31 = .ok (.bipush 6, 2) := by decide +kernel
theorem dX0_add_33 : decode cX0_add 33 = .ok (.invokestatic 32, 3) := by decide +kernel
theorem dX0_add_36 : decode cX0_add 36 = .ok (.putfield 24, 3) := by decide +kernel
theorem dX0_add_39 : decode cX0_add 39 = .ok (.aload_n 1, 1) := by decide +kernel
theorem dX0_add_40 : decode cX0_add 40 = .ok (.aload_n 0, 1) := by decide +kernel
theorem dX0_add_41 : decode cX0_add 41 = .ok (.getfield 9, 3) := by decide +kernel
theorem dX0_add_44 : decode cX0_add 44 = .ok (.invokevirtual 38, 3) := by decide +kernel
theorem dX0_add_47 : decode cX0_add 47 = .ok (.aload_n 0, 1) := by decide +kernel
theorem dX0_add_48 : decode cX0_add 48 = .ok (.getfield 15, 3) := by decide +kernel
theorem dX0_add_51 : decode cX0_add 51 = .ok (.iconst 0, 1) := by decide +kernel
theorem dX0_add_52 : decode cX0_add 52 = .ok (.aload_n 1, 1) := by decide +kernel
theorem dX0_add_53 : decode cX0_add 53 = .ok (.invokevirtual 44, 3) := by decide +kernel
theorem dX0_add_56 : decode cX0_add 56 = .ok (.iastore, 1) := by decide +kernel
theorem dX0_add_57 : decode cX0_add 57 = .ok (.aload_n 0, 1) := by decide +kernel
theorem dX0_add_58 : decode cX0_add 58 = .ok (.getfield 15, 3) := by decide +kernel
theorem dX0_add_61 : decode cX0_add 61 = .ok (.iconst 1, 1) := by decide +kernel
theorem dX0_add_62 : decode cX0_add 62 = .ok (.aload_n 1, 1) := by decide +kernel
theorem dX0_add_63 : decode cX0_add 63 = .ok (.iconst 5, 1) := by decide +kernel
theorem dX0_add_64 : decode cX0_add 64 = .ok (.invokevirtual 48, 3) := by decide +kernel
theorem dX0_add_67 : decode cX0_add 67 = .ok (.iastore, 1) := by decide +kernel
theorem dX0_add_68 : decode cX0_add 68 = .ok (.aload_n 0, 1) := by decide +kernel
theorem dX0_add_69 : decode cX0_add 69 = .ok (.getfield 15, 3) := by decide +kernel
theorem dX0_add_72 : decode cX0_add 72 = .ok (.iconst 2, 1) := by decide +kernel
theorem dX0_add_73 : decode cX0_add 73 = .ok (.aload_n 1, 1) := by decide +kernel
theorem dX0_add_74 : decode cX0_add 74 = .ok (.aload_n 2, 1) := by decide +kernel
theorem dX0_add_75 : decode cX0_add 75 = .ok (.invokevirtual 52, 3) := by decide +kernel
theorem dX0_add_78 : decode cX0_add 78 = .ok (.iastore, 1) := by decide +kernel
theorem dX0_add_79 : decode cX0_add 79 = .ok (.aload_n 0, 1) := by decide +kernel
theorem dX0_add_80 : decode cX0_add 80 = .ok (.getfield 15, 3) := by decide +kernel
theorem dX0_add_83 : decode cX0_add 83 = .ok (.iconst 3, 1) := by decide +kernel
theorem dX0_add_84 : decode cX0_add 84 = .ok (.iload_n 3, 1) := by decide +kernel
theorem dX0_add_85 : decode cX0_add 85 = .ok (.iastore, 1) := by decide +kernel
theorem dX0_add_86 : decode cX0_add 86 = .ok (.aload_n 0, 1) := by decide +kernel
theorem dX0_add_87 : decode cX0_add 87 = .ok (.getfield 15, 3) := by decide +kernel
theorem dX0_add_90 : decode cX0_add 90 = .ok (.iconst 4, 1) := by decide +kernel
theorem dX0_add_91 : decode cX0_add 91 = .ok (.aload_n 1, 1) := by decide +kernel
theorem dX0_add_92 : decode cX0_add 92 = .ok (.aload_n 2, 1) := by decide +kernel
theorem dX0_add_93 : decode cX0_add 93 = .ok (.invokevirtual 56, 3) := by decide +kernel
theorem dX0_add_96 : decode cX0_add 96 = .ok (.iastore, 1) := by decide +kernel
theorem dX0_add_97 : decode cX0_add 97 = .ok (.aload_n 0, 1) := by decide +kernel
theorem dX0_add_98 : decode cX0_add 98 = .ok (.getfield 15, 3) := by decide +kernel
theorem dX0_add_101 : decode cX0_add 101 = .ok (.iconst 5, 1) := by decide +kernel
theorem dX0_add_102 : decode cX0_add 102 = .ok (.aload_n 1, 1) := by decide +kernel
theorem dX0_add_103 : decode cX0_add 103 = .ok (.invokevirtual 59, 3) := by decide +kernel
theorem dX0_add_106 : decode cX0_add 106 = .ok (.iastore, 1) := by decide +kernel
theorem dX0_add_107 : decode cX0_add 107 = .ok (.return_, 1) := by decide +kernel
theorem dX0_copyBack_0 : decode cX0_copyBack 0 = .ok (.aload_n 0, 1) := by decide +kernel
theorem dX0_copyBack_1 : decode cX0_copyBack 1 = .ok (.getfield 9, 3) := by decide +kernel
theorem dX0_copyBack_4 : decode cX0_copyBack 4 = .ok (.iload_n 1, 1) := by decide +kernel
theorem dX0_copyBack_5 : decode cX0_copyBack 5 = .ok (.bipush 12, 2) := by decide +kernel
theorem dX0_copyBack_7 : decode cX0_copyBack 7 = .ok (.imul, 1) := by decide +kernel
theorem dX0_copyBack_8 : decode cX0_copyBack 8 = .ok (.aload_n 0, 1) := by decide +kernel
theorem dX0_copyBack_9 : decode cX0_copyBack 9 = .ok (.getfield 9, 3) := by decide +kernel
theorem dX0_copyBack_12 : decode cX0_copyBack 12 = .ok (.iload_n 2, 1) := by decide +kernel
theorem dX0_copyBack_13 : decode cX0_copyBack 13 = .ok (.bipush 12, 2) := by decide +kernel
theorem dX0_copyBack_15 : decode cX0_copyBack 15 = .ok (.imul, 1) := by decide +kernel
theorem dX0_copyBack_16 : decode cX0_copyBack 16 = .ok (.bipush 12, 2) := by decide +kernel
theorem dX0_copyBack_18 : decode cX0_copyBack 18 = .ok (.invokestatic 18, 3) := by decide +kernel
theorem dX0_copyBack_21 : decode cX0_copyBack 21 = .ok (.aload_n 0, 1) := by decide +kernel
theorem dX0_copyBack_22 : decode cX0_copyBack 22 = .ok (.getfield 15, 3) := by decide +kernel
theorem dX0_copyBack_25 : decode cX0_copyBack 25 = .ok (.iload_n 1, 1) := by decide +kernel
theorem dX0_copyBack_26 : decode cX0_copyBack 26 = .ok (.bipush 6, 2) := by decide +kernel
theorem dX0_copyBack_28 : decode cX0_copyBack 28 = .ok (.imul, 1) := by decide +kernel
theorem dX0_copyBack_29 : decode cX0_copyBack 29 = .ok (.aload_n 0, 1) := by decide +kernel
theorem dX0_copyBack_30 : decode cX0_copyBack 30 = .ok (.getfield 15, 3) := by decide +kernel
theorem dX0_copyBack_33 : decode cX0_copyBack 33 = .ok (.iload_n 2, 1) := by decide +kernel
theorem dX0_copyBack_34 : decode cX0_copyBack 34 = .ok (.bipush 6, 2) := by decide +kernel
theorem dX0_copyBack_36 : decode cX0_copyBack 36 = .ok (.imul, 1) := by decide +kernel
theorem dX0_copyBack_37 : decode cX0_copyBack 37 = .ok (.bipush 6, 2) := by decide +kernel
theorem dX0_copyBack_39 : decode cX0_copyBack 39 = .ok (.invokestatic 18, 3) := by decide +kernel
theorem dX0_copyBack_42 : decode cX0_copyBack 42 = .ok (.return_, 1) := by decide +kernel
theorem dX0_fact_0 : decode cX0_fact 0 = .ok (.iload_n 1, 1) := by decide +kernel
theorem dX0_fact_1 : decode cX0_fact 1 = .ok (.ifCond .lt 21, 3) := by decide +kernel
theorem dX0_fact_4 : decode cX0_fact 4 = .ok (.iload_n 1, 1) := by decide +kernel
theorem dX0_fact_5 : decode cX0_fact 5 = .ok (.aload_n 0, 1) := by decide +kernel
theorem dX0_fact_6 : decode cX0_fact 6 = .ok (.getfield 24, 3) := by decide +kernel
theorem dX0_fact_9 : decode cX0_fact 9 = .ok (.if_icmp .ge 13, 3) := by decide +kernel
theorem dX0_fact_12 : decode cX0_fact 12 = .ok (.iload_n 2, 1) := by decide +kernel
theorem dX0_fact_13 : decode cX0_fact 13 = .ok (.ifCond .lt 9, 3) := by decide +kernel
theorem dX0_fact_16 : decode cX0_fact 16 = .ok (.iload_n 2, 1) := by decide +kernel
theorem dX0_fact_17 : decode cX0_fact 17 = .ok (.bipush 6, 2) := by decide +kernel
theorem dX0_fact_19 : decode cX0_fact 19 = .ok (.if_icmp .lt 5, 3) := by decide +kernel
theorem dX0_fact_22 : decode cX0_fact 22 = .ok (.iconst (-1), 1) := by decide +kernel
theorem dX0_fact_23 : decode cX0_fact 23 = .ok (.ireturn, 1) := by decide +kernel
theorem dX0_fact_24 : decode cX0_fact 24 = .ok (.aload_n 0, 1) := by decide +kernel
theorem dX0_fact_25 : decode cX0_fact 25 = .ok (.getfield 15, 3) := by decide +kernel
theorem dX0_fact_28 : decode cX0_fact 28 = .ok (.iload_n 1, 1) := by decide +kernel
theorem dX0_fact_29 : decode cX0_fact 29 = .ok (.bipush 6, 2) := by decide +kernel
theorem dX0_fact_31 : decode cX0_fact 31 = .ok (.imul, 1) := by decide +kernel
theorem dX0_fact_32 : decode cX0_fact 32 = .ok (.iload_n 2, 1) := by decide +kernel
theorem dX0_fact_33 : decode cX0_fact 33 = .ok (.iadd, 1) := by decide +kernel
theorem dX0_fact_34 : decode cX0_fact 34 = .ok (.iaload, 1) := by decide +kernel
theorem dX0_fact_35 : decode cX0_fact 35 = .ok (.ireturn, 1) := by decide +kernel
theorem dX0_wordAt_0 : decode cX0_wordAt 0 = .ok (.iload_n 1, 1) := by decide +kernel
theorem dX0_wordAt_1 : decode cX0_wordAt 1 = .ok (.ifCond .lt 21, 3) := by decide +kernel
theorem dX0_wordAt_4 : decode cX0_wordAt 4 = .ok (.iload_n 1, 1) := by decide +kernel
theorem dX0_wordAt_5 : decode cX0_wordAt 5 = .ok (.aload_n 0, 1) := by decide +kernel
theorem dX0_wordAt_6 : decode cX0_wordAt 6 = .ok (.getfield 24, 3) := by decide +kernel
theorem dX0_wordAt_9 : decode cX0_wordAt 9 = .ok (.if_icmp .ge 13, 3) := by decide +kernel
theorem dX0_wordAt_12 : decode cX0_wordAt 12 = .ok (.iload_n 2, 1) := by decide +kernel
theorem dX0_wordAt_13 : decode cX0_wordAt 13 = .ok (.ifCond .lt 9, 3) := by decide +kernel
theorem dX0_wordAt_16 : decode cX0_wordAt 16 = .ok (.iload_n 2, 1) := by decide +kernel
theorem dX0_wordAt_17 : decode cX0_wordAt 17 = .ok (.bipush 12, 2) := by decide +kernel
theorem dX0_wordAt_19 : decode cX0_wordAt 19 = .ok (.if_icmp .lt 6, 3) := by decide +kernel
theorem dX0_wordAt_22 : decode cX0_wordAt 22 = .ok (.bipush 30, 2) := by decide +kernel
theorem dX0_wordAt_24 : decode cX0_wordAt 24 = .ok (.ireturn, 1) := by decide +kernel
theorem dX0_wordAt_25 : decode cX0_wordAt 25 = .ok (.aload_n 0, 1) := by decide +kernel
theorem dX0_wordAt_26 : decode cX0_wordAt 26 = .ok (.getfield 9, 3) := by decide +kernel
theorem dX0_wordAt_29 : decode cX0_wordAt 29 = .ok (.iload_n 1, 1) := by decide +kernel
theorem dX0_wordAt_30 : decode cX0_wordAt 30 = .ok (.bipush 12, 2) := by decide +kernel
theorem dX0_wordAt_32 : decode cX0_wordAt 32 = .ok (.imul, 1) := by decide +kernel
theorem dX0_wordAt_33 : decode cX0_wordAt 33 = .ok (.iload_n 2, 1) := by decide +kernel
theorem dX0_wordAt_34 : decode cX0_wordAt 34 = .ok (.iadd, 1) := by decide +kernel
theorem dX0_wordAt_35 : decode cX0_wordAt 35 = .ok (.iaload, 1) := by decide +kernel
theorem dX0_wordAt_36 : decode cX0_wordAt 36 = .ok (.ireturn, 1) := by decide +kernel
set_option maxRecDepth 20000 in
theorem ggX0_textLength_X0_fact : GoodIn wsX0_textLength wsX0_fact := goodIn_r _ [9, 10, 11, 20, 21, 22] (by decide +kernel) (by decide +kernel)
set_option maxRecDepth 20000 in
theorem gX0_textLength_X0_fact : GoodIn wsX0_textLength (wsV RX0 62 RX0 yX0_fact wsX0_fact) := goodIn_app (goodIn_of _ (by decide +kernel)) ggX0_textLength_X0_fact
set_option maxRecDepth 20000 in
theorem ggX0_textLength_X0_wordAt : GoodIn wsX0_textLength wsX0_wordAt := goodIn_r _ [15, 10, 16, 20, 21, 22] (by decide +kernel) (by decide +kernel)
set_option maxRecDepth 20000 in
theorem gX0_textLength_X0_wordAt : GoodIn wsX0_textLength (wsV RX0 65 RX0 yX0_wordAt wsX0_wordAt) := goodIn_app (goodIn_of _ (by decide +kernel)) ggX0_textLength_X0_wordAt
set_option maxRecDepth 20000 in
theorem ggX0_textLength_X0_widthOf : GoodIn wsX0_textLength wsX0_widthOf := goodIn_r _ [19] (by decide +kernel) (by decide +kernel)
set_option maxRecDepth 20000 in
theorem gX0_textLength_X0_widthOf : GoodIn wsX0_textLength (va_wsS RX0 68 yX0_widthOf wsX0_widthOf) := goodIn_app (goodIn_of _ (by decide +kernel)) ggX0_textLength_X0_widthOf
theorem dX0_textLength_0 : decode cX0_textLength 0 = .ok (.iconst (-1), 1) := by decide +kernel
theorem dX0_textLength_1 : decode cX0_textLength 1 = .ok (.istore_n 2, 1) := by decide +kernel
theorem dX0_textLength_2 : decode cX0_textLength 2 = .ok (.iconst 0, 1) := by decide +kernel
theorem dX0_textLength_3 : decode cX0_textLength 3 = .ok (.istore_n 3, 1) := by decide +kernel
theorem dX0_textLength_4 : decode cX0_textLength 4 = .ok (.iload_n 3, 1) := by decide +kernel
theorem dX0_textLength_5 : decode cX0_textLength 5 = .ok (.aload_n 0, 1) := by decide +kernel
theorem dX0_textLength_6 : decode cX0_textLength 6 = .ok (.iload_n 1, 1) := by decide +kernel
theorem dX0_textLength_7 : decode cX0_textLength 7 = .ok (.iconst 0, 1) := by decide +kernel
theorem dX0_textLength_8 : decode cX0_textLength 8 = .ok (.invokevirtual 62, 3) := by decide +kernel
theorem dX0_textLength_11 : decode cX0_textLength 11 = .ok (.if_icmp .ge 23, 3) := by decide +kernel
theorem dX0_textLength_14 : decode cX0_textLength 14 = .ok (.iload_n 2, 1) := by decide +kernel
theorem dX0_textLength_15 : decode cX0_textLength 15 = .ok (.iconst 1, 1) := by decide +kernel
theorem dX0_textLength_16 : decode cX0_textLength 16 = .ok (.aload_n 0, 1) := by decide +kernel
theorem dX0_textLength_17 : decode cX0_textLength 17 = .ok (.iload_n 1, 1) := by decide +kernel
theorem dX0_textLength_18 : decode cX0_textLength 18 = .ok (.iload_n 3, 1) := by decide +kernel
theorem dX0_textLength_19 : decode cX0_textLength 19 = .ok (.invokevirtual 65, 3) := by decide +kernel
theorem dX0_textLength_22 : decode cX0_textLength 22 = .ok (.invokestatic 68, 3) := by decide +kernel
theorem dX0_textLength_25 : decode cX0_textLength 25 = .ok (.iadd, 1) := by decide +kernel
theorem dX0_textLength_26 : decode cX0_textLength 26 = .ok (.iadd, 1) := by decide +kernel
theorem dX0_textLength_27 : decode cX0_textLength 27 = .ok (.istore_n 2, 1) := by decide +kernel
theorem dX0_textLength_28 : decode cX0_textLength 28 = .ok (.iinc 3 1, 3) := by decide +kernel
theorem dX0_textLength_31 : decode cX0_textLength 31 = .ok (.goto (-27), 3) := by decide +kernel
theorem dX0_textLength_34 : decode cX0_textLength 34 = .ok (.iload_n 2, 1) := by decide +kernel
theorem dX0_textLength_35 : decode cX0_textLength 35 = .ok (.iconst 0, 1) := by decide +kernel
theorem dX0_textLength_36 : decode cX0_textLength 36 = .ok (.invokestatic 71, 3) := by decide +kernel
theorem dX0_textLength_39 : decode cX0_textLength 39 = .ok (.ireturn, 1) := by decide +kernel
set_option maxRecDepth 20000 in
theorem ggX0_codeAt_X0_fact : GoodIn wsX0_codeAt wsX0_fact := goodIn_r _ [5, 6, 7, 19, 20, 21] (by decide +kernel) (by decide +kernel)
set_option maxRecDepth 20000 in
theorem gX0_codeAt_X0_fact : GoodIn wsX0_codeAt (wsV RX0 62 RX0 yX0_fact wsX0_fact) := goodIn_app (goodIn_of _ (by decide +kernel)) ggX0_codeAt_X0_fact
set_option maxRecDepth 20000 in
theorem ggX0_codeAt_X0_wordAt : GoodIn wsX0_codeAt wsX0_wordAt := goodIn_r _ [11, 6, 12, 19, 20, 21] (by decide +kernel) (by decide +kernel)
set_option maxRecDepth 20000 in
theorem gX0_codeAt_X0_wordAt : GoodIn wsX0_codeAt (wsV RX0 65 RX0 yX0_wordAt wsX0_wordAt) := goodIn_app (goodIn_of _ (by decide +kernel)) ggX0_codeAt_X0_wordAt
set_option maxRecDepth 20000 in
theorem ggX0_codeAt_X0_widthOf : GoodIn wsX0_codeAt wsX0_widthOf := goodIn_r _ [15] (by decide +kernel) (by decide +kernel)
set_option maxRecDepth 20000 in
theorem gX0_codeAt_X0_widthOf : GoodIn wsX0_codeAt (va_wsS RX0 68 yX0_widthOf wsX0_widthOf) := goodIn_app (goodIn_of _ (by decide +kernel)) ggX0_codeAt_X0_widthOf
set_option maxRecDepth 20000 in
theorem ggX0_codeAt_X0_codeOf : GoodIn wsX0_codeAt wsX0_codeOf := goodIn_r _ [18] (by decide +kernel) (by decide +kernel)
set_option maxRecDepth 20000 in
theorem gX0_codeAt_X0_codeOf : GoodIn wsX0_codeAt (va_wsS RX0 74 yX0_codeOf wsX0_codeOf) := goodIn_app (goodIn_of _ (by decide +kernel)) ggX0_codeAt_X0_codeOf
theorem dX0_codeAt_0 : decode cX0_codeAt 0 = .ok (.iconst 0, 1) := by decide +kernel
theorem dX0_codeAt_1 : decode cX0_codeAt 1 = .ok (.istore_n 3, 1) := by decide +kernel
theorem dX0_codeAt_2 : decode cX0_codeAt 2 = .ok (.iconst 0, 1) := by decide +kernel
theorem dX0_codeAt_3 : decode cX0_codeAt 3 = .ok (.istore 4, 2) := by decide +kernel
theorem dX0_codeAt_5 : decode cX0_codeAt 5 = .ok (.iload 4, 2) := by decide +kernel
theorem dX0_codeAt_7 : decode cX0_codeAt 7 = .ok (.aload_n 0, 1) := by decide +kernel
theorem dX0_codeAt_8 : decode cX0_codeAt 8 = .ok (.iload_n 1, 1) := by decide +kernel
theorem dX0_codeAt_9 : decode cX0_codeAt 9 = .ok (.iconst 0, 1) := by decide +kernel
theorem dX0_codeAt_10 : decode cX0_codeAt 10 = .ok (.invokevirtual 62, 3) := by decide +kernel
theorem dX0_codeAt_13 : decode cX0_codeAt 13 = .ok (.if_icmp .ge 72, 3) := by decide +kernel
theorem dX0_codeAt_16 : decode cX0_codeAt 16 = .ok (.iload 4, 2) := by decide +kernel
theorem dX0_codeAt_18 : decode cX0_codeAt 18 = .ok (.ifCond .le 13, 3) := by decide +kernel
theorem dX0_codeAt_21 : decode cX0_codeAt 21 = .ok (.iload_n 2, 1) := by decide +kernel
theorem dX0_codeAt_22 : decode cX0_codeAt 22 = .ok (.iload_n 3, 1) := by decide +kernel
theorem dX0_codeAt_23 : decode cX0_codeAt 23 = .ok (.iconst 1, 1) := by decide +kernel
theorem dX0_codeAt_24 : decode cX0_codeAt 24 = .ok (.isub, 1) := by decide +kernel
theorem dX0_codeAt_25 : decode cX0_codeAt 25 = .ok (.if_icmp .ne 6, 3) := by decide +kernel
theorem dX0_codeAt_28 : decode cX0_codeAt 28 = .ok (.bipush 44, 2) := by decide +kernel
theorem dX0_codeAt_30 : decode cX0_codeAt 30 = .ok (.ireturn, 1) := by decide +kernel
theorem dX0_codeAt_31 : decode cX0_codeAt 31 = .ok (.aload_n 0, 1) := by decide +kernel
theorem dX0_codeAt_32 : decode cX0_codeAt 32 = .ok (.iload_n 1, 1) := by decide +kernel
theorem dX0_codeAt_33 : decode cX0_codeAt 33 = .ok (.iload 4, 2) := by decide +kernel
theorem dX0_codeAt_35 : decode cX0_codeAt 35 = .ok (.invokevirtual 65, 3) := by decide +kernel
theorem dX0_codeAt_38 : decode cX0_codeAt 38 = .ok (.istore 5, 2) := by decide +kernel
theorem dX0_codeAt_40 : decode cX0_codeAt 40 = .ok (.iload_n 3, 1) := by decide +kernel
theorem dX0_codeAt_41 : decode cX0_codeAt 41 = .ok (.iload 5, 2) := by decide +kernel
theorem dX0_codeAt_43 : decode cX0_codeAt 43 = .ok (.invokestatic 68, 3) := by decide +kernel
theorem dX0_codeAt_46 : decode cX0_codeAt 46 = .ok (.iadd, 1) := by decide +kernel
theorem dX0_codeAt_47 : decode cX0_codeAt 47 = .ok (.istore 6, 2) := by decide +kernel
theorem dX0_codeAt_49 : decode cX0_codeAt 49 = .ok (.iload_n 2, 1) := by decide +kernel
theorem dX0_codeAt_50 : decode cX0_codeAt 50 = .ok (.iload 6, 2) := by decide +kernel
theorem dX0_codeAt_52 : decode cX0_codeAt 52 = .ok (.if_icmp .ge 22, 3) := by decide +kernel
theorem dX0_codeAt_55 : decode cX0_codeAt 55 = .ok (.iload 5, 2) := by decide +kernel
theorem dX0_codeAt_57 : decode cX0_codeAt 57 = .ok (.iload_n 2, 1) := by decide +kernel
theorem dX0_codeAt_58 : decode cX0_codeAt 58 = .ok (.iload 6, 2) := by decide +kernel
theorem dX0_codeAt_60 : decode cX0_codeAt 60 = .ok (.iconst 1, 1) := by decide +kernel
theorem dX0_codeAt_61 : decode cX0_codeAt 61 = .ok (.isub, 1) := by decide +kernel
theorem dX0_codeAt_62 : decode cX0_codeAt 62 = .ok (.if_icmp .ne 7, 3) := by decide +kernel
theorem dX0_codeAt_65 : decode cX0_codeAt 65 = .ok (.iconst 1, 1) := by decide +kernel
theorem dX0_codeAt_66 : decode cX0_codeAt 66 = .ok (.goto 4, 3) := by decide +kernel
theorem dX0_codeAt_69 : decode cX0_codeAt 69 = .ok (.iconst 0, 1) := by decide +kernel
theorem dX0_codeAt_70 : decode cX0_codeAt 70 = .ok (.invokestatic 74, 3) := by decide +kernel
theorem dX0_codeAt_73 : decode cX0_codeAt 73 = .ok (.ireturn, 1) := by decide +kernel
theorem dX0_codeAt_74 : decode cX0_codeAt 74 = .ok (.iload 6, 2) := by decide +kernel
theorem dX0_codeAt_76 : decode cX0_codeAt 76 = .ok (.iconst 1, 1) := by decide +kernel
theorem dX0_codeAt_77 : decode cX0_codeAt 77 = .ok (.iadd, 1) := by decide +kernel
theorem dX0_codeAt_78 : decode cX0_codeAt 78 = .ok (.istore_n 3, 1) := by decide +kernel
theorem dX0_codeAt_79 : decode cX0_codeAt 79 = .ok (.iinc 4 1, 3) := by decide +kernel
theorem dX0_codeAt_82 : decode cX0_codeAt 82 = .ok (.goto (-77), 3) := by decide +kernel
theorem dX0_codeAt_85 : decode cX0_codeAt 85 = .ok (.iconst (-1), 1) := by decide +kernel
theorem dX0_codeAt_86 : decode cX0_codeAt 86 = .ok (.ireturn, 1) := by decide +kernel
theorem dX0_widthOf_0 : decode cX0_widthOf 0 = .ok (.iload_n 0, 1) := by decide +kernel
theorem dX0_widthOf_1 : decode cX0_widthOf 1 = .ok (.bipush 30, 2) := by decide +kernel
theorem dX0_widthOf_3 : decode cX0_widthOf 3 = .ok (.if_icmp .eq 9, 3) := by decide +kernel
theorem dX0_widthOf_6 : decode cX0_widthOf 6 = .ok (.iload_n 0, 1) := by decide +kernel
theorem dX0_widthOf_7 : decode cX0_widthOf 7 = .ok (.bipush 10, 2) := by decide +kernel
theorem dX0_widthOf_9 : decode cX0_widthOf 9 = .ok (.if_icmp .ge 7, 3) := by decide +kernel
theorem dX0_widthOf_12 : decode cX0_widthOf 12 = .ok (.iconst 1, 1) := by decide +kernel
theorem dX0_widthOf_13 : decode cX0_widthOf 13 = .ok (.goto 4, 3) := by decide +kernel
theorem dX0_widthOf_16 : decode cX0_widthOf 16 = .ok (.iconst 2, 1) := by decide +kernel
theorem dX0_widthOf_17 : decode cX0_widthOf 17 = .ok (.ireturn, 1) := by decide +kernel
theorem dX0_codeOf_0 : decode cX0_codeOf 0 = .ok (.iload_n 0, 1) := by decide +kernel
theorem dX0_codeOf_1 : decode cX0_codeOf 1 = .ok (.bipush 30, 2) := by decide +kernel
theorem dX0_codeOf_3 : decode cX0_codeOf 3 = .ok (.if_icmp .ne 6, 3) := by decide +kernel
theorem dX0_codeOf_6 : decode cX0_codeOf 6 = .ok (.bipush 63, 2) := by decide +kernel
theorem dX0_codeOf_8 : decode cX0_codeOf 8 = .ok (.ireturn, 1) := by decide +kernel
theorem dX0_codeOf_9 : decode cX0_codeOf 9 = .ok (.bipush 48, 2) := by decide +kernel
theorem dX0_codeOf_11 : decode cX0_codeOf 11 = .ok (.iload_n 1, 1) := by decide +kernel
theorem dX0_codeOf_12 : decode cX0_codeOf 12 = .ok (.ifCond .eq 10, 3) := by decide +kernel
theorem dX0_codeOf_15 : decode cX0_codeOf 15 = .ok (.iload_n 0, 1) := by decide +kernel
theorem dX0_codeOf_16 : decode cX0_codeOf 16 = .ok (.bipush 10, 2) := by decide +kernel
theorem dX0_codeOf_18 : decode cX0_codeOf 18 = .ok (.irem, 1) := by decide +kernel
theorem dX0_codeOf_19 : decode cX0_codeOf 19 = .ok (.goto 7, 3) := by decide +kernel
theorem dX0_codeOf_22 : decode cX0_codeOf 22 = .ok (.iload_n 0, 1) := by decide +kernel
theorem dX0_codeOf_23 : decode cX0_codeOf 23 = .ok (.bipush 10, 2) := by decide +kernel
theorem dX0_codeOf_25 : decode cX0_codeOf 25 = .ok (.idiv, 1) := by decide +kernel
theorem dX0_codeOf_26 : decode cX0_codeOf 26 = .ok (.iadd, 1) := by decide +kernel
theorem dX0_codeOf_27 : decode cX0_codeOf 27 = .ok (.ireturn, 1) := by decide +kernel
theorem dX1_init_0 : decode cX1_init 0 = .ok (.aload_n 0, 1) := by decide +kernel
theorem dX1_init_1 : decode cX1_init 1 = .ok (.invokespecial 3, 3) := by decide +kernel
theorem dX1_init_4 : decode cX1_init 4 = .ok (.aload_n 0, 1) := by decide +kernel
theorem dX1_init_5 : decode cX1_init 5 = .ok (.bipush 6, 2) := by decide +kernel
theorem dX1_init_7 : decode cX1_init 7 = .ok (.anewarray 9, 3) := by decide +kernel
theorem dX1_init_10 : decode cX1_init 10 = .ok (.putfield 11, 3) := by decide +kernel
theorem dX1_init_13 : decode cX1_init 13 = .ok (.return_, 1) := by decide +kernel
set_option maxRecDepth 20000 in
theorem ggX1_save_X1_dropOldest : GoodIn wsX1_save wsX1_dropOldest := goodIn_r _ [10, 2, 1, 79, 80] (by decide +kernel) (by decide +kernel)
set_option maxRecDepth 20000 in
theorem gX1_save_X1_dropOldest : GoodIn wsX1_save (wsV RX1 21 RX1 yX1_dropOldest wsX1_dropOldest) := goodIn_app (goodIn_of _ (by decide +kernel)) ggX1_save_X1_dropOldest
set_option maxRecDepth 20000 in
theorem ggX1_save_X5_init : GoodIn wsX1_save wsX5_init := goodIn_r _ [12, 13, 14, 15, 16, 17, 18, 19, 20, 21, 22, 23, 24, 25, 26, 27, 28, 29, 30, 31, 32, 33, 34, 35, 36, 37, 38, 39, 40, 41, 42, 43, 44, 45, 46, 47, 48, 49, 50, 51, 52, 88, 89, 90, 91, 92, 93, 81, 82, 83, 84, 85, 86, 87, 94, 95, 96, 97, 98, 99, 100] (by decide +kernel) (by decide +kernel)
set_option maxRecDepth 20000 in
theorem gX1_save_X5_init_n24 : GoodIn wsX1_save (wsX5_init) := ggX1_save_X5_init
set_option maxRecDepth 20000 in
theorem ggX1_save_X5_copyFrom : GoodIn wsX1_save wsX5_copyFrom := goodIn_r _ [56, 19, 23, 27, 29, 57, 58, 59, 60, 61, 30, 31, 62, 63, 64, 18, 65, 36, 66, 37, 38, 39, 40, 41, 67, 68, 69, 22, 70, 45, 71, 46, 47, 72, 73, 74, 75, 26, 76, 51, 77, 52, 78, 81, 82, 83, 84, 85, 86, 87, 88, 89, 90, 91, 92, 93, 94, 95, 96, 97, 98, 99, 100] (by decide +kernel) (by decide +kernel)
set_option maxRecDepth 20000 in
theorem gX1_save_X5_copyFrom : GoodIn wsX1_save (wsV RX1 25 RX5 yX5_copyFrom wsX5_copyFrom) := goodIn_app (goodIn_of _ (by decide +kernel)) ggX1_save_X5_copyFrom
theorem dX1_save_0 : decode cX1_save 0 = .ok (.aload_n 0, 1) := by decide +kernel
theorem dX1_save_1 : decode cX1_save 1 = .ok (.getfield 17, 3) := by decide +kernel
theorem dX1_save_4 : decode cX1_save 4 = .ok (.bipush 6, 2) := by decide +kernel
theorem dX1_save_6 : decode cX1_save 6 = .ok (.if_icmp .lt 7, 3) := by decide +kernel
theorem dX1_save_9 : decode cX1_save 9 = .ok (.aload_n 0, 1) := by decide +kernel
theorem dX1_save_10 : decode cX1_save 10 = .ok (.invokevirtual 21, 3) := by decide +kernel
theorem dX1_save_13 : decode cX1_save 13 = .ok (.aload_n 0, 1) := by decide +kernel
theorem dX1_save_14 : decode cX1_save 14 = .ok (.getfield 11, 3) := by decide +kernel
theorem dX1_save_17 : decode cX1_save 17 = .ok (.aload_n 0, 1) := by decide +kernel
theorem dX1_save_18 : decode cX1_save 18 = .ok (.getfield 17, 3) := by decide +kernel
theorem dX1_save_21 : decode cX1_save 21 = .ok (.aaload, 1) := by decide +kernel
theorem dX1_save_22 : decode cX1_save 22 = .ok (.astore_n 2, 1) := by decide +kernel
theorem dX1_save_23 : decode cX1_save 23 = .ok (.aload_n 2, 1) := by decide +kernel
theorem dX1_save_24 : decode cX1_save 24 = .ok (.ifnonnull 21, 3) := by decide +kernel
theorem dX1_save_27 : decode cX1_save 27 = .ok (.new 9, 3) := by decide +kernel
theorem dX1_save_30 : decode cX1_save 30 = .ok (.dup, 1) := by decide +kernel
theorem dX1_save_31 : decode cX1_save 31 = .ok (.invokespecial 24, 3) := by decide +kernel
theorem dX1_save_34 : decode cX1_save 34 = .ok (.astore_n 2, 1) := by decide +kernel
theorem dX1_save_35 : decode cX1_save 35 = .ok (.aload_n 0, 1) := by decide +kernel
theorem dX1_save_36 : decode cX1_save 36 = .ok (.getfield 11, 3) := by decide +kernel
theorem dX1_save_39 : decode cX1_save 39 = .ok (.aload_n 0, 1) := by decide +kernel
theorem dX1_save_40 : decode cX1_save 40 = .ok (.getfield 17, 3) := by decide +kernel
theorem dX1_save_43 : decode cX1_save 43 = .ok (.aload_n 2, 1) := by decide +kernel
theorem dX1_save_44 : decode cX1_save 44 = .ok (.aastore, 1) := by decide +kernel
theorem dX1_save_45 : decode cX1_save 45 = .ok (.aload_n 2, 1) := by decide +kernel
theorem dX1_save_46 : decode cX1_save 46 = .ok (.aload_n 1, 1) := by decide +kernel
theorem dX1_save_47 : decode cX1_save 47 = .ok (.invokevirtual 25, 3) := by decide +kernel
theorem dX1_save_50 : decode cX1_save 50 = .ok (.aload_n 0, 1) := by decide +kernel
theorem dX1_save_51 : decode cX1_save 51 = .ok (.dup, 1) := by decide +kernel
theorem dX1_save_52 : decode cX1_save 52 = .ok (.getfield 17, 3) := by decide +kernel
theorem dX1_save_55 : decode cX1_save 55 = .ok (.iconst 1, 1) := by decide +kernel
theorem dX1_save_56 : decode cX1_save 56 = .ok (.iadd, 1) := by decide +kernel
theorem dX1_save_57 : decode cX1_save 57 = .ok (.putfield 17, 3) := by decide +kernel
theorem dX1_save_60 : decode cX1_save 60 = .ok (.return_, 1) := by decide +kernel
theorem dX1_dropOldest_0 : decode cX1_dropOldest 0 = .ok (.aload_n 0, 1) := by decide +kernel
theorem dX1_dropOldest_1 : decode cX1_dropOldest 1 = .ok (.getfield 11, 3) := by decide +kernel
theorem dX1_dropOldest_4 : decode cX1_dropOldest 4 = .ok (.iconst 0, 1) := by decide +kernel
theorem dX1_dropOldest_5 : decode cX1_dropOldest 5 = .ok (.aaload, 1) := by decide +kernel
theorem dX1_dropOldest_6 : decode cX1_dropOldest 6 = .ok (.astore_n 1, 1) := by decide +kernel
theorem dX1_dropOldest_7 : decode cX1_dropOldest 7 = .ok (.iconst 1, 1) := by decide +kernel
theorem dX1_dropOldest_8 : decode cX1_dropOldest 8 = .ok (.istore_n 2, 1) := by decide +kernel
theorem dX1_dropOldest_9 : decode cX1_dropOldest 9 = .ok (.iload_n 2, 1) := by decide +kernel
theorem dX1_dropOldest_10 : decode cX1_dropOldest 10 = .ok (.bipush 6, 2) := by decide +kernel
theorem dX1_dropOldest_12 : decode cX1_dropOldest 12 = .ok (.if_icmp .ge 23, 3) := by decide +kernel
theorem dX1_dropOldest_15 : decode cX1_dropOldest 15 = .ok (.aload_n 0, 1) := by decide +kernel
theorem dX1_dropOldest_16 : decode cX1_dropOldest 16 = .ok (.getfield 11, 3) := by decide +kernel
theorem dX1_dropOldest_19 : decode cX1_dropOldest 19 = .ok (.iload_n 2, 1) := by decide +kernel
theorem dX1_dropOldest_20 : decode cX1_dropOldest 20 = .ok (.iconst 1, 1) := by decide +kernel
theorem dX1_dropOldest_21 : decode cX1_dropOldest 21 = .ok (.isub, 1) := by decide +kernel
theorem dX1_dropOldest_22 : decode cX1_dropOldest 22 = .ok (.aload_n 0, 1) := by decide +kernel
theorem dX1_dropOldest_23 : decode cX1_dropOldest 23 = .ok (.getfield 11, 3) := by decide +kernel
theorem dX1_dropOldest_26 : decode cX1_dropOldest 26 = .ok (.iload_n 2, 1) := by decide +kernel
theorem dX1_dropOldest_27 : decode cX1_dropOldest 27 = .ok (.aaload, 1) := by decide +kernel
theorem dX1_dropOldest_28 : decode cX1_dropOldest 28 = .ok (.aastore, 1) := by decide +kernel
theorem dX1_dropOldest_29 : decode cX1_dropOldest 29 = .ok (.iinc 2 1, 3) := by decide +kernel
theorem dX1_dropOldest_32 : decode cX1_dropOldest 32 = .ok (.goto (-23), 3) := by decide +kernel
theorem dX1_dropOldest_35 : decode cX1_dropOldest 35 = .ok (.aload_n 0, 1) := by decide +kernel
theorem dX1_dropOldest_36 : decode cX1_dropOldest 36 = .ok (.getfield 11, 3) := by decide +kernel
theorem dX1_dropOldest_39 : decode cX1_dropOldest 39 = .ok (.iconst 5, 1) := by decide +kernel
theorem dX1_dropOldest_40 : decode cX1_dropOldest 40 = .ok (.aload_n 1, 1) := by decide +kernel
theorem dX1_dropOldest_41 : decode cX1_dropOldest 41 = .ok (.aastore, 1) := by decide +kernel
theorem dX1_dropOldest_42 : decode cX1_dropOldest 42 = .ok (.aload_n 0, 1) := by decide +kernel
theorem dX1_dropOldest_43 : decode cX1_dropOldest 43 = .ok (.iconst 5, 1) := by decide +kernel
theorem dX1_dropOldest_44 : decode cX1_dropOldest 44 = .ok (.putfield 17, 3) := by decide +kernel
theorem dX1_dropOldest_47 : decode cX1_dropOldest 47 = .ok (.return_, 1) := by decide +kernel
theorem dX1_latest_0 : decode cX1_latest 0 = .ok (.aload_n 0, 1) := by decide +kernel
theorem dX1_latest_1 : decode cX1_latest 1 = .ok (.getfield 17, 3) := by decide +kernel
theorem dX1_latest_4 : decode cX1_latest 4 = .ok (.ifCond .le 17, 3) := by decide +kernel
theorem dX1_latest_7 : decode cX1_latest 7 = .ok (.aload_n 0, 1) := by decide +kernel
theorem dX1_latest_8 : decode cX1_latest 8 = .ok (.getfield 11, 3) := by decide +kernel
theorem dX1_latest_11 : decode cX1_latest 11 = .ok (.aload_n 0, 1) := by decide +kernel
theorem dX1_latest_12 : decode cX1_latest 12 = .ok (.getfield 17, 3) := by decide +kernel
theorem dX1_latest_15 : decode cX1_latest 15 = .ok (.iconst 1, 1) := by decide +kernel
theorem dX1_latest_16 : decode cX1_latest 16 = .ok (.isub, 1) := by decide +kernel
theorem dX1_latest_17 : decode cX1_latest 17 = .ok (.aaload, 1) := by decide +kernel
theorem dX1_latest_18 : decode cX1_latest 18 = .ok (.goto 4, 3) := by decide +kernel
theorem dX1_latest_21 : decode cX1_latest 21 = .ok (.aconst_null, 1) := by decide +kernel
theorem dX1_latest_22 : decode cX1_latest 22 = .ok (.areturn, 1) := by decide +kernel
theorem dX1_dropLatest_0 : decode cX1_dropLatest 0 = .ok (.aload_n 0, 1) := by decide +kernel
theorem dX1_dropLatest_1 : decode cX1_dropLatest 1 = .ok (.getfield 17, 3) := by decide +kernel
theorem dX1_dropLatest_4 : decode cX1_dropLatest 4 = .ok (.ifCond .le 13, 3) := by decide +kernel
theorem dX1_dropLatest_7 : decode cX1_dropLatest 7 = .ok (.aload_n 0, 1) := by decide +kernel
theorem dX1_dropLatest_8 : decode cX1_dropLatest 8 = .ok (.dup, 1) := by decide +kernel
theorem dX1_dropLatest_9 : decode cX1_dropLatest 9 = .ok (.getfield 17, 3) := by decide +kernel
theorem dX1_dropLatest_12 : decode cX1_dropLatest 12 = .ok (.iconst 1, 1) := by decide +kernel
theorem dX1_dropLatest_13 : decode cX1_dropLatest 13 = .ok (.isub, 1) := by decide +kernel
theorem dX1_dropLatest_14 : decode cX1_dropLatest 14 = .ok (.putfield 17, 3) := by decide +kernel
theorem dX1_dropLatest_17 : decode cX1_dropLatest 17 = .ok (.return_, 1) := by decide +kernel
theorem dX2_init_0 : decode cX2_init 0 = .ok (.aload_n 0, 1) := by decide +kernel
theorem dX2_init_1 : decode cX2_init 1 = .ok (.invokespecial 3, 3) := by decide +kernel
theorem dX2_init_4 : decode cX2_init 4 = .ok (.aload_n 0, 1) := by decide +kernel
theorem dX2_init_5 : decode cX2_init 5 = .ok (.sipush 180, 3) := by decide +kernel
theorem dX2_init_8 : decode cX2_init 8 = .ok (.newarray .int, 2) := by decide +kernel
theorem dX2_init_10 : decode cX2_init 10 = .ok (.putfield 9, 3) := by decide +kernel
theorem dX2_init_13 : decode cX2_init 13 = .ok (.aload_n 0, 1) := by decide +kernel
theorem dX2_init_14 : decode cX2_init 14 = .ok (.bipush 6, 2) := by decide +kernel
theorem dX2_init_16 : decode cX2_init 16 = .ok (.newarray .int, 2) := by decide +kernel
theorem dX2_init_18 : decode cX2_init 18 = .ok (.putfield 15, 3) := by decide +kernel
theorem dX2_init_21 : decode cX2_init 21 = .ok (.aload_n 0, 1) := by decide +kernel
theorem dX2_init_22 : decode cX2_init 22 = .ok (.bipush 6, 2) := by decide +kernel
theorem dX2_init_24 : decode cX2_init 24 = .ok (.newarray .int, 2) := by decide +kernel
theorem dX2_init_26 : decode cX2_init 26 = .ok (.putfield 18, 3) := by decide +kernel
theorem dX2_init_29 : decode cX2_init 29 = .ok (.aload_n 0, 1) := by decide +kernel
theorem dX2_init_30 : decode cX2_init 30 = .ok (.bipush 6, 2) := by decide +kernel
theorem dX2_init_32 : decode cX2_init 32 = .ok (.newarray .int, 2) := by decide +kernel
theorem dX2_init_34 : decode cX2_init 34 = .ok (.putfield 21, 3) := by decide +kernel
theorem dX2_init_37 : decode cX2_init 37 = .ok (.aload_n 0, 1) := by decide +kernel
theorem dX2_init_38 : decode cX2_init 38 = .ok (.bipush 6, 2) := by decide +kernel
theorem dX2_init_40 : decode cX2_init 40 = .ok (.newarray .int, 2) := by decide +kernel
theorem dX2_init_42 : decode cX2_init 42 = .ok (.putfield 24, 3) := by decide +kernel
theorem dX2_init_45 : decode cX2_init 45 = .ok (.aload_n 0, 1) := by decide +kernel
theorem dX2_init_46 : decode cX2_init 46 = .ok (.bipush 6, 2) := by decide +kernel
theorem dX2_init_48 : decode cX2_init 48 = .ok (.newarray .int, 2) := by decide +kernel
theorem dX2_init_50 : decode cX2_init 50 = .ok (.putfield 27, 3) := by decide +kernel
theorem dX2_init_53 : decode cX2_init 53 = .ok (.iconst 0, 1) := by decide +kernel
theorem dX2_init_54 : decode cX2_init 54 = .ok (.istore_n 1, 1) := by decide +kernel
theorem dX2_init_55 : decode cX2_init 55 = .ok (.iload_n 1, 1) := by decide +kernel
theorem dX2_init_56 : decode cX2_init 56 = .ok (.bipush 6, 2) := by decide +kernel
theorem dX2_init_58 : decode cX2_init 58 = .ok (.if_icmp .ge 42, 3) := by decide +kernel
theorem dX2_init_61 : decode cX2_init 61 = .ok (.aload_n 0, 1) := by decide +kernel
theorem dX2_init_62 : decode cX2_init 62 = .ok (.getfield 18, 3) := by decide +kernel
theorem dX2_init_65 : decode cX2_init 65 = .ok (.iload_n 1, 1) := by decide +kernel
theorem dX2_init_66 : decode cX2_init 66 = .ok (.iconst 1, 1) := by decide +kernel
theorem dX2_init_67 : decode cX2_init 67 = .ok (.iastore, 1) := by decide +kernel
theorem dX2_init_68 : decode cX2_init 68 = .ok (.iconst 0, 1) := by decide +kernel
theorem dX2_init_69 : decode cX2_init 69 = .ok (.istore_n 2, 1) := by decide +kernel
theorem dX2_init_70 : decode cX2_init 70 = .ok (.iload_n 2, 1) := by decide +kernel
theorem dX2_init_71 : decode cX2_init 71 = .ok (.bipush 30, 2) := by decide +kernel
theorem dX2_init_73 : decode cX2_init 73 = .ok (.if_icmp .ge 21, 3) := by decide +kernel
theorem dX2_init_76 : decode cX2_init 76 = .ok (.aload_n 0, 1) := by decide +kernel
theorem dX2_init_77 : decode cX2_init 77 = .ok (.getfield 9, 3) := by decide +kernel
theorem dX2_init_80 : decode cX2_init 80 = .ok (.iload_n 1, 1) := by decide +kernel
theorem dX2_init_81 : decode cX2_init 81 = .ok (.bipush 30, 2) := by decide +kernel
theorem dX2_init_83 : decode cX2_init 83 = .ok (.imul, 1) := by decide +kernel
theorem dX2_init_84 : decode cX2_init 84 = .ok (.iload_n 2, 1) := by decide +kernel
theorem dX2_init_85 : decode cX2_init 85 = .ok (.iadd, 1) := by decide +kernel
theorem dX2_init_86 : decode cX2_init 86 = .ok (.iload_n 2, 1) := by decide +kernel
theorem dX2_init_87 : decode cX2_init 87 = .ok (.iastore, 1) := by decide +kernel
theorem dX2_init_88 : decode cX2_init 88 = .ok (.iinc 2 1, 3) := by decide +kernel
theorem dX2_init_91 : decode cX2_init 91 = .ok (.goto (-21), 3) := by decide +kernel
theorem dX2_init_94 : decode cX2_init 94 = .ok (.iinc 1 1, 3) := by decide +kernel
theorem dX2_init_97 : decode cX2_init 97 = .ok (.goto (-42), 3) := by decide +kernel
theorem dX2_init_100 : decode cX2_init 100 = .ok (.return_, 1) := by decide +kernel
theorem dX2_copyFrom_0 : decode cX2_copyFrom 0 = .ok (.aload_n 1, 1) := by decide +kernel
theorem dX2_copyFrom_1 : decode cX2_copyFrom 1 = .ok (.getfield 9, 3) := by decide +kernel
theorem dX2_copyFrom_4 : decode cX2_copyFrom 4 = .ok (.iconst 0, 1) := by decide +kernel
theorem dX2_copyFrom_5 : decode cX2_copyFrom 5 = .ok (.aload_n 0, 1) := by decide +kernel
theorem dX2_copyFrom_6 : decode cX2_copyFrom 6 = .ok (.getfield 9, 3) := by decide +kernel
theorem dX2_copyFrom_9 : decode cX2_copyFrom 9 = .ok (.iconst 0, 1) := by decide +kernel
theorem dX2_copyFrom_10 : decode cX2_copyFrom 10 = .ok (.sipush 180, 3) := by decide +kernel
theorem dX2_copyFrom_13 : decode cX2_copyFrom 13 = .ok (.invokestatic 30, 3) := by decide +kernel
theorem dX2_copyFrom_16 : decode cX2_copyFrom 16 = .ok (.aload_n 1, 1) := by decide +kernel
theorem dX2_copyFrom_17 : decode cX2_copyFrom 17 = .ok (.getfield 15, 3) := by decide +kernel
theorem dX2_copyFrom_20 : decode cX2_copyFrom 20 = .ok (.iconst 0, 1) := by decide +kernel
theorem dX2_copyFrom_21 : decode cX2_copyFrom 21 = .ok (.aload_n 0, 1) := by decide +kernel
theorem dX2_copyFrom_22 : decode cX2_copyFrom 22 = .ok (.getfield 15, 3) := by decide +kernel
theorem dX2_copyFrom_25 : decode cX2_copyFrom 25 = .ok (.iconst 0, 1) := by decide +kernel
theorem dX2_copyFrom_26 : decode cX2_copyFrom 26 = .ok (.bipush 6, 2) := by decide +kernel
theorem dX2_copyFrom_28 : decode cX2_copyFrom 28 = .ok (.invokestatic 30, 3) := by decide +kernel
theorem dX2_copyFrom_31 : decode cX2_copyFrom 31 = .ok (.aload_n 1, 1) := by decide +kernel
theorem dX2_copyFrom_32 : decode cX2_copyFrom 32 = .ok (.getfield 18, 3) := by decide +kernel
theorem dX2_copyFrom_35 : decode cX2_copyFrom 35 = .ok (.iconst 0, 1) := by decide +kernel
theorem dX2_copyFrom_36 : decode cX2_copyFrom 36 = .ok (.aload_n 0, 1) := by decide +kernel
theorem dX2_copyFrom_37 : decode cX2_copyFrom 37 = .ok (.getfield 18, 3) := by decide +kernel
theorem dX2_copyFrom_40 : decode cX2_copyFrom 40 = .ok (.iconst 0, 1) := by decide +kernel
theorem dX2_copyFrom_41 : decode cX2_copyFrom 41 = .ok (.bipush 6, 2) := by decide +kernel
theorem dX2_copyFrom_43 : decode cX2_copyFrom 43 = .ok (.invokestatic 30, 3) := by decide +kernel
theorem dX2_copyFrom_46 : decode cX2_copyFrom 46 = .ok (.aload_n 1, 1) := by decide +kernel
theorem dX2_copyFrom_47 : decode cX2_copyFrom 47 = .ok (.getfield 21, 3) := by decide +kernel
theorem dX2_copyFrom_50 : decode cX2_copyFrom 50 = .ok (.iconst 0, 1) := by decide +kernel
theorem dX2_copyFrom_51 : decode cX2_copyFrom 51 = .ok (.aload_n 0, 1) := by decide +kernel
theorem dX2_copyFrom_52 : decode cX2_copyFrom 52 = .ok (.getfield 21, 3) := by decide +kernel
theorem dX2_copyFrom_55 : decode cX2_copyFrom 55 = .ok (.iconst 0, 1) := by decide +kernel
theorem dX2_copyFrom_56 : decode cX2_copyFrom 56 = .ok (.bipush 6, 2) := by decide +kernel
theorem dX2_copyFrom_58 : decode cX2_copyFrom 58 = .ok (.invokestatic 30, 3) := by decide +kernel
theorem dX2_copyFrom_61 : decode cX2_copyFrom 61 = .ok (.aload_n 1, 1) := by decide +kernel
theorem dX2_copyFrom_62 : decode cX2_copyFrom 62 = .ok (.getfield 24, 3) := by decide +kernel
theorem dX2_copyFrom_65 : decode cX2_copyFrom 65 = .ok (.iconst 0, 1) := by decide +kernel
theorem dX2_copyFrom_66 : decode cX2_copyFrom 66 = .ok (.aload_n 0, 1) := by decide +kernel
theorem dX2_copyFrom_67 : decode cX2_copyFrom 67 = .ok (.getfield 24, 3) := by decide +kernel
theorem dX2_copyFrom_70 : decode cX2_copyFrom 70 = .ok (.iconst 0, 1) := by decide +kernel
theorem dX2_copyFrom_71 : decode cX2_copyFrom 71 = .ok (.bipush 6, 2) := by decide +kernel
theorem dX2_copyFrom_73 : decode cX2_copyFrom 73 = .ok (.invokestatic 30, 3) := by decide +kernel
theorem dX2_copyFrom_76 : decode cX2_copyFrom 76 = .ok (.aload_n 1, 1) := by decide +kernel
theorem dX2_copyFrom_77 : decode cX2_copyFrom 77 = .ok (.getfield 27, 3) := by decide +kernel
theorem dX2_copyFrom_80 : decode cX2_copyFrom 80 = .ok (.iconst 0, 1) := by decide +kernel
theorem dX2_copyFrom_81 : decode cX2_copyFrom 81 = .ok (.aload_n 0, 1) := by decide +kernel
theorem dX2_copyFrom_82 : decode cX2_copyFrom 82 = .ok (.getfield 27, 3) := by decide +kernel
theorem dX2_copyFrom_85 : decode cX2_copyFrom 85 = .ok (.iconst 0, 1) := by decide +kernel
theorem dX2_copyFrom_86 : decode cX2_copyFrom 86 = .ok (.bipush 6, 2) := by decide +kernel
theorem dX2_copyFrom_88 : decode cX2_copyFrom 88 = .ok (.invokestatic 30, 3) := by decide +kernel
theorem dX2_copyFrom_91 : decode cX2_copyFrom 91 = .ok (.return_, 1) := by decide +kernel
theorem dX2_meaningOf_0 : decode cX2_meaningOf 0 = .ok (.iload_n 1, 1) := by decide +kernel
theorem dX2_meaningOf_1 : decode cX2_meaningOf 1 = .ok (.ifCond .lt 19, 3) := by decide +kernel
theorem dX2_meaningOf_4 : decode cX2_meaningOf 4 = .ok (.iload_n 1, 1) := by decide +kernel
theorem dX2_meaningOf_5 : decode cX2_meaningOf 5 = .ok (.bipush 6, 2) := by decide +kernel
theorem dX2_meaningOf_7 : decode cX2_meaningOf 7 = .ok (.if_icmp .ge 13, 3) := by decide +kernel
theorem dX2_meaningOf_10 : decode cX2_meaningOf 10 = .ok (.iload_n 2, 1) := by decide +kernel
theorem dX2_meaningOf_11 : decode cX2_meaningOf 11 = .ok (.ifCond .lt 9, 3) := by decide +kernel
theorem dX2_meaningOf_14 : decode cX2_meaningOf 14 = .ok (.iload_n 2, 1) := by decide +kernel
theorem dX2_meaningOf_15 : decode cX2_meaningOf 15 = .ok (.bipush 30, 2) := by decide +kernel
theorem dX2_meaningOf_17 : decode cX2_meaningOf 17 = .ok (.if_icmp .lt 5, 3) := by decide +kernel
theorem dX2_meaningOf_20 : decode cX2_meaningOf 20 = .ok (.iconst (-1), 1) := by decide +kernel
theorem dX2_meaningOf_21 : decode cX2_meaningOf 21 = .ok (.ireturn, 1) := by decide +kernel
theorem dX2_meaningOf_22 : decode cX2_meaningOf 22 = .ok (.aload_n 0, 1) := by decide +kernel
theorem dX2_meaningOf_23 : decode cX2_meaningOf 23 = .ok (.getfield 9, 3) := by decide +kernel
theorem dX2_meaningOf_26 : decode cX2_meaningOf 26 = .ok (.iload_n 1, 1) := by decide +kernel
theorem dX2_meaningOf_27 : decode cX2_meaningOf 27 = .ok (.bipush 30, 2) := by decide +kernel
theorem dX2_meaningOf_29 : decode cX2_meaningOf 29 = .ok (.imul, 1) := by decide +kernel
theorem dX2_meaningOf_30 : decode cX2_meaningOf 30 = .ok (.iload_n 2, 1) := by decide +kernel
theorem dX2_meaningOf_31 : decode cX2_meaningOf 31 = .ok (.iadd, 1) := by decide +kernel
theorem dX2_meaningOf_32 : decode cX2_meaningOf 32 = .ok (.iaload, 1) := by decide +kernel
theorem dX2_meaningOf_33 : decode cX2_meaningOf 33 = .ok (.ireturn, 1) := by decide +kernel
theorem dX2_setMeaning_0 : decode cX2_setMeaning 0 = .ok (.iload_n 1, 1) := by decide +kernel
theorem dX2_setMeaning_1 : decode cX2_setMeaning 1 = .ok (.ifCond .lt 31, 3) := by decide +kernel
theorem dX2_setMeaning_4 : decode cX2_setMeaning 4 = .ok (.iload_n 1, 1) := by decide +kernel
theorem dX2_setMeaning_5 : decode cX2_setMeaning 5 = .ok (.bipush 6, 2) := by decide +kernel
theorem dX2_setMeaning_7 : decode cX2_setMeaning 7 = .ok (.if_icmp .ge 25, 3) := by decide +kernel
theorem dX2_setMeaning_10 : decode cX2_setMeaning 10 = .ok (.iload_n 2, 1) := by decide +kernel
theorem dX2_setMeaning_11 : decode cX2_setMeaning 11 = .ok (.ifCond .lt 21, 3) := by decide +kernel
theorem dX2_setMeaning_14 : decode cX2_setMeaning 14 = .ok (.iload_n 2, 1) := by decide +kernel
theorem dX2_setMeaning_15 : decode cX2_setMeaning 15 = .ok (.bipush 30, 2) := by decide +kernel
theorem dX2_setMeaning_17 : decode cX2_setMeaning 17 = .ok (.if_icmp .ge 15, 3) := by decide +kernel
theorem dX2_setMeaning_20 : decode cX2_setMeaning 20 = .ok (.aload_n 0, 1) := by decide +kernel
theorem dX2_setMeaning_21 : decode cX2_setMeaning 21 = .ok (.getfield 9, 3) := by decide +kernel
theorem dX2_setMeaning_24 : decode cX2_setMeaning 24 = .ok (.iload_n 1, 1) := by decide +kernel
theorem dX2_setMeaning_25 : decode cX2_setMeaning 25 = .ok (.bipush 30, 2) := by decide +kernel
theorem dX2_setMeaning_27 : decode cX2_setMeaning 27 = .ok (.imul, 1) := by decide +kernel
theorem dX2_setMeaning_28 : decode cX2_setMeaning 28 = .ok (.iload_n 2, 1) := by decide +kernel
theorem dX2_setMeaning_29 : decode cX2_setMeaning 29 = .ok (.iadd, 1) := by decide +kernel
theorem dX2_setMeaning_30 : decode cX2_setMeaning 30 = .ok (.iload_n 3, 1) := by decide +kernel
theorem dX2_setMeaning_31 : decode cX2_setMeaning 31 = .ok (.iastore, 1) := by decide +kernel
theorem dX2_setMeaning_32 : decode cX2_setMeaning 32 = .ok (.return_, 1) := by decide +kernel
set_option maxRecDepth 20000 in
theorem ggX2_saidFor_X2_meaningOf : GoodIn wsX2_saidFor wsX2_meaningOf := goodIn_r _ [5, 6, 7, 8, 9, 10, 11, 12] (by decide +kernel) (by decide +kernel)
set_option maxRecDepth 20000 in
theorem gX2_saidFor_X2_meaningOf : GoodIn wsX2_saidFor (wsV RX2 36 RX2 yX2_meaningOf wsX2_meaningOf) := goodIn_app (goodIn_of _ (by decide +kernel)) ggX2_saidFor_X2_meaningOf
theorem dX2_saidFor_0 : decode cX2_saidFor 0 = .ok (.aload_n 0, 1) := by decide +kernel
theorem dX2_saidFor_1 : decode cX2_saidFor 1 = .ok (.iload_n 1, 1) := by decide +kernel
theorem dX2_saidFor_2 : decode cX2_saidFor 2 = .ok (.iload_n 2, 1) := by decide +kernel
theorem dX2_saidFor_3 : decode cX2_saidFor 3 = .ok (.invokevirtual 36, 3) := by decide +kernel
theorem dX2_saidFor_6 : decode cX2_saidFor 6 = .ok (.istore_n 3, 1) := by decide +kernel
theorem dX2_saidFor_7 : decode cX2_saidFor 7 = .ok (.iload_n 3, 1) := by decide +kernel
theorem dX2_saidFor_8 : decode cX2_saidFor 8 = .ok (.iconst (-1), 1) := by decide +kernel
theorem dX2_saidFor_9 : decode cX2_saidFor 9 = .ok (.if_icmp .ne 8, 3) := by decide +kernel
theorem dX2_saidFor_12 : decode cX2_saidFor 12 = .ok (.bipush 30, 2) := by decide +kernel
theorem dX2_saidFor_14 : decode cX2_saidFor 14 = .ok (.goto 4, 3) := by decide +kernel
theorem dX2_saidFor_17 : decode cX2_saidFor 17 = .ok (.iload_n 3, 1) := by decide +kernel
theorem dX2_saidFor_18 : decode cX2_saidFor 18 = .ok (.ireturn, 1) := by decide +kernel
theorem dX2_lowestWith_0 : decode cX2_lowestWith 0 = .ok (.iload_n 1, 1) := by decide +kernel
theorem dX2_lowestWith_1 : decode cX2_lowestWith 1 = .ok (.ifCond .lt 9, 3) := by decide +kernel
theorem dX2_lowestWith_4 : decode cX2_lowestWith 4 = .ok (.iload_n 1, 1) := by decide +kernel
theorem dX2_lowestWith_5 : decode cX2_lowestWith 5 = .ok (.bipush 6, 2) := by decide +kernel
theorem dX2_lowestWith_7 : decode cX2_lowestWith 7 = .ok (.if_icmp .lt 6, 3) := by decide +kernel
theorem dX2_lowestWith_10 : decode cX2_lowestWith 10 = .ok (.bipush 30, 2) := by decide +kernel
theorem dX2_lowestWith_12 : decode cX2_lowestWith 12 = .ok (.ireturn, 1) := by decide +kernel
theorem dX2_lowestWith_13 : decode cX2_lowestWith 13 = .ok (.iconst 0, 1) := by decide +kernel
theorem dX2_lowestWith_14 : decode cX2_lowestWith 14 = .ok (.istore_n 3, 1) := by decide +kernel
theorem dX2_lowestWith_15 : decode cX2_lowestWith 15 = .ok (.iload_n 3, 1) := by decide +kernel
theorem dX2_lowestWith_16 : decode cX2_lowestWith 16 = .ok (.bipush 30, 2) := by decide +kernel
theorem dX2_lowestWith_18 : decode cX2_lowestWith 18 = .ok (.if_icmp .ge 26, 3) := by decide +kernel
theorem dX2_lowestWith_21 : decode cX2_lowestWith 21 = .ok (.aload_n 0, 1) := by decide +kernel
theorem dX2_lowestWith_22 : decode cX2_lowestWith 22 = .ok (.getfield 9, 3) := by decide +kernel
theorem dX2_lowestWith_25 : decode cX2_lowestWith 25 = .ok (.iload_n 1, 1) := by decide +kernel
theorem dX2_lowestWith_26 : decode cX2_lowestWith 26 = .ok (.bipush 30, 2) := by decide +kernel
theorem dX2_lowestWith_28 : decode cX2_lowestWith 28 = .ok (.imul, 1) := by decide +kernel
theorem dX2_lowestWith_29 : decode cX2_lowestWith 29 = .ok (.iload_n 3, 1) := by decide +kernel
theorem dX2_lowestWith_30 : decode cX2_lowestWith 30 = .ok (.iadd, 1) := by decide +kernel
theorem dX2_lowestWith_31 : decode cX2_lowestWith 31 = .ok (.iaload, 1) := by decide +kernel
theorem dX2_lowestWith_32 : decode cX2_lowestWith 32 = .ok (.iload_n 2, 1) := by decide +kernel
theorem dX2_lowestWith_33 : decode cX2_lowestWith 33 = .ok (.if_icmp .ne 5, 3) := by decide +kernel
theorem dX2_lowestWith_36 : decode cX2_lowestWith 36 = .ok (.iload_n 3, 1) := by decide +kernel
theorem dX2_lowestWith_37 : decode cX2_lowestWith 37 = .ok (.ireturn, 1) := by decide +kernel
theorem dX2_lowestWith_38 : decode cX2_lowestWith 38 = .ok (.iinc 3 1, 3) := by decide +kernel
theorem dX2_lowestWith_41 : decode cX2_lowestWith 41 = .ok (.goto (-26), 3) := by decide +kernel
theorem dX2_lowestWith_44 : decode cX2_lowestWith 44 = .ok (.bipush 30, 2) := by decide +kernel
theorem dX2_lowestWith_46 : decode cX2_lowestWith 46 = .ok (.ireturn, 1) := by decide +kernel
set_option maxRecDepth 20000 in
theorem ggX2_backFor_X2_meaningOf : GoodIn wsX2_backFor wsX2_meaningOf := goodIn_r _ [5, 6, 11, 12, 13, 14, 15, 16] (by decide +kernel) (by decide +kernel)
set_option maxRecDepth 20000 in
theorem gX2_backFor_X2_meaningOf : GoodIn wsX2_backFor (wsV RX2 36 RX2 yX2_meaningOf wsX2_meaningOf) := goodIn_app (goodIn_of _ (by decide +kernel)) ggX2_backFor_X2_meaningOf
set_option maxRecDepth 20000 in
theorem ggX2_backFor_X2_lowestWith : GoodIn wsX2_backFor wsX2_lowestWith := goodIn_r _ [10, 6, 11, 12, 13, 14, 15, 16] (by decide +kernel) (by decide +kernel)
set_option maxRecDepth 20000 in
theorem gX2_backFor_X2_lowestWith : GoodIn wsX2_backFor (wsV RX2 40 RX2 yX2_lowestWith wsX2_lowestWith) := goodIn_app (goodIn_of _ (by decide +kernel)) ggX2_backFor_X2_lowestWith
theorem dX2_backFor_0 : decode cX2_backFor 0 = .ok (.aload_n 0, 1) := by decide +kernel
theorem dX2_backFor_1 : decode cX2_backFor 1 = .ok (.iload_n 1, 1) := by decide +kernel
theorem dX2_backFor_2 : decode cX2_backFor 2 = .ok (.iload_n 2, 1) := by decide +kernel
theorem dX2_backFor_3 : decode cX2_backFor 3 = .ok (.invokevirtual 36, 3) := by decide +kernel
theorem dX2_backFor_6 : decode cX2_backFor 6 = .ok (.istore_n 3, 1) := by decide +kernel
theorem dX2_backFor_7 : decode cX2_backFor 7 = .ok (.iload_n 3, 1) := by decide +kernel
theorem dX2_backFor_8 : decode cX2_backFor 8 = .ok (.iconst (-1), 1) := by decide +kernel
theorem dX2_backFor_9 : decode cX2_backFor 9 = .ok (.if_icmp .ne 8, 3) := by decide +kernel
theorem dX2_backFor_12 : decode cX2_backFor 12 = .ok (.bipush 30, 2) := by decide +kernel
theorem dX2_backFor_14 : decode cX2_backFor 14 = .ok (.goto 9, 3) := by decide +kernel
theorem dX2_backFor_17 : decode cX2_backFor 17 = .ok (.aload_n 0, 1) := by decide +kernel
theorem dX2_backFor_18 : decode cX2_backFor 18 = .ok (.iload_n 1, 1) := by decide +kernel
theorem dX2_backFor_19 : decode cX2_backFor 19 = .ok (.iload_n 3, 1) := by decide +kernel
theorem dX2_backFor_20 : decode cX2_backFor 20 = .ok (.invokevirtual 40, 3) := by decide +kernel
theorem dX2_backFor_23 : decode cX2_backFor 23 = .ok (.ireturn, 1) := by decide +kernel
set_option maxRecDepth 20000 in
theorem ggX2_lossOfWord_X2_backFor : GoodIn wsX2_lossOfWord wsX2_backFor := goodIn_r _ [5, 6, 7, 8, 4, 9, 10, 11, 12, 13, 14, 19, 20, 21, 22, 23, 24] (by decide +kernel) (by decide +kernel)
set_option maxRecDepth 20000 in
theorem gX2_lossOfWord_X2_backFor : GoodIn wsX2_lossOfWord (wsV RX2 43 RX2 yX2_backFor wsX2_backFor) := goodIn_app (goodIn_of _ (by decide +kernel)) ggX2_lossOfWord_X2_backFor
set_option maxRecDepth 20000 in
theorem ggX2_lossOfWord_X2_saidFor : GoodIn wsX2_lossOfWord wsX2_saidFor := goodIn_r _ [18, 6, 7, 8, 4, 9, 10, 19, 20, 21, 22, 23, 24] (by decide +kernel) (by decide +kernel)
set_option maxRecDepth 20000 in
theorem gX2_lossOfWord_X2_saidFor : GoodIn wsX2_lossOfWord (wsV RX2 46 RX2 yX2_saidFor wsX2_saidFor) := goodIn_app (goodIn_of _ (by decide +kernel)) ggX2_lossOfWord_X2_saidFor
theorem dX2_lossOfWord_0 : decode cX2_lossOfWord 0 = .ok (.iload_n 1, 1) := by decide +kernel
theorem dX2_lossOfWord_1 : decode cX2_lossOfWord 1 = .ok (.istore_n 2, 1) := by decide +kernel
theorem dX2_lossOfWord_2 : decode cX2_lossOfWord 2 = .ok (.iconst 0, 1) := by decide +kernel
theorem dX2_lossOfWord_3 : decode cX2_lossOfWord 3 = .ok (.istore_n 3, 1) := by decide +kernel
theorem dX2_lossOfWord_4 : decode cX2_lossOfWord 4 = .ok (.iload_n 3, 1) := by decide +kernel
theorem dX2_lossOfWord_5 : decode cX2_lossOfWord 5 = .ok (.bipush 6, 2) := by decide +kernel
theorem dX2_lossOfWord_7 : decode cX2_lossOfWord 7 = .ok (.if_icmp .ge 28, 3) := by decide +kernel
theorem dX2_lossOfWord_10 : decode cX2_lossOfWord 10 = .ok (.aload_n 0, 1) := by decide +kernel
theorem dX2_lossOfWord_11 : decode cX2_lossOfWord 11 = .ok (.iload_n 3, 1) := by decide +kernel
theorem dX2_lossOfWord_12 : decode cX2_lossOfWord 12 = .ok (.iload_n 2, 1) := by decide +kernel
theorem dX2_lossOfWord_13 : decode cX2_lossOfWord 13 = .ok (.invokevirtual 43, 3) := by decide +kernel
theorem dX2_lossOfWord_16 : decode cX2_lossOfWord 16 = .ok (.iload_n 2, 1) := by decide +kernel
theorem dX2_lossOfWord_17 : decode cX2_lossOfWord 17 = .ok (.if_icmp .eq 5, 3) := by decide +kernel
theorem dX2_lossOfWord_20 : decode cX2_lossOfWord 20 = .ok (.iload_n 3, 1) := by decide +kernel
theorem dX2_lossOfWord_21 : decode cX2_lossOfWord 21 = .ok (.ireturn, 1) := by decide +kernel
theorem dX2_lossOfWord_22 : decode cX2_lossOfWord 22 = .ok (.aload_n 0, 1) := by decide +kernel
theorem dX2_lossOfWord_23 : decode cX2_lossOfWord 23 = .ok (.iload_n 3, 1) := by decide +kernel
theorem dX2_lossOfWord_24 : decode cX2_lossOfWord 24 = .ok (.iload_n 2, 1) := by decide +kernel
theorem dX2_lossOfWord_25 : decode cX2_lossOfWord 25 = .ok (.invokevirtual 46, 3) := by decide +kernel
theorem dX2_lossOfWord_28 : decode cX2_lossOfWord 28 = .ok (.istore_n 2, 1) := by decide +kernel
theorem dX2_lossOfWord_29 : decode cX2_lossOfWord 29 = .ok (.iinc 3 1, 3) := by decide +kernel
theorem dX2_lossOfWord_32 : decode cX2_lossOfWord 32 = .ok (.goto (-28), 3) := by decide +kernel
theorem dX2_lossOfWord_35 : decode cX2_lossOfWord 35 = .ok (.iconst (-1), 1) := by decide +kernel
theorem dX2_lossOfWord_36 : decode cX2_lossOfWord 36 = .ok (.ireturn, 1) := by decide +kernel
set_option maxRecDepth 20000 in
theorem ggX2_wordsWithoutMeaning_X2_meaningOf : GoodIn wsX2_wordsWithoutMeaning wsX2_meaningOf := goodIn_r _ [5, 6, 7, 8, 9, 10, 11, 12] (by decide +kernel) (by decide +kernel)
set_option maxRecDepth 20000 in
theorem gX2_wordsWithoutMeaning_X2_meaningOf : GoodIn wsX2_wordsWithoutMeaning (wsV RX2 36 RX2 yX2_meaningOf wsX2_meaningOf) := goodIn_app (goodIn_of _ (by decide +kernel)) ggX2_wordsWithoutMeaning_X2_meaningOf
theorem dX2_wordsWithoutMeaning_0 : decode cX2_wordsWithoutMeaning 0 = .ok (.iconst 0, 1) := by decide +kernel
theorem dX2_wordsWithoutMeaning_1 : decode cX2_wordsWithoutMeaning 1 = .ok (.istore_n 2, 1) := by decide +kernel
theorem dX2_wordsWithoutMeaning_2 : decode cX2_wordsWithoutMeaning 2 = .ok (.iconst 0, 1) := by decide +kernel
theorem dX2_wordsWithoutMeaning_3 : decode cX2_wordsWithoutMeaning 3 = .ok (.istore_n 3, 1) := by decide +kernel
theorem dX2_wordsWithoutMeaning_4 : decode cX2_wordsWithoutMeaning 4 = .ok (.iload_n 3, 1) := by decide +kernel
theorem dX2_wordsWithoutMeaning_5 : decode cX2_wordsWithoutMeaning 5 = .ok (.bipush 30, 2) := by decide +kernel
theorem dX2_wordsWithoutMeaning_7 : decode cX2_wordsWithoutMeaning 7 = .ok (.if_icmp .ge 22, 3) := by decide +kernel
theorem dX2_wordsWithoutMeaning_10 : decode cX2_wordsWithoutMeaning 10 = .ok (.aload_n 0, 1) := by decide +kernel
theorem dX2_wordsWithoutMeaning_11 : decode cX2_wordsWithoutMeaning 11 = .ok (.iload_n 1, 1) := by decide +kernel
theorem dX2_wordsWithoutMeaning_12 : decode cX2_wordsWithoutMeaning 12 = .ok (.iload_n 3, 1) := by decide +kernel
theorem dX2_wordsWithoutMeaning_13 : decode cX2_wordsWithoutMeaning 13 = .ok (.invokevirtual 36, 3) := by decide +kernel
theorem dX2_wordsWithoutMeaning_16 : decode cX2_wordsWithoutMeaning 16 = .ok (.iconst (-1), 1) := by decide +kernel
theorem dX2_wordsWithoutMeaning_17 : decode cX2_wordsWithoutMeaning 17 = .ok (.if_icmp .ne 6, 3) := by decide +kernel
theorem dX2_wordsWithoutMeaning_20 : decode cX2_wordsWithoutMeaning 20 = .ok (.iinc 2 1, 3) := by decide +kernel
theorem dX2_wordsWithoutMeaning_23 : decode cX2_wordsWithoutMeaning 23 = .ok (.iinc 3 1, 3) := by decide +kernel
theorem dX2_wordsWithoutMeaning_26 : decode cX2_wordsWithoutMeaning 26 = .ok (.goto (-22), 3) := by decide +kernel
theorem dX2_wordsWithoutMeaning_29 : decode cX2_wordsWithoutMeaning 29 = .ok (.iload_n 2, 1) := by decide +kernel
theorem dX2_wordsWithoutMeaning_30 : decode cX2_wordsWithoutMeaning 30 = .ok (.ireturn, 1) := by decide +kernel
set_option maxRecDepth 20000 in
theorem ggX2_wordsLikeLowerOnes_X2_backFor : GoodIn wsX2_wordsLikeLowerOnes wsX2_backFor := goodIn_r _ [5, 6, 7, 8, 4, 9, 10, 11, 12, 13, 14, 15, 16, 17, 18, 19, 20] (by decide +kernel) (by decide +kernel)
set_option maxRecDepth 20000 in
theorem gX2_wordsLikeLowerOnes_X2_backFor : GoodIn wsX2_wordsLikeLowerOnes (wsV RX2 43 RX2 yX2_backFor wsX2_backFor) := goodIn_app (goodIn_of _ (by decide +kernel)) ggX2_wordsLikeLowerOnes_X2_backFor
theorem dX2_wordsLikeLowerOnes_0 : decode cX2_wordsLikeLowerOnes 0 = .ok (.iconst 0, 1) := by decide +kernel
theorem dX2_wordsLikeLowerOnes_1 : decode cX2_wordsLikeLowerOnes 1 = .ok (.istore_n 2, 1) := by decide +kernel
theorem dX2_wordsLikeLowerOnes_2 : decode cX2_wordsLikeLowerOnes 2 = .ok (.iconst 0, 1) := by decide +kernel
theorem dX2_wordsLikeLowerOnes_3 : decode cX2_wordsLikeLowerOnes 3 = .ok (.istore_n 3, 1) := by decide +kernel
theorem dX2_wordsLikeLowerOnes_4 : decode cX2_wordsLikeLowerOnes 4 = .ok (.iload_n 3, 1) := by decide +kernel
theorem dX2_wordsLikeLowerOnes_5 : decode cX2_wordsLikeLowerOnes 5 = .ok (.bipush 30, 2) := by decide +kernel
theorem dX2_wordsLikeLowerOnes_7 : decode cX2_wordsLikeLowerOnes 7 = .ok (.if_icmp .ge 22, 3) := by decide +kernel
theorem dX2_wordsLikeLowerOnes_10 : decode cX2_wordsLikeLowerOnes 10 = .ok (.aload_n 0, 1) := by decide +kernel
theorem dX2_wordsLikeLowerOnes_11 : decode cX2_wordsLikeLowerOnes 11 = .ok (.iload_n 1, 1) := by decide +kernel
theorem dX2_wordsLikeLowerOnes_12 : decode cX2_wordsLikeLowerOnes 12 = .ok (.iload_n 3, 1) := by decide +kernel
theorem dX2_wordsLikeLowerOnes_13 : decode cX2_wordsLikeLowerOnes 13 = .ok (.invokevirtual 43, 3) := by decide +kernel
theorem dX2_wordsLikeLowerOnes_16 : decode cX2_wordsLikeLowerOnes 16 = .ok (.iload_n 3, 1) := by decide +kernel
theorem dX2_wordsLikeLowerOnes_17 : decode cX2_wordsLikeLowerOnes 17 = .ok (.if_icmp .ge 6, 3) := by decide +kernel
theorem dX2_wordsLikeLowerOnes_20 : decode cX2_wordsLikeLowerOnes 20 = .ok (.iinc 2 1, 3) := by decide +kernel
theorem dX2_wordsLikeLowerOnes_23 : decode cX2_wordsLikeLowerOnes 23 = .ok (.iinc 3 1, 3) := by decide +kernel
theorem dX2_wordsLikeLowerOnes_26 : decode cX2_wordsLikeLowerOnes 26 = .ok (.goto (-22), 3) := by decide +kernel
theorem dX2_wordsLikeLowerOnes_29 : decode cX2_wordsLikeLowerOnes 29 = .ok (.iload_n 2, 1) := by decide +kernel
theorem dX2_wordsLikeLowerOnes_30 : decode cX2_wordsLikeLowerOnes 30 = .ok (.ireturn, 1) := by decide +kernel
set_option maxRecDepth 20000 in
theorem ggX2_account_X6_missedBy : GoodIn wsX2_account wsX6_missedBy := goodIn_r _ [8, 9, 21, 22, 23] (by decide +kernel) (by decide +kernel)
set_option maxRecDepth 20000 in
theorem gX2_account_X6_missedBy : GoodIn wsX2_account (wsV RX2 49 RX6 yX6_missedBy wsX6_missedBy) := goodIn_app (goodIn_of _ (by decide +kernel)) ggX2_account_X6_missedBy
set_option maxRecDepth 20000 in
theorem ggX2_account_X6_payOf : GoodIn wsX2_account wsX6_payOf := goodIn_r _ [13, 9, 14, 21, 22, 23, 15, 16, 17, 18, 19, 20] (by decide +kernel) (by decide +kernel)
set_option maxRecDepth 20000 in
theorem gX2_account_X6_payOf : GoodIn wsX2_account (wsV RX2 55 RX6 yX6_payOf wsX6_payOf) := goodIn_app (goodIn_of _ (by decide +kernel)) ggX2_account_X6_payOf
theorem dX2_account_0 : decode cX2_account 0 = .ok (.iconst 0, 1) := by decide +kernel
theorem dX2_account_1 : decode cX2_account 1 = .ok (.istore_n 3, 1) := by decide +kernel
theorem dX2_account_2 : decode cX2_account 2 = .ok (.iload_n 3, 1) := by decide +kernel
theorem dX2_account_3 : decode cX2_account 3 = .ok (.bipush 6, 2) := by decide +kernel
theorem dX2_account_5 : decode cX2_account 5 = .ok (.if_icmp .ge 38, 3) := by decide +kernel
theorem dX2_account_8 : decode cX2_account 8 = .ok (.aload_n 0, 1) := by decide +kernel
theorem dX2_account_9 : decode cX2_account 9 = .ok (.getfield 21, 3) := by decide +kernel
theorem dX2_account_12 : decode cX2_account 12 = .ok (.iload_n 3, 1) := by decide +kernel
theorem dX2_account_13 : decode cX2_account 13 = .ok (.dup2, 1) := by decide +kernel
theorem dX2_account_14 : decode cX2_account 14 = .ok (.iaload, 1) := by decide +kernel
theorem dX2_account_15 : decode cX2_account 15 = .ok (.aload_n 1, 1) := by decide +kernel
theorem dX2_account_16 : decode cX2_account 16 = .ok (.iload_n 3, 1) := by decide +kernel
theorem dX2_account_17 : decode cX2_account 17 = .ok (.invokevirtual 49, 3) := by decide +kernel
theorem dX2_account_20 : decode cX2_account 20 = .ok (.iadd, 1) := by decide +kernel
theorem dX2_account_21 : decode cX2_account 21 = .ok (.iastore, 1) := by decide +kernel
theorem dX2_account_22 : decode cX2_account 22 = .ok (.aload_n 0, 1) := by decide +kernel
theorem dX2_account_23 : decode cX2_account 23 = .ok (.getfield 24, 3) := by decide +kernel
theorem dX2_account_26 : decode cX2_account 26 = .ok (.iload_n 3, 1) := by decide +kernel
theorem dX2_account_27 : decode cX2_account 27 = .ok (.dup2, 1) := by decide +kernel
theorem dX2_account_28 : decode cX2_account 28 = .ok (.iaload, 1) := by decide +kernel
theorem dX2_account_29 : decode cX2_account 29 = .ok (.aload_n 1, 1) := by decide +kernel
theorem dX2_account_30 : decode cX2_account 30 = .ok (.iload_n 3, 1) := by decide +kernel
theorem dX2_account_31 : decode cX2_account 31 = .ok (.aload_n 0, 1) := by decide +kernel
theorem dX2_account_32 : decode cX2_account 32 = .ok (.invokevirtual 55, 3) := by decide +kernel
theorem dX2_account_35 : decode cX2_account 35 = .ok (.iadd, 1) := by decide +kernel
theorem dX2_account_36 : decode cX2_account 36 = .ok (.iastore, 1) := by decide +kernel
theorem dX2_account_37 : decode cX2_account 37 = .ok (.iinc 3 1, 3) := by decide +kernel
theorem dX2_account_40 : decode cX2_account 40 = .ok (.goto (-38), 3) := by decide +kernel
theorem dX2_account_43 : decode cX2_account 43 = .ok (.iload_n 2, 1) := by decide +kernel
theorem dX2_account_44 : decode cX2_account 44 = .ok (.ifCond .lt 19, 3) := by decide +kernel
theorem dX2_account_47 : decode cX2_account 47 = .ok (.iload_n 2, 1) := by decide +kernel
theorem dX2_account_48 : decode cX2_account 48 = .ok (.bipush 6, 2) := by decide +kernel
theorem dX2_account_50 : decode cX2_account 50 = .ok (.if_icmp .ge 13, 3) := by decide +kernel
theorem dX2_account_53 : decode cX2_account 53 = .ok (.aload_n 0, 1) := by decide +kernel
theorem dX2_account_54 : decode cX2_account 54 = .ok (.getfield 27, 3) := by decide +kernel
theorem dX2_account_57 : decode cX2_account 57 = .ok (.iload_n 2, 1) := by decide +kernel
theorem dX2_account_58 : decode cX2_account 58 = .ok (.dup2, 1) := by decide +kernel
theorem dX2_account_59 : decode cX2_account 59 = .ok (.iaload, 1) := by decide +kernel
theorem dX2_account_60 : decode cX2_account 60 = .ok (.iconst 1, 1) := by decide +kernel
theorem dX2_account_61 : decode cX2_account 61 = .ok (.iadd, 1) := by decide +kernel
theorem dX2_account_62 : decode cX2_account 62 = .ok (.iastore, 1) := by decide +kernel
theorem dX2_account_63 : decode cX2_account 63 = .ok (.return_, 1) := by decide +kernel
set_option maxRecDepth 20000 in
theorem ggX3_init_X4_init : GoodIn wsX3_init wsX4_init := goodIn_r _ [11, 12, 2, 3, 4, 13, 14, 23, 24, 25] (by decide +kernel) (by decide +kernel)
set_option maxRecDepth 20000 in
theorem gX3_init_X4_init_n17 : GoodIn wsX3_init (wsX4_init) := ggX3_init_X4_init
theorem dX3_init_0 : decode cX3_init 0 = .ok (.aload_n 0, 1) := by decide +kernel
theorem dX3_init_1 : decode cX3_init 1 = .ok (.invokespecial 3, 3) := by decide +kernel
theorem dX3_init_4 : decode cX3_init 4 = .ok (.aload_n 0, 1) := by decide +kernel
theorem dX3_init_5 : decode cX3_init 5 = .ok (.bipush 60, 2) := by decide +kernel
theorem dX3_init_7 : decode cX3_init 7 = .ok (.newarray .int, 2) := by decide +kernel
theorem dX3_init_9 : decode cX3_init 9 = .ok (.putfield 9, 3) := by decide +kernel
theorem dX3_init_12 : decode cX3_init 12 = .ok (.aload_n 0, 1) := by decide +kernel
theorem dX3_init_13 : decode cX3_init 13 = .ok (.new 15, 3) := by decide +kernel
theorem dX3_init_16 : decode cX3_init 16 = .ok (.dup, 1) := by decide +kernel
theorem dX3_init_17 : decode cX3_init 17 = .ok (.invokespecial 17, 3) := by decide +kernel
theorem dX3_init_20 : decode cX3_init 20 = .ok (.putfield 18, 3) := by decide +kernel
theorem dX3_init_23 : decode cX3_init 23 = .ok (.return_, 1) := by decide +kernel
theorem dX3_add_0 : decode cX3_add 0 = .ok (.aload_n 0, 1) := by decide +kernel
theorem dX3_add_1 : decode cX3_add 1 = .ok (.getfield 22, 3) := by decide +kernel
theorem dX3_add_4 : decode cX3_add 4 = .ok (.ifCond .lt 32, 3) := by decide +kernel
theorem dX3_add_7 : decode cX3_add 7 = .ok (.aload_n 0, 1) := by decide +kernel
theorem dX3_add_8 : decode cX3_add 8 = .ok (.getfield 22, 3) := by decide +kernel
theorem dX3_add_11 : decode cX3_add 11 = .ok (.bipush 60, 2) := by decide +kernel
theorem dX3_add_13 : decode cX3_add 13 = .ok (.if_icmp .ge 23, 3) := by decide +kernel
theorem dX3_add_16 : decode cX3_add 16 = .ok (.aload_n 0, 1) := by decide +kernel
theorem dX3_add_17 : decode cX3_add 17 = .ok (.getfield 9, 3) := by decide +kernel
theorem dX3_add_20 : decode cX3_add 20 = .ok (.aload_n 0, 1) := by decide +kernel
theorem dX3_add_21 : decode cX3_add 21 = .ok (.getfield 22, 3) := by decide +kernel
theorem dX3_add_24 : decode cX3_add 24 = .ok (.iload_n 1, 1) := by decide +kernel
theorem dX3_add_25 : decode cX3_add 25 = .ok (.iastore, 1) := by decide +kernel
theorem dX3_add_26 : decode cX3_add 26 = .ok (.aload_n 0, 1) := by decide +kernel
theorem dX3_add_27 : decode cX3_add 27 = .ok (.dup, 1) := by decide +kernel
theorem dX3_add_28 : decode cX3_add 28 = .ok (.getfield 22, 3) := by decide +kernel
theorem dX3_add_31 : decode cX3_add 31 = .ok (.iconst 1, 1) := by decide +kernel
theorem dX3_add_32 : decode cX3_add 32 = .ok (.iadd, 1) := by decide +kernel
theorem dX3_add_33 : decode cX3_add 33 = .ok (.putfield 22, 3) := by decide +kernel
theorem dX3_add_36 : decode cX3_add 36 = .ok (.return_, 1) := by decide +kernel
theorem dX3_codeAt_0 : decode cX3_codeAt 0 = .ok (.iload_n 1, 1) := by decide +kernel
theorem dX3_codeAt_1 : decode cX3_codeAt 1 = .ok (.ifCond .lt 20, 3) := by decide +kernel
theorem dX3_codeAt_4 : decode cX3_codeAt 4 = .ok (.iload_n 1, 1) := by decide +kernel
theorem dX3_codeAt_5 : decode cX3_codeAt 5 = .ok (.aload_n 0, 1) := by decide +kernel
theorem dX3_codeAt_6 : decode cX3_codeAt 6 = .ok (.getfield 22, 3) := by decide +kernel
theorem dX3_codeAt_9 : decode cX3_codeAt 9 = .ok (.if_icmp .ge 12, 3) := by decide +kernel
theorem dX3_codeAt_12 : decode cX3_codeAt 12 = .ok (.aload_n 0, 1) := by decide +kernel
theorem dX3_codeAt_13 : decode cX3_codeAt 13 = .ok (.getfield 9, 3) := by decide +kernel
theorem dX3_codeAt_16 : decode cX3_codeAt 16 = .ok (.iload_n 1, 1) := by decide +kernel
theorem dX3_codeAt_17 : decode cX3_codeAt 17 = .ok (.iaload, 1) := by decide +kernel
theorem dX3_codeAt_18 : decode cX3_codeAt 18 = .ok (.goto 4, 3) := by decide +kernel
theorem dX3_codeAt_21 : decode cX3_codeAt 21 = .ok (.iconst (-1), 1) := by decide +kernel
theorem dX3_codeAt_22 : decode cX3_codeAt 22 = .ok (.ireturn, 1) := by decide +kernel
set_option maxRecDepth 20000 in
theorem ggX3_readAll_X3_startReading : GoodIn wsX3_readAll wsX3_startReading := goodIn_r _ [7, 1, 112, 113, 114, 115, 116, 117, 118, 119] (by decide +kernel) (by decide +kernel)
set_option maxRecDepth 20000 in
theorem gX3_readAll_X3_startReading : GoodIn wsX3_readAll (wsV RX3 26 RX3 yX3_startReading wsX3_startReading) := goodIn_app (goodIn_of _ (by decide +kernel)) ggX3_readAll_X3_startReading
set_option maxRecDepth 20000 in
theorem ggX3_readAll_X3_readPart : GoodIn wsX3_readAll wsX3_readPart := goodIn_r _ [11, 1, 12, 13, 14, 15, 6, 16, 2, 17, 18, 19, 20, 21, 22, 23, 24, 25, 26, 27, 28, 29, 30, 31, 32, 33, 34, 35, 36, 37, 38, 39, 40, 41, 42, 43, 44, 45, 46, 47, 48, 49, 50, 51, 52, 53, 54, 55, 56, 57, 58, 59, 60, 61, 62, 63, 64, 65, 66, 67, 68, 69, 70, 71, 72, 73, 74, 75, 76, 77, 78, 79, 80, 81, 82, 83, 84, 85, 86, 87, 88, 89, 90, 91, 92, 93, 94, 95, 96, 97, 98, 99, 100, 101, 102, 103, 104, 105, 106, 107, 108, 109, 110, 111, 112, 113, 114, 115, 116, 117, 118, 119, 120, 121, 122] (by decide +kernel) (by decide +kernel)
set_option maxRecDepth 20000 in
theorem gX3_readAll_X3_readPart : GoodIn wsX3_readAll (wsV RX3 29 RX3 yX3_readPart wsX3_readPart) := goodIn_app (goodIn_of _ (by decide +kernel)) ggX3_readAll_X3_readPart
set_option maxRecDepth 20000 in
theorem ggX3_readAll_X3_take : GoodIn wsX3_readAll wsX3_take := goodIn_r _ [74, 1, 13, 14, 15, 6, 16, 2, 17, 112, 113, 114, 115, 116, 117, 118, 119] (by decide +kernel) (by decide +kernel)
set_option maxRecDepth 20000 in
theorem gX3_readAll_X3_take : GoodIn wsX3_readAll (wsV RX3 36 RX3 yX3_take wsX3_take) := goodIn_app (goodIn_of _ (by decide +kernel)) ggX3_readAll_X3_take
theorem dX3_readAll_0 : decode cX3_readAll 0 = .ok (.aload_n 0, 1) := by decide +kernel
theorem dX3_readAll_1 : decode cX3_readAll 1 = .ok (.invokevirtual 26, 3) := by decide +kernel
theorem dX3_readAll_4 : decode cX3_readAll 4 = .ok (.iconst 0, 1) := by decide +kernel
theorem dX3_readAll_5 : decode cX3_readAll 5 = .ok (.istore_n 1, 1) := by decide +kernel
theorem dX3_readAll_6 : decode cX3_readAll 6 = .ok (.iload_n 1, 1) := by decide +kernel
theorem dX3_readAll_7 : decode cX3_readAll 7 = .ok (.bipush 60, 2) := by decide +kernel
theorem dX3_readAll_9 : decode cX3_readAll 9 = .ok (.if_icmp .ge 42, 3) := by decide +kernel
theorem dX3_readAll_12 : decode cX3_readAll 12 = .ok (.aload_n 0, 1) := by decide +kernel
theorem dX3_readAll_13 : decode cX3_readAll 13 = .ok (.invokevirtual 29, 3) := by decide +kernel
theorem dX3_readAll_16 : decode cX3_readAll 16 = .ok (.ifCond .ne 5, 3) := by decide +kernel
theorem dX3_readAll_19 : decode cX3_readAll 19 = .ok (.iconst 0, 1) := by decide +kernel
theorem dX3_readAll_20 : decode cX3_readAll 20 = .ok (.ireturn, 1) := by decide +kernel
theorem dX3_readAll_21 : decode cX3_readAll 21 = .ok (.aload_n 0, 1) := by decide +kernel
theorem dX3_readAll_22 : decode cX3_readAll 22 = .ok (.getfield 33, 3) := by decide +kernel
theorem dX3_readAll_25 : decode cX3_readAll 25 = .ok (.aload_n 0, 1) := by decide +kernel
theorem dX3_readAll_26 : decode cX3_readAll 26 = .ok (.getfield 22, 3) := by decide +kernel
theorem dX3_readAll_29 : decode cX3_readAll 29 = .ok (.if_icmp .ne 5, 3) := by decide +kernel
theorem dX3_readAll_32 : decode cX3_readAll 32 = .ok (.iconst 1, 1) := by decide +kernel
theorem dX3_readAll_33 : decode cX3_readAll 33 = .ok (.ireturn, 1) := by decide +kernel
theorem dX3_readAll_34 : decode cX3_readAll 34 = .ok (.aload_n 0, 1) := by decide +kernel
theorem dX3_readAll_35 : decode cX3_readAll 35 = .ok (.bipush 59, 2) := by decide +kernel
theorem dX3_readAll_37 : decode cX3_readAll 37 = .ok (.invokevirtual 36, 3) := by decide +kernel
theorem dX3_readAll_40 : decode cX3_readAll 40 = .ok (.ifCond .ne 5, 3) := by decide +kernel
theorem dX3_readAll_43 : decode cX3_readAll 43 = .ok (.iconst 0, 1) := by decide +kernel
theorem dX3_readAll_44 : decode cX3_readAll 44 = .ok (.ireturn, 1) := by decide +kernel
theorem dX3_readAll_45 : decode cX3_readAll 45 = .ok (.iinc 1 1, 3) := by decide +kernel
theorem dX3_readAll_48 : decode cX3_readAll 48 = .ok (.goto (-42), 3) := by decide +kernel
theorem dX3_readAll_51 : decode cX3_readAll 51 = .ok (.iconst 0, 1) := by decide +kernel
theorem dX3_readAll_52 : decode cX3_readAll 52 = .ok (.ireturn, 1) := by decide +kernel
theorem dX3_startReading_0 : decode cX3_startReading 0 = .ok (.aload_n 0, 1) := by decide +kernel
theorem dX3_startReading_1 : decode cX3_startReading 1 = .ok (.iconst 0, 1) := by decide +kernel
theorem dX3_startReading_2 : decode cX3_startReading 2 = .ok (.putfield 33, 3) := by decide +kernel
theorem dX3_startReading_5 : decode cX3_startReading 5 = .ok (.return_, 1) := by decide +kernel
set_option maxRecDepth 20000 in
theorem ggX3_readNextPart_X3_take : GoodIn wsX3_readNextPart wsX3_take := goodIn_r _ [6, 1, 7, 8, 9, 5, 10, 11, 12, 108, 109, 110, 111, 112, 113, 114, 115] (by decide +kernel) (by decide +kernel)
set_option maxRecDepth 20000 in
theorem gX3_readNextPart_X3_take : GoodIn wsX3_readNextPart (wsV RX3 36 RX3 yX3_take wsX3_take) := goodIn_app (goodIn_of _ (by decide +kernel)) ggX3_readNextPart_X3_take
set_option maxRecDepth 20000 in
theorem ggX3_readNextPart_X3_readPart : GoodIn wsX3_readNextPart wsX3_readPart := goodIn_r _ [16, 1, 17, 7, 8, 9, 5, 10, 11, 12, 18, 19, 20, 21, 22, 23, 24, 25, 26, 27, 28, 29, 30, 31, 32, 33, 34, 35, 36, 37, 38, 39, 40, 41, 42, 43, 44, 45, 46, 47, 48, 49, 50, 51, 52, 53, 54, 55, 56, 57, 58, 59, 60, 61, 62, 63, 64, 65, 66, 67, 68, 69, 70, 2, 3, 4, 6, 71, 72, 73, 74, 75, 76, 77, 78, 79, 80, 81, 82, 83, 84, 85, 86, 87, 88, 89, 90, 91, 92, 93, 94, 95, 96, 97, 98, 99, 100, 101, 102, 103, 104, 105, 106, 107, 108, 109, 110, 111, 112, 113, 114, 115, 116, 117, 118] (by decide +kernel) (by decide +kernel)
set_option maxRecDepth 20000 in
theorem gX3_readNextPart_X3_readPart : GoodIn wsX3_readNextPart (wsV RX3 29 RX3 yX3_readPart wsX3_readPart) := goodIn_app (goodIn_of _ (by decide +kernel)) ggX3_readNextPart_X3_readPart
theorem dX3_readNextPart_0 : decode cX3_readNextPart 0 = .ok (.aload_n 0, 1) := by decide +kernel
theorem dX3_readNextPart_1 : decode cX3_readNextPart 1 = .ok (.getfield 33, 3) := by decide +kernel
theorem dX3_readNextPart_4 : decode cX3_readNextPart 4 = .ok (.ifCond .le 14, 3) := by decide +kernel
theorem dX3_readNextPart_7 : decode cX3_readNextPart 7 = .ok (.aload_n 0, 1) := by decide +kernel
theorem dX3_readNextPart_8 : decode cX3_readNextPart 8 = .ok (.bipush 59, 2) := by decide +kernel
theorem dX3_readNextPart_10 : decode cX3_readNextPart 10 = .ok (.invokevirtual 36, 3) := by decide +kernel
theorem dX3_readNextPart_13 : decode cX3_readNextPart 13 = .ok (.ifCond .ne 5, 3) := by decide +kernel
theorem dX3_readNextPart_16 : decode cX3_readNextPart 16 = .ok (.iconst 0, 1) := by decide +kernel
theorem dX3_readNextPart_17 : decode cX3_readNextPart 17 = .ok (.ireturn, 1) := by decide +kernel
theorem dX3_readNextPart_18 : decode cX3_readNextPart 18 = .ok (.aload_n 0, 1) := by decide +kernel
theorem dX3_readNextPart_19 : decode cX3_readNextPart 19 = .ok (.invokevirtual 29, 3) := by decide +kernel
theorem dX3_readNextPart_22 : decode cX3_readNextPart 22 = .ok (.ireturn, 1) := by decide +kernel
set_option maxRecDepth 20000 in
theorem ggX3_readPart_X3_codeAt : GoodIn wsX3_readPart wsX3_codeAt := goodIn_r _ [7, 8, 9, 104, 105, 106, 107, 108, 109, 110, 111] (by decide +kernel) (by decide +kernel)
set_option maxRecDepth 20000 in
theorem gX3_readPart_X3_codeAt : GoodIn wsX3_readPart (wsV RX3 40 RX3 yX3_codeAt wsX3_codeAt) := goodIn_app (goodIn_of _ (by decide +kernel)) ggX3_readPart_X3_codeAt
set_option maxRecDepth 20000 in
theorem ggX3_readPart_X3_takeAll : GoodIn wsX3_readPart wsX3_takeAll := goodIn_r _ [13, 14, 15, 16, 17, 18, 19, 20, 21, 22, 23, 24, 25, 26, 27, 28, 29, 30, 31, 32, 33, 34, 35, 36, 37, 38, 39, 40, 41, 42, 43, 44, 45, 46, 47, 48, 49, 50, 51, 52, 53, 54, 55, 56, 57, 58, 59, 60, 61, 62, 63, 64, 65, 6, 66, 1, 3, 4, 5, 7, 8, 9, 104, 105, 106, 107, 108, 109, 110, 111] (by decide +kernel) (by decide +kernel)
set_option maxRecDepth 20000 in
theorem gX3_readPart_X3_takeAll : GoodIn wsX3_readPart (wsV RX3 49 RX3 yX3_takeAll wsX3_takeAll) := goodIn_app (goodIn_of _ (by decide +kernel)) ggX3_readPart_X3_takeAll
set_option maxRecDepth 20000 in
theorem ggX3_readPart_X3_readSentence : GoodIn wsX3_readPart wsX3_readSentence := goodIn_r _ [70, 71, 72, 73, 74, 75, 76, 77, 78, 79, 80, 81, 82, 6, 83, 84, 85, 86, 87, 1, 3, 4, 5, 7, 8, 9, 88, 89, 90, 91, 92, 63, 64, 65, 66, 104, 105, 106, 107, 108, 109, 110, 111, 112, 113, 114] (by decide +kernel) (by decide +kernel)
set_option maxRecDepth 20000 in
theorem gX3_readPart_X3_readSentence : GoodIn wsX3_readPart (wsV RX3 53 RX3 yX3_readSentence wsX3_readSentence) := goodIn_app (goodIn_of _ (by decide +kernel)) ggX3_readPart_X3_readSentence
set_option maxRecDepth 20000 in
theorem ggX3_readPart_X3_readSetting : GoodIn wsX3_readPart wsX3_readSetting := goodIn_r _ [96, 97, 98, 84, 85, 86, 6, 87, 1, 3, 4, 5, 7, 8, 9, 63, 64, 65, 66, 104, 105, 106, 107, 108, 109, 110, 111] (by decide +kernel) (by decide +kernel)
set_option maxRecDepth 20000 in
theorem gX3_readPart_X3_readSetting : GoodIn wsX3_readPart (wsV RX3 60 RX3 yX3_readSetting wsX3_readSetting) := goodIn_app (goodIn_of _ (by decide +kernel)) ggX3_readPart_X3_readSetting
set_option maxRecDepth 20000 in
theorem ggX3_readPart_X3_readLesson : GoodIn wsX3_readPart wsX3_readLesson := goodIn_r _ [102, 97, 103, 98, 84, 85, 86, 6, 87, 1, 3, 4, 5, 7, 8, 9, 63, 64, 65, 66, 80, 81, 82, 83, 104, 105, 106, 107, 108, 109, 110, 111] (by decide +kernel) (by decide +kernel)
set_option maxRecDepth 20000 in
theorem gX3_readPart_X3_readLesson : GoodIn wsX3_readPart (wsV RX3 67 RX3 yX3_readLesson wsX3_readLesson) := goodIn_app (goodIn_of _ (by decide +kernel)) ggX3_readPart_X3_readLesson
theorem dX3_readPart_0 : decode cX3_readPart 0 = .ok (.aload_n 0, 1) := by decide +kernel
theorem dX3_readPart_1 : decode cX3_readPart 1 = .ok (.aload_n 0, 1) := by decide +kernel
theorem dX3_readPart_2 : decode cX3_readPart 2 = .ok (.getfield 33, 3) := by decide +kernel
theorem dX3_readPart_5 : decode cX3_readPart 5 = .ok (.invokevirtual 40, 3) := by decide +kernel
theorem dX3_readPart_8 : decode cX3_readPart 8 = .ok (.lookupswitch 176 #[(101, 91), (102, 120), (103, 79), (115, 52), (116, 149)], 52) := by decide +kernel
theorem dX3_readPart_60 : decode cX3_readPart 60 = .ok (.aload_n 0, 1) := by decide +kernel
theorem dX3_readPart_61 : decode cX3_readPart 61 = .ok (.iconst 0, 1) := by decide +kernel
theorem dX3_readPart_62 : decode cX3_readPart 62 = .ok (.putfield 44, 3) := by decide +kernel
theorem dX3_readPart_65 : decode cX3_readPart 65 = .ok (.aload_n 0, 1) := by decide +kernel
theorem dX3_readPart_66 : decode cX3_readPart 66 = .ok (.ldc 47, 2) := by decide +kernel
theorem dX3_readPart_68 : decode cX3_readPart 68 = .ok (.invokevirtual 49, 3) := by decide +kernel
theorem dX3_readPart_71 : decode cX3_readPart 71 = .ok (.ifCond .eq 14, 3) := by decide +kernel
theorem dX3_readPart_74 : decode cX3_readPart 74 = .ok (.aload_n 0, 1) := by decide +kernel
theorem dX3_readPart_75 : decode cX3_readPart 75 = .ok (.invokevirtual 53, 3) := by decide +kernel
theorem dX3_readPart_78 : decode cX3_readPart 78 = .ok (.ifCond .eq 7, 3) := by decide +kernel
theorem dX3_readPart_81 : decode cX3_readPart 81 = .ok (.iconst 1, 1) := by decide +kernel
theorem dX3_readPart_82 : decode cX3_readPart 82 = .ok (.goto 4, 3) := by decide +kernel
theorem dX3_readPart_85 : decode cX3_readPart 85 = .ok (.iconst 0, 1) := by decide +kernel
theorem dX3_readPart_86 : decode cX3_readPart 86 = .ok (.ireturn, 1) := by decide +kernel
theorem dX3_readPart_87 : decode cX3_readPart 87 = .ok (.aload_n 0, 1) := by decide +kernel
theorem dX3_readPart_88 : decode cX3_readPart 88 = .ok (.iconst 1, 1) := by decide +kernel
theorem dX3_readPart_89 : decode cX3_readPart 89 = .ok (.putfield 44, 3) := by decide +kernel
theorem dX3_readPart_92 : decode cX3_readPart 92 = .ok (.aload_n 0, 1) := by decide +kernel
theorem dX3_readPart_93 : decode cX3_readPart 93 = .ok (.ldc 56, 2) := by decide +kernel
theorem dX3_readPart_95 : decode cX3_readPart 95 = .ok (.invokevirtual 49, 3) := by decide +kernel
theorem dX3_readPart_98 : decode cX3_readPart 98 = .ok (.ireturn, 1) := by decide +kernel
theorem dX3_readPart_99 : decode cX3_readPart 99 = .ok (.aload_n 0, 1) := by decide +kernel
theorem dX3_readPart_100 : decode cX3_readPart 100 = .ok (.iconst 2, 1) := by decide +kernel
theorem dX3_readPart_101 : decode cX3_readPart 101 = .ok (.putfield 44, 3) := by decide +kernel
theorem dX3_readPart_104 : decode cX3_readPart 104 = .ok (.aload_n 0, 1) := by decide +kernel
theorem dX3_readPart_105 : decode cX3_readPart 105 = .ok (.ldc 58, 2) := by decide +kernel
theorem dX3_readPart_107 : decode cX3_readPart 107 = .ok (.invokevirtual 49, 3) := by decide +kernel
theorem dX3_readPart_110 : decode cX3_readPart 110 = .ok (.ifCond .eq 16, 3) := by decide +kernel
theorem dX3_readPart_113 : decode cX3_readPart 113 = .ok (.aload_n 0, 1) := by decide +kernel
theorem dX3_readPart_114 : decode cX3_readPart 114 = .ok (.bipush 9, 2) := by decide +kernel
theorem dX3_readPart_116 : decode cX3_readPart 116 = .ok (.invokevirtual 60, 3) := by decide +kernel
theorem dX3_readPart_119 : decode cX3_readPart 119 = .ok (.ifCond .eq 7, 3) := by decide +kernel
theorem dX3_readPart_122 : decode cX3_readPart 122 = .ok (.iconst 1, 1) := by decide +kernel
theorem dX3_readPart_123 : decode cX3_readPart 123 = .ok (.goto 4, 3) := by decide +kernel
theorem dX3_readPart_126 : decode cX3_readPart 126 = .ok (.iconst 0, 1) := by decide +kernel
theorem dX3_readPart_127 : decode cX3_readPart 127 = .ok (.ireturn, 1) := by decide +kernel
theorem dX3_readPart_128 : decode cX3_readPart 128 = .ok (.aload_n 0, 1) := by decide +kernel
theorem dX3_readPart_129 : decode cX3_readPart 129 = .ok (.iconst 3, 1) := by decide +kernel
theorem dX3_readPart_130 : decode cX3_readPart 130 = .ok (.putfield 44, 3) := by decide +kernel
theorem dX3_readPart_133 : decode cX3_readPart 133 = .ok (.aload_n 0, 1) := by decide +kernel
theorem dX3_readPart_134 : decode cX3_readPart 134 = .ok (.ldc 63, 2) := by decide +kernel
theorem dX3_readPart_136 : decode cX3_readPart 136 = .ok (.invokevirtual 49, 3) := by decide +kernel
theorem dX3_readPart_139 : decode cX3_readPart 139 = .ok (.ifCond .eq 16, 3) := by decide +kernel
theorem dX3_readPart_142 : decode cX3_readPart 142 = .ok (.aload_n 0, 1) := by decide +kernel
theorem dX3_readPart_143 : decode cX3_readPart 143 = .ok (.bipush 9, 2) := by decide +kernel
theorem dX3_readPart_145 : decode cX3_readPart 145 = .ok (.invokevirtual 60, 3) := by decide +kernel
theorem dX3_readPart_148 : decode cX3_readPart 148 = .ok (.ifCond .eq 7, 3) := by decide +kernel
theorem dX3_readPart_151 : decode cX3_readPart 151 = .ok (.iconst 1, 1) := by decide +kernel
theorem dX3_readPart_152 : decode cX3_readPart 152 = .ok (.goto 4, 3) := by decide +kernel
theorem dX3_readPart_155 : decode cX3_readPart 155 = .ok (.iconst 0, 1) := by decide +kernel
theorem dX3_readPart_156 : decode cX3_readPart 156 = .ok (.ireturn, 1) := by decide +kernel
theorem dX3_readPart_157 : decode cX3_readPart 157 = .ok (.aload_n 0, 1) := by decide +kernel
theorem dX3_readPart_158 : decode cX3_readPart 158 = .ok (.iconst 4, 1) := by decide +kernel
theorem dX3_readPart_159 : decode cX3_readPart 159 = .ok (.putfield 44, 3) := by decide +kernel
theorem dX3_readPart_162 : decode cX3_readPart 162 = .ok (.aload_n 0, 1) := by decide +kernel
theorem dX3_readPart_163 : decode cX3_readPart 163 = .ok (.ldc 65, 2) := by decide +kernel
theorem dX3_readPart_165 : decode cX3_readPart 165 = .ok (.invokevirtual 49, 3) := by decide +kernel
theorem dX3_readPart_168 : decode cX3_readPart 168 = .ok (.ifCond .eq 14, 3) := by decide +kernel
theorem dX3_readPart_171 : decode cX3_readPart 171 = .ok (.aload_n 0, 1) := by decide +kernel
theorem dX3_readPart_172 : decode cX3_readPart 172 = .ok (.invokevirtual 67, 3) := by decide +kernel
theorem dX3_readPart_175 : decode cX3_readPart 175 = .ok (.ifCond .eq 7, 3) := by decide +kernel
theorem dX3_readPart_178 : decode cX3_readPart 178 = .ok (.iconst 1, 1) := by decide +kernel
theorem dX3_readPart_179 : decode cX3_readPart 179 = .ok (.goto 4, 3) := by decide +kernel
theorem dX3_readPart_182 : decode cX3_readPart 182 = .ok (.iconst 0, 1) := by decide +kernel
theorem dX3_readPart_183 : decode cX3_readPart 183 = .ok (.ireturn, 1) := by decide +kernel
theorem dX3_readPart_184 : decode cX3_readPart 184 = .ok (.iconst 0, 1) := by decide +kernel
theorem dX3_readPart_185 : decode cX3_readPart 185 = .ok (.ireturn, 1) := by decide +kernel
set_option maxRecDepth 20000 in
theorem ggX3_readSentence_X4_begin : GoodIn wsX3_readSentence wsX4_begin := goodIn_r _ [7, 8, 9, 43, 44, 45] (by decide +kernel) (by decide +kernel)
set_option maxRecDepth 20000 in
theorem gX3_readSentence_X4_begin : GoodIn wsX3_readSentence (wsV RX3 70 RX4 yX4_begin wsX4_begin) := goodIn_app (goodIn_of _ (by decide +kernel)) ggX3_readSentence_X4_begin
set_option maxRecDepth 20000 in
theorem ggX3_readSentence_X3_readWord : GoodIn wsX3_readSentence wsX3_readWord := goodIn_r _ [14, 15, 16, 17, 13, 18, 19, 20, 21, 22, 23, 24, 25, 35, 36, 37, 38, 39, 40, 41, 42] (by decide +kernel) (by decide +kernel)
set_option maxRecDepth 20000 in
theorem gX3_readSentence_X3_readWord : GoodIn wsX3_readSentence (wsV RX3 73 RX3 yX3_readWord wsX3_readWord) := goodIn_app (goodIn_of _ (by decide +kernel)) ggX3_readSentence_X3_readWord
set_option maxRecDepth 20000 in
theorem ggX3_readSentence_X4_addWord : GoodIn wsX3_readSentence wsX4_addWord := goodIn_r _ [29, 8, 30, 43, 44, 45] (by decide +kernel) (by decide +kernel)
set_option maxRecDepth 20000 in
theorem gX3_readSentence_X4_addWord : GoodIn wsX3_readSentence (wsV RX3 77 RX4 yX4_addWord wsX4_addWord) := goodIn_app (goodIn_of _ (by decide +kernel)) ggX3_readSentence_X4_addWord
set_option maxRecDepth 20000 in
theorem ggX3_readSentence_X3_take : GoodIn wsX3_readSentence wsX3_take := goodIn_r _ [34, 19, 20, 21, 22, 13, 23, 24, 25, 35, 36, 37, 38, 39, 40, 41, 42] (by decide +kernel) (by decide +kernel)
set_option maxRecDepth 20000 in
theorem gX3_readSentence_X3_take : GoodIn wsX3_readSentence (wsV RX3 36 RX3 yX3_take wsX3_take) := goodIn_app (goodIn_of _ (by decide +kernel)) ggX3_readSentence_X3_take
set_option maxRecDepth 20000 in
theorem ggX3_readSentence_X3_readDigit : GoodIn wsX3_readSentence wsX3_readDigit := goodIn_r _ [18, 19, 20, 21, 22, 13, 23, 24, 25, 35, 36, 37, 38, 39, 40, 41, 42] (by decide +kernel) (by decide +kernel)
set_option maxRecDepth 20000 in
theorem gX3_readSentence_X3_readDigit : GoodIn wsX3_readSentence (wsV RX3 81 RX3 yX3_readDigit wsX3_readDigit) := goodIn_app (goodIn_of _ (by decide +kernel)) ggX3_readSentence_X3_readDigit
theorem dX3_readSentence_0 : decode cX3_readSentence 0 = .ok (.aload_n 0, 1) := by decide +kernel
theorem dX3_readSentence_1 : decode cX3_readSentence 1 = .ok (.getfield 18, 3) := by decide +kernel
theorem dX3_readSentence_4 : decode cX3_readSentence 4 = .ok (.invokevirtual 70, 3) := by decide +kernel
theorem dX3_readSentence_7 : decode cX3_readSentence 7 = .ok (.iconst 1, 1) := by decide +kernel
theorem dX3_readSentence_8 : decode cX3_readSentence 8 = .ok (.istore_n 1, 1) := by decide +kernel
theorem dX3_readSentence_9 : decode cX3_readSentence 9 = .ok (.iconst 1, 1) := by decide +kernel
theorem dX3_readSentence_10 : decode cX3_readSentence 10 = .ok (.istore_n 2, 1) := by decide +kernel
theorem dX3_readSentence_11 : decode cX3_readSentence 11 = .ok (.iload_n 2, 1) := by decide +kernel
theorem dX3_readSentence_12 : decode cX3_readSentence 12 = .ok (.bipush 12, 2) := by decide +kernel
theorem dX3_readSentence_14 : decode cX3_readSentence 14 = .ok (.if_icmp .gt 54, 3) := by decide +kernel
theorem dX3_readSentence_17 : decode cX3_readSentence 17 = .ok (.iload_n 1, 1) := by decide +kernel
theorem dX3_readSentence_18 : decode cX3_readSentence 18 = .ok (.ifCond .eq 50, 3) := by decide +kernel
theorem dX3_readSentence_21 : decode cX3_readSentence 21 = .ok (.aload_n 0, 1) := by decide +kernel
theorem dX3_readSentence_22 : decode cX3_readSentence 22 = .ok (.invokevirtual 73, 3) := by decide +kernel
theorem dX3_readSentence_25 : decode cX3_readSentence 25 = .ok (.istore_n 3, 1) := by decide +kernel
theorem dX3_readSentence_26 : decode cX3_readSentence 26 = .ok (.iload_n 3, 1) := by decide +kernel
theorem dX3_readSentence_27 : decode cX3_readSentence 27 = .ok (.iconst (-1), 1) := by decide +kernel
theorem dX3_readSentence_28 : decode cX3_readSentence 28 = .ok (.if_icmp .ne 5, 3) := by decide +kernel
theorem dX3_readSentence_31 : decode cX3_readSentence 31 = .ok (.iconst 0, 1) := by decide +kernel
theorem dX3_readSentence_32 : decode cX3_readSentence 32 = .ok (.ireturn, 1) := by decide +kernel
theorem dX3_readSentence_33 : decode cX3_readSentence 33 = .ok (.aload_n 0, 1) := by decide +kernel
theorem dX3_readSentence_34 : decode cX3_readSentence 34 = .ok (.getfield 18, 3) := by decide +kernel
theorem dX3_readSentence_37 : decode cX3_readSentence 37 = .ok (.iload_n 3, 1) := by decide +kernel
theorem dX3_readSentence_38 : decode cX3_readSentence 38 = .ok (.invokevirtual 77, 3) := by decide +kernel
theorem dX3_readSentence_41 : decode cX3_readSentence 41 = .ok (.iload_n 2, 1) := by decide +kernel
theorem dX3_readSentence_42 : decode cX3_readSentence 42 = .ok (.bipush 12, 2) := by decide +kernel
theorem dX3_readSentence_44 : decode cX3_readSentence 44 = .ok (.if_icmp .ge 16, 3) := by decide +kernel
theorem dX3_readSentence_47 : decode cX3_readSentence 47 = .ok (.aload_n 0, 1) := by decide +kernel
theorem dX3_readSentence_48 : decode cX3_readSentence 48 = .ok (.bipush 44, 2) := by decide +kernel
theorem dX3_readSentence_50 : decode cX3_readSentence 50 = .ok (.invokevirtual 36, 3) := by decide +kernel
theorem dX3_readSentence_53 : decode cX3_readSentence 53 = .ok (.ifCond .eq 7, 3) := by decide +kernel
theorem dX3_readSentence_56 : decode cX3_readSentence 56 = .ok (.iconst 1, 1) := by decide +kernel
theorem dX3_readSentence_57 : decode cX3_readSentence 57 = .ok (.goto 4, 3) := by decide +kernel
theorem dX3_readSentence_60 : decode cX3_readSentence 60 = .ok (.iconst 0, 1) := by decide +kernel
theorem dX3_readSentence_61 : decode cX3_readSentence 61 = .ok (.istore_n 1, 1) := by decide +kernel
theorem dX3_readSentence_62 : decode cX3_readSentence 62 = .ok (.iinc 2 1, 3) := by decide +kernel
theorem dX3_readSentence_65 : decode cX3_readSentence 65 = .ok (.goto (-54), 3) := by decide +kernel
theorem dX3_readSentence_68 : decode cX3_readSentence 68 = .ok (.aload_n 0, 1) := by decide +kernel
theorem dX3_readSentence_69 : decode cX3_readSentence 69 = .ok (.bipush 35, 2) := by decide +kernel
theorem dX3_readSentence_71 : decode cX3_readSentence 71 = .ok (.invokevirtual 36, 3) := by decide +kernel
theorem dX3_readSentence_74 : decode cX3_readSentence 74 = .ok (.ifCond .ne 5, 3) := by decide +kernel
theorem dX3_readSentence_77 : decode cX3_readSentence 77 = .ok (.iconst 1, 1) := by decide +kernel
theorem dX3_readSentence_78 : decode cX3_readSentence 78 = .ok (.ireturn, 1) := by decide +kernel
theorem dX3_readSentence_79 : decode cX3_readSentence 79 = .ok (.aload_n 0, 1) := by decide +kernel
theorem dX3_readSentence_80 : decode cX3_readSentence 80 = .ok (.getfield 18, 3) := by decide +kernel
theorem dX3_readSentence_83 : decode cX3_readSentence 83 = .ok (.aload_n 0, 1) := by decide +kernel
theorem dX3_readSentence_84 : decode cX3_readSentence 84 = .ok (.iconst 1, 1) := by decide +kernel
theorem dX3_readSentence_85 : decode cX3_readSentence 85 = .ok (.bipush 9, 2) := by decide +kernel
theorem dX3_readSentence_87 : decode cX3_readSentence 87 = .ok (.invokevirtual 81, 3) := by decide +kernel
theorem dX3_readSentence_90 : decode cX3_readSentence 90 = .ok (.putfield 85, 3) := by decide +kernel
theorem dX3_readSentence_93 : decode cX3_readSentence 93 = .ok (.aload_n 0, 1) := by decide +kernel
theorem dX3_readSentence_94 : decode cX3_readSentence 94 = .ok (.getfield 18, 3) := by decide +kernel
theorem dX3_readSentence_97 : decode cX3_readSentence 97 = .ok (.getfield 85, 3) := by decide +kernel
theorem dX3_readSentence_100 : decode cX3_readSentence 100 = .ok (.iconst (-1), 1) := by decide +kernel
theorem dX3_readSentence_101 : decode cX3_readSentence 101 = .ok (.if_icmp .eq 7, 3) := by decide +kernel
theorem dX3_readSentence_104 : decode cX3_readSentence 104 = .ok (.iconst 1, 1) := by decide +kernel
theorem dX3_readSentence_105 : decode cX3_readSentence 105 = .ok (.goto 4, 3) := by decide +kernel
theorem dX3_readSentence_108 : decode cX3_readSentence 108 = .ok (.iconst 0, 1) := by decide +kernel
theorem dX3_readSentence_109 : decode cX3_readSentence 109 = .ok (.ireturn, 1) := by decide +kernel
set_option maxRecDepth 20000 in
theorem ggX3_readSetting_X3_readDigit : GoodIn wsX3_readSetting wsX3_readDigit := goodIn_r _ [7, 8, 9, 10, 11, 6, 12, 13, 14, 19, 20, 21, 22, 23, 24, 25, 26] (by decide +kernel) (by decide +kernel)
set_option maxRecDepth 20000 in
theorem gX3_readSetting_X3_readDigit : GoodIn wsX3_readSetting (wsV RX3 81 RX3 yX3_readDigit wsX3_readDigit) := goodIn_app (goodIn_of _ (by decide +kernel)) ggX3_readSetting_X3_readDigit
set_option maxRecDepth 20000 in
theorem ggX3_readSetting_X3_take : GoodIn wsX3_readSetting wsX3_take := goodIn_r _ [18, 8, 9, 10, 11, 6, 12, 13, 14, 19, 20, 21, 22, 23, 24, 25, 26] (by decide +kernel) (by decide +kernel)
set_option maxRecDepth 20000 in
theorem gX3_readSetting_X3_take : GoodIn wsX3_readSetting (wsV RX3 36 RX3 yX3_take wsX3_take) := goodIn_app (goodIn_of _ (by decide +kernel)) ggX3_readSetting_X3_take
theorem dX3_readSetting_0 : decode cX3_readSetting 0 = .ok (.aload_n 0, 1) := by decide +kernel
theorem dX3_readSetting_1 : decode cX3_readSetting 1 = .ok (.aload_n 0, 1) := by decide +kernel
theorem dX3_readSetting_2 : decode cX3_readSetting 2 = .ok (.iconst 0, 1) := by decide +kernel
theorem dX3_readSetting_3 : decode cX3_readSetting 3 = .ok (.iconst 5, 1) := by decide +kernel
theorem dX3_readSetting_4 : decode cX3_readSetting 4 = .ok (.invokevirtual 81, 3) := by decide +kernel
theorem dX3_readSetting_7 : decode cX3_readSetting 7 = .ok (.putfield 88, 3) := by decide +kernel
theorem dX3_readSetting_10 : decode cX3_readSetting 10 = .ok (.aload_n 0, 1) := by decide +kernel
theorem dX3_readSetting_11 : decode cX3_readSetting 11 = .ok (.getfield 88, 3) := by decide +kernel
theorem dX3_readSetting_14 : decode cX3_readSetting 14 = .ok (.iconst (-1), 1) := by decide +kernel
theorem dX3_readSetting_15 : decode cX3_readSetting 15 = .ok (.if_icmp .eq 12, 3) := by decide +kernel
theorem dX3_readSetting_18 : decode cX3_readSetting 18 = .ok (.aload_n 0, 1) := by decide +kernel
theorem dX3_readSetting_19 : decode cX3_readSetting 19 = .ok (.bipush 61, 2) := by decide +kernel
theorem dX3_readSetting_21 : decode cX3_readSetting 21 = .ok (.invokevirtual 36, 3) := by decide +kernel
theorem dX3_readSetting_24 : decode cX3_readSetting 24 = .ok (.ifCond .ne 5, 3) := by decide +kernel
theorem dX3_readSetting_27 : decode cX3_readSetting 27 = .ok (.iconst 0, 1) := by decide +kernel
theorem dX3_readSetting_28 : decode cX3_readSetting 28 = .ok (.ireturn, 1) := by decide +kernel
theorem dX3_readSetting_29 : decode cX3_readSetting 29 = .ok (.aload_n 0, 1) := by decide +kernel
theorem dX3_readSetting_30 : decode cX3_readSetting 30 = .ok (.aload_n 0, 1) := by decide +kernel
theorem dX3_readSetting_31 : decode cX3_readSetting 31 = .ok (.iconst 0, 1) := by decide +kernel
theorem dX3_readSetting_32 : decode cX3_readSetting 32 = .ok (.iload_n 1, 1) := by decide +kernel
theorem dX3_readSetting_33 : decode cX3_readSetting 33 = .ok (.invokevirtual 81, 3) := by decide +kernel
theorem dX3_readSetting_36 : decode cX3_readSetting 36 = .ok (.putfield 91, 3) := by decide +kernel
theorem dX3_readSetting_39 : decode cX3_readSetting 39 = .ok (.aload_n 0, 1) := by decide +kernel
theorem dX3_readSetting_40 : decode cX3_readSetting 40 = .ok (.getfield 91, 3) := by decide +kernel
theorem dX3_readSetting_43 : decode cX3_readSetting 43 = .ok (.iconst (-1), 1) := by decide +kernel
theorem dX3_readSetting_44 : decode cX3_readSetting 44 = .ok (.if_icmp .eq 7, 3) := by decide +kernel
theorem dX3_readSetting_47 : decode cX3_readSetting 47 = .ok (.iconst 1, 1) := by decide +kernel
theorem dX3_readSetting_48 : decode cX3_readSetting 48 = .ok (.goto 4, 3) := by decide +kernel
theorem dX3_readSetting_51 : decode cX3_readSetting 51 = .ok (.iconst 0, 1) := by decide +kernel
theorem dX3_readSetting_52 : decode cX3_readSetting 52 = .ok (.ireturn, 1) := by decide +kernel
set_option maxRecDepth 20000 in
theorem ggX3_readLesson_X3_readDigit : GoodIn wsX3_readLesson wsX3_readDigit := goodIn_r _ [8, 9, 10, 11, 12, 7, 13, 14, 15, 24, 25, 26, 27, 28, 29, 30, 31] (by decide +kernel) (by decide +kernel)
set_option maxRecDepth 20000 in
theorem gX3_readLesson_X3_readDigit : GoodIn wsX3_readLesson (wsV RX3 81 RX3 yX3_readDigit wsX3_readDigit) := goodIn_app (goodIn_of _ (by decide +kernel)) ggX3_readLesson_X3_readDigit
set_option maxRecDepth 20000 in
theorem ggX3_readLesson_X3_take : GoodIn wsX3_readLesson wsX3_take := goodIn_r _ [19, 9, 10, 11, 12, 7, 13, 14, 15, 24, 25, 26, 27, 28, 29, 30, 31] (by decide +kernel) (by decide +kernel)
set_option maxRecDepth 20000 in
theorem gX3_readLesson_X3_take : GoodIn wsX3_readLesson (wsV RX3 36 RX3 yX3_take wsX3_take) := goodIn_app (goodIn_of _ (by decide +kernel)) ggX3_readLesson_X3_take
set_option maxRecDepth 20000 in
theorem ggX3_readLesson_X3_readWord : GoodIn wsX3_readLesson wsX3_readWord := goodIn_r _ [23, 4, 5, 6, 7, 8, 9, 10, 11, 12, 13, 14, 15, 24, 25, 26, 27, 28, 29, 30, 31] (by decide +kernel) (by decide +kernel)
set_option maxRecDepth 20000 in
theorem gX3_readLesson_X3_readWord : GoodIn wsX3_readLesson (wsV RX3 73 RX3 yX3_readWord wsX3_readWord) := goodIn_app (goodIn_of _ (by decide +kernel)) ggX3_readLesson_X3_readWord
theorem dX3_readLesson_0 : decode cX3_readLesson 0 = .ok (.aload_n 0, 1) := by decide +kernel
theorem dX3_readLesson_1 : decode cX3_readLesson 1 = .ok (.aload_n 0, 1) := by decide +kernel
theorem dX3_readLesson_2 : decode cX3_readLesson 2 = .ok (.iconst 0, 1) := by decide +kernel
theorem dX3_readLesson_3 : decode cX3_readLesson 3 = .ok (.iconst 5, 1) := by decide +kernel
theorem dX3_readLesson_4 : decode cX3_readLesson 4 = .ok (.invokevirtual 81, 3) := by decide +kernel
theorem dX3_readLesson_7 : decode cX3_readLesson 7 = .ok (.putfield 88, 3) := by decide +kernel
theorem dX3_readLesson_10 : decode cX3_readLesson 10 = .ok (.aload_n 0, 1) := by decide +kernel
theorem dX3_readLesson_11 : decode cX3_readLesson 11 = .ok (.getfield 88, 3) := by decide +kernel
theorem dX3_readLesson_14 : decode cX3_readLesson 14 = .ok (.iconst (-1), 1) := by decide +kernel
theorem dX3_readLesson_15 : decode cX3_readLesson 15 = .ok (.if_icmp .eq 12, 3) := by decide +kernel
theorem dX3_readLesson_18 : decode cX3_readLesson 18 = .ok (.aload_n 0, 1) := by decide +kernel
theorem dX3_readLesson_19 : decode cX3_readLesson 19 = .ok (.bipush 58, 2) := by decide +kernel
theorem dX3_readLesson_21 : decode cX3_readLesson 21 = .ok (.invokevirtual 36, 3) := by decide +kernel
theorem dX3_readLesson_24 : decode cX3_readLesson 24 = .ok (.ifCond .ne 5, 3) := by decide +kernel
theorem dX3_readLesson_27 : decode cX3_readLesson 27 = .ok (.iconst 0, 1) := by decide +kernel
theorem dX3_readLesson_28 : decode cX3_readLesson 28 = .ok (.ireturn, 1) := by decide +kernel
theorem dX3_readLesson_29 : decode cX3_readLesson 29 = .ok (.aload_n 0, 1) := by decide +kernel
theorem dX3_readLesson_30 : decode cX3_readLesson 30 = .ok (.aload_n 0, 1) := by decide +kernel
theorem dX3_readLesson_31 : decode cX3_readLesson 31 = .ok (.invokevirtual 73, 3) := by decide +kernel
theorem dX3_readLesson_34 : decode cX3_readLesson 34 = .ok (.putfield 94, 3) := by decide +kernel
theorem dX3_readLesson_37 : decode cX3_readLesson 37 = .ok (.aload_n 0, 1) := by decide +kernel
theorem dX3_readLesson_38 : decode cX3_readLesson 38 = .ok (.getfield 94, 3) := by decide +kernel
theorem dX3_readLesson_41 : decode cX3_readLesson 41 = .ok (.iconst (-1), 1) := by decide +kernel
theorem dX3_readLesson_42 : decode cX3_readLesson 42 = .ok (.if_icmp .eq 12, 3) := by decide +kernel
theorem dX3_readLesson_45 : decode cX3_readLesson 45 = .ok (.aload_n 0, 1) := by decide +kernel
theorem dX3_readLesson_46 : decode cX3_readLesson 46 = .ok (.bipush 61, 2) := by decide +kernel
theorem dX3_readLesson_48 : decode cX3_readLesson 48 = .ok (.invokevirtual 36, 3) := by decide +kernel
theorem dX3_readLesson_51 : decode cX3_readLesson 51 = .ok (.ifCond .ne 5, 3) := by decide +kernel
theorem dX3_readLesson_54 : decode cX3_readLesson 54 = .ok (.iconst 0, 1) := by decide +kernel
theorem dX3_readLesson_55 : decode cX3_readLesson 55 = .ok (.ireturn, 1) := by decide +kernel
theorem dX3_readLesson_56 : decode cX3_readLesson 56 = .ok (.aload_n 0, 1) := by decide +kernel
theorem dX3_readLesson_57 : decode cX3_readLesson 57 = .ok (.bipush 63, 2) := by decide +kernel
theorem dX3_readLesson_59 : decode cX3_readLesson 59 = .ok (.invokevirtual 36, 3) := by decide +kernel
theorem dX3_readLesson_62 : decode cX3_readLesson 62 = .ok (.ifCond .eq 10, 3) := by decide +kernel
theorem dX3_readLesson_65 : decode cX3_readLesson 65 = .ok (.aload_n 0, 1) := by decide +kernel
theorem dX3_readLesson_66 : decode cX3_readLesson 66 = .ok (.iconst (-1), 1) := by decide +kernel
theorem dX3_readLesson_67 : decode cX3_readLesson 67 = .ok (.putfield 91, 3) := by decide +kernel
theorem dX3_readLesson_70 : decode cX3_readLesson 70 = .ok (.iconst 1, 1) := by decide +kernel
theorem dX3_readLesson_71 : decode cX3_readLesson 71 = .ok (.ireturn, 1) := by decide +kernel
theorem dX3_readLesson_72 : decode cX3_readLesson 72 = .ok (.aload_n 0, 1) := by decide +kernel
theorem dX3_readLesson_73 : decode cX3_readLesson 73 = .ok (.aload_n 0, 1) := by decide +kernel
theorem dX3_readLesson_74 : decode cX3_readLesson 74 = .ok (.invokevirtual 73, 3) := by decide +kernel
theorem dX3_readLesson_77 : decode cX3_readLesson 77 = .ok (.putfield 91, 3) := by decide +kernel
theorem dX3_readLesson_80 : decode cX3_readLesson 80 = .ok (.aload_n 0, 1) := by decide +kernel
theorem dX3_readLesson_81 : decode cX3_readLesson 81 = .ok (.getfield 91, 3) := by decide +kernel
theorem dX3_readLesson_84 : decode cX3_readLesson 84 = .ok (.iconst (-1), 1) := by decide +kernel
theorem dX3_readLesson_85 : decode cX3_readLesson 85 = .ok (.if_icmp .eq 7, 3) := by decide +kernel
theorem dX3_readLesson_88 : decode cX3_readLesson 88 = .ok (.iconst 1, 1) := by decide +kernel
theorem dX3_readLesson_89 : decode cX3_readLesson 89 = .ok (.goto 4, 3) := by decide +kernel
theorem dX3_readLesson_92 : decode cX3_readLesson 92 = .ok (.iconst 0, 1) := by decide +kernel
theorem dX3_readLesson_93 : decode cX3_readLesson 93 = .ok (.ireturn, 1) := by decide +kernel
set_option maxRecDepth 20000 in
theorem ggX3_readWord_X3_readDigit : GoodIn wsX3_readWord wsX3_readDigit := goodIn_r _ [5, 6, 7, 8, 9, 4, 10, 11, 12, 13, 14, 15, 16, 17, 18, 19, 20] (by decide +kernel) (by decide +kernel)
set_option maxRecDepth 20000 in
theorem gX3_readWord_X3_readDigit : GoodIn wsX3_readWord (wsV RX3 81 RX3 yX3_readDigit wsX3_readDigit) := goodIn_app (goodIn_of _ (by decide +kernel)) ggX3_readWord_X3_readDigit
theorem dX3_readWord_0 : decode cX3_readWord 0 = .ok (.aload_n 0, 1) := by decide +kernel
theorem dX3_readWord_1 : decode cX3_readWord 1 = .ok (.iconst 0, 1) := by decide +kernel
theorem dX3_readWord_2 : decode cX3_readWord 2 = .ok (.bipush 9, 2) := by decide +kernel
theorem dX3_readWord_4 : decode cX3_readWord 4 = .ok (.invokevirtual 81, 3) := by decide +kernel
theorem dX3_readWord_7 : decode cX3_readWord 7 = .ok (.istore_n 1, 1) := by decide +kernel
theorem dX3_readWord_8 : decode cX3_readWord 8 = .ok (.iload_n 1, 1) := by decide +kernel
theorem dX3_readWord_9 : decode cX3_readWord 9 = .ok (.iconst 1, 1) := by decide +kernel
theorem dX3_readWord_10 : decode cX3_readWord 10 = .ok (.if_icmp .eq 10, 3) := by decide +kernel
theorem dX3_readWord_13 : decode cX3_readWord 13 = .ok (.iload_n 1, 1) := by decide +kernel
theorem dX3_readWord_14 : decode cX3_readWord 14 = .ok (.iconst 2, 1) := by decide +kernel
theorem dX3_readWord_15 : decode cX3_readWord 15 = .ok (.if_icmp .eq 5, 3) := by decide +kernel
theorem dX3_readWord_18 : decode cX3_readWord 18 = .ok (.iload_n 1, 1) := by decide +kernel
theorem dX3_readWord_19 : decode cX3_readWord 19 = .ok (.ireturn, 1) := by decide +kernel
theorem dX3_readWord_20 : decode cX3_readWord 20 = .ok (.aload_n 0, 1) := by decide +kernel
theorem dX3_readWord_21 : decode cX3_readWord 21 = .ok (.iconst 0, 1) := by decide +kernel
theorem dX3_readWord_22 : decode cX3_readWord 22 = .ok (.bipush 9, 2) := by decide +kernel
theorem dX3_readWord_24 : decode cX3_readWord 24 = .ok (.invokevirtual 81, 3) := by decide +kernel
theorem dX3_readWord_27 : decode cX3_readWord 27 = .ok (.istore_n 2, 1) := by decide +kernel
theorem dX3_readWord_28 : decode cX3_readWord 28 = .ok (.iload_n 2, 1) := by decide +kernel
theorem dX3_readWord_29 : decode cX3_readWord 29 = .ok (.iconst (-1), 1) := by decide +kernel
theorem dX3_readWord_30 : decode cX3_readWord 30 = .ok (.if_icmp .ne 7, 3) := by decide +kernel
theorem dX3_readWord_33 : decode cX3_readWord 33 = .ok (.iload_n 1, 1) := by decide +kernel
theorem dX3_readWord_34 : decode cX3_readWord 34 = .ok (.goto 9, 3) := by decide +kernel
theorem dX3_readWord_37 : decode cX3_readWord 37 = .ok (.bipush 10, 2) := by decide +kernel
theorem dX3_readWord_39 : decode cX3_readWord 39 = .ok (.iload_n 1, 1) := by decide +kernel
theorem dX3_readWord_40 : decode cX3_readWord 40 = .ok (.imul, 1) := by decide +kernel
theorem dX3_readWord_41 : decode cX3_readWord 41 = .ok (.iload_n 2, 1) := by decide +kernel
theorem dX3_readWord_42 : decode cX3_readWord 42 = .ok (.iadd, 1) := by decide +kernel
theorem dX3_readWord_43 : decode cX3_readWord 43 = .ok (.ireturn, 1) := by decide +kernel
set_option maxRecDepth 20000 in
theorem ggX3_readDigit_X3_codeAt : GoodIn wsX3_readDigit wsX3_codeAt := goodIn_r _ [6, 7, 8, 9, 10, 11, 12, 13, 14, 15, 16] (by decide +kernel) (by decide +kernel)
set_option maxRecDepth 20000 in
theorem gX3_readDigit_X3_codeAt : GoodIn wsX3_readDigit (wsV RX3 40 RX3 yX3_codeAt wsX3_codeAt) := goodIn_app (goodIn_of _ (by decide +kernel)) ggX3_readDigit_X3_codeAt
theorem dX3_readDigit_0 : decode cX3_readDigit 0 = .ok (.aload_n 0, 1) := by decide +kernel
theorem dX3_readDigit_1 : decode cX3_readDigit 1 = .ok (.aload_n 0, 1) := by decide +kernel
theorem dX3_readDigit_2 : decode cX3_readDigit 2 = .ok (.getfield 33, 3) := by decide +kernel
theorem dX3_readDigit_5 : decode cX3_readDigit 5 = .ok (.invokevirtual 40, 3) := by decide +kernel
theorem dX3_readDigit_8 : decode cX3_readDigit 8 = .ok (.bipush 48, 2) := by decide +kernel
theorem dX3_readDigit_10 : decode cX3_readDigit 10 = .ok (.isub, 1) := by decide +kernel
theorem dX3_readDigit_11 : decode cX3_readDigit 11 = .ok (.istore_n 3, 1) := by decide +kernel
theorem dX3_readDigit_12 : decode cX3_readDigit 12 = .ok (.iload_n 3, 1) := by decide +kernel
theorem dX3_readDigit_13 : decode cX3_readDigit 13 = .ok (.iload_n 1, 1) := by decide +kernel
theorem dX3_readDigit_14 : decode cX3_readDigit 14 = .ok (.if_icmp .lt 8, 3) := by decide +kernel
theorem dX3_readDigit_17 : decode cX3_readDigit 17 = .ok (.iload_n 3, 1) := by decide +kernel
theorem dX3_readDigit_18 : decode cX3_readDigit 18 = .ok (.iload_n 2, 1) := by decide +kernel
theorem dX3_readDigit_19 : decode cX3_readDigit 19 = .ok (.if_icmp .le 5, 3) := by decide +kernel
theorem dX3_readDigit_22 : decode cX3_readDigit 22 = .ok (.iconst (-1), 1) := by decide +kernel
theorem dX3_readDigit_23 : decode cX3_readDigit 23 = .ok (.ireturn, 1) := by decide +kernel
theorem dX3_readDigit_24 : decode cX3_readDigit 24 = .ok (.aload_n 0, 1) := by decide +kernel
theorem dX3_readDigit_25 : decode cX3_readDigit 25 = .ok (.dup, 1) := by decide +kernel
theorem dX3_readDigit_26 : decode cX3_readDigit 26 = .ok (.getfield 33, 3) := by decide +kernel
theorem dX3_readDigit_29 : decode cX3_readDigit 29 = .ok (.iconst 1, 1) := by decide +kernel
theorem dX3_readDigit_30 : decode cX3_readDigit 30 = .ok (.iadd, 1) := by decide +kernel
theorem dX3_readDigit_31 : decode cX3_readDigit 31 = .ok (.putfield 33, 3) := by decide +kernel
theorem dX3_readDigit_34 : decode cX3_readDigit 34 = .ok (.iload_n 3, 1) := by decide +kernel
theorem dX3_readDigit_35 : decode cX3_readDigit 35 = .ok (.ireturn, 1) := by decide +kernel
set_option maxRecDepth 20000 in
theorem ggX3_takeAll_J0_length_8abf5 : GoodIn wsX3_takeAll wsJ0_length_8abf5 := goodIn_r _ [5, 6, 7, 8, 9, 4, 10, 11, 12] (by decide +kernel) (by decide +kernel)
set_option maxRecDepth 20000 in
theorem gX3_takeAll_J0_length_8abf5 : GoodIn wsX3_takeAll (wsV RX3 97 RJ0 yJ0_length_8abf5 wsJ0_length_8abf5) := goodIn_app (goodIn_of _ (by decide +kernel)) ggX3_takeAll_J0_length_8abf5
set_option maxRecDepth 20000 in
theorem ggX3_takeAll_J0_charAt_5068e : GoodIn wsX3_takeAll wsJ0_charAt_5068e := goodIn_r _ [16, 6, 17, 18, 19, 4, 20, 11, 12, 21, 22, 23, 24, 25, 26, 27, 28, 29, 30, 31, 32, 33, 34, 35, 36, 37, 38, 39, 40, 41, 42, 43, 44, 45, 46, 47, 48, 49] (by decide +kernel) (by decide +kernel)
set_option maxRecDepth 20000 in
theorem gX3_takeAll_J0_charAt_5068e : GoodIn wsX3_takeAll (wsV RX3 101 RJ0 yJ0_charAt_5068e wsJ0_charAt_5068e) := goodIn_app (goodIn_of _ (by decide +kernel)) ggX3_takeAll_J0_charAt_5068e
set_option maxRecDepth 20000 in
theorem ggX3_takeAll_X3_take : GoodIn wsX3_takeAll wsX3_take := goodIn_r _ [54, 55, 56, 57, 58, 53, 59, 60, 61, 62, 63, 64, 65, 66, 67, 68, 69] (by decide +kernel) (by decide +kernel)
set_option maxRecDepth 20000 in
theorem gX3_takeAll_X3_take : GoodIn wsX3_takeAll (wsV RX3 36 RX3 yX3_take wsX3_take) := goodIn_app (goodIn_of _ (by decide +kernel)) ggX3_takeAll_X3_take
theorem dX3_takeAll_0 : decode cX3_takeAll 0 = .ok (.iconst 0, 1) := by decide +kernel
theorem dX3_takeAll_1 : decode cX3_takeAll 1 = .ok (.istore_n 2, 1) := by decide +kernel
theorem dX3_takeAll_2 : decode cX3_takeAll 2 = .ok (.iload_n 2, 1) := by decide +kernel
theorem dX3_takeAll_3 : decode cX3_takeAll 3 = .ok (.aload_n 1, 1) := by decide +kernel
theorem dX3_takeAll_4 : decode cX3_takeAll 4 = .ok (.invokevirtual 97, 3) := by decide +kernel
theorem dX3_takeAll_7 : decode cX3_takeAll 7 = .ok (.if_icmp .ge 23, 3) := by decide +kernel
theorem dX3_takeAll_10 : decode cX3_takeAll 10 = .ok (.aload_n 0, 1) := by decide +kernel
theorem dX3_takeAll_11 : decode cX3_takeAll 11 = .ok (.aload_n 1, 1) := by decide +kernel
theorem dX3_takeAll_12 : decode cX3_takeAll 12 = .ok (.iload_n 2, 1) := by decide +kernel
theorem dX3_takeAll_13 : decode cX3_takeAll 13 = .ok (.invokevirtual 101, 3) := by decide +kernel
theorem dX3_takeAll_16 : decode cX3_takeAll 16 = .ok (.invokevirtual 36, 3) := by decide +kernel
theorem dX3_takeAll_19 : decode cX3_takeAll 19 = .ok (.ifCond .ne 5, 3) := by decide +kernel
theorem dX3_takeAll_22 : decode cX3_takeAll 22 = .ok (.iconst 0, 1) := by decide +kernel
theorem dX3_takeAll_23 : decode cX3_takeAll 23 = .ok (.ireturn, 1) := by decide +kernel
theorem dX3_takeAll_24 : decode cX3_takeAll 24 = .ok (.iinc 2 1, 3) := by decide +kernel
theorem dX3_takeAll_27 : decode cX3_takeAll 27 = .ok (.goto (-25), 3) := by decide +kernel
theorem dX3_takeAll_30 : decode cX3_takeAll 30 = .ok (.iconst 1, 1) := by decide +kernel
theorem dX3_takeAll_31 : decode cX3_takeAll 31 = .ok (.ireturn, 1) := by decide +kernel
set_option maxRecDepth 20000 in
theorem ggX3_take_X3_codeAt : GoodIn wsX3_take wsX3_codeAt := goodIn_r _ [6, 7, 8, 9, 10, 11, 12, 13, 14, 15, 16] (by decide +kernel) (by decide +kernel)
set_option maxRecDepth 20000 in
theorem gX3_take_X3_codeAt : GoodIn wsX3_take (wsV RX3 40 RX3 yX3_codeAt wsX3_codeAt) := goodIn_app (goodIn_of _ (by decide +kernel)) ggX3_take_X3_codeAt
theorem dX3_take_0 : decode cX3_take 0 = .ok (.aload_n 0, 1) := by decide +kernel
theorem dX3_take_1 : decode cX3_take 1 = .ok (.aload_n 0, 1) := by decide +kernel
theorem dX3_take_2 : decode cX3_take 2 = .ok (.getfield 33, 3) := by decide +kernel
theorem dX3_take_5 : decode cX3_take 5 = .ok (.invokevirtual 40, 3) := by decide +kernel
theorem dX3_take_8 : decode cX3_take 8 = .ok (.iload_n 1, 1) := by decide +kernel
theorem dX3_take_9 : decode cX3_take 9 = .ok (.if_icmp .eq 5, 3) := by decide +kernel
theorem dX3_take_12 : decode cX3_take 12 = .ok (.iconst 0, 1) := by decide +kernel
theorem dX3_take_13 : decode cX3_take 13 = .ok (.ireturn, 1) := by decide +kernel
theorem dX3_take_14 : decode cX3_take 14 = .ok (.aload_n 0, 1) := by decide +kernel
theorem dX3_take_15 : decode cX3_take 15 = .ok (.dup, 1) := by decide +kernel
theorem dX3_take_16 : decode cX3_take 16 = .ok (.getfield 33, 3) := by decide +kernel
theorem dX3_take_19 : decode cX3_take 19 = .ok (.iconst 1, 1) := by decide +kernel
theorem dX3_take_20 : decode cX3_take 20 = .ok (.iadd, 1) := by decide +kernel
theorem dX3_take_21 : decode cX3_take 21 = .ok (.putfield 33, 3) := by decide +kernel
theorem dX3_take_24 : decode cX3_take 24 = .ok (.iconst 1, 1) := by decide +kernel
theorem dX3_take_25 : decode cX3_take 25 = .ok (.ireturn, 1) := by decide +kernel
theorem dX4_init_0 : decode cX4_init 0 = .ok (.aload_n 0, 1) := by decide +kernel
theorem dX4_init_1 : decode cX4_init 1 = .ok (.invokespecial 3, 3) := by decide +kernel
theorem dX4_init_4 : decode cX4_init 4 = .ok (.aload_n 0, 1) := by decide +kernel
theorem dX4_init_5 : decode cX4_init 5 = .ok (.bipush 12, 2) := by decide +kernel
theorem dX4_init_7 : decode cX4_init 7 = .ok (.newarray .int, 2) := by decide +kernel
theorem dX4_init_9 : decode cX4_init 9 = .ok (.putfield 9, 3) := by decide +kernel
theorem dX4_init_12 : decode cX4_init 12 = .ok (.aload_n 0, 1) := by decide +kernel
theorem dX4_init_13 : decode cX4_init 13 = .ok (.iconst 1, 1) := by decide +kernel
theorem dX4_init_14 : decode cX4_init 14 = .ok (.putfield 15, 3) := by decide +kernel
theorem dX4_init_17 : decode cX4_init 17 = .ok (.return_, 1) := by decide +kernel
theorem dX4_begin_0 : decode cX4_begin 0 = .ok (.aload_n 0, 1) := by decide +kernel
theorem dX4_begin_1 : decode cX4_begin 1 = .ok (.iconst 0, 1) := by decide +kernel
theorem dX4_begin_2 : decode cX4_begin 2 = .ok (.putfield 19, 3) := by decide +kernel
theorem dX4_begin_5 : decode cX4_begin 5 = .ok (.aload_n 0, 1) := by decide +kernel
theorem dX4_begin_6 : decode cX4_begin 6 = .ok (.iconst 1, 1) := by decide +kernel
theorem dX4_begin_7 : decode cX4_begin 7 = .ok (.putfield 15, 3) := by decide +kernel
theorem dX4_begin_10 : decode cX4_begin 10 = .ok (.return_, 1) := by decide +kernel
theorem dX4_addWord_0 : decode cX4_addWord 0 = .ok (.aload_n 0, 1) := by decide +kernel
theorem dX4_addWord_1 : decode cX4_addWord 1 = .ok (.getfield 19, 3) := by decide +kernel
theorem dX4_addWord_4 : decode cX4_addWord 4 = .ok (.ifCond .lt 32, 3) := by decide +kernel
theorem dX4_addWord_7 : decode cX4_addWord 7 = .ok (.aload_n 0, 1) := by decide +kernel
theorem dX4_addWord_8 : decode cX4_addWord 8 = .ok (.getfield 19, 3) := by decide +kernel
theorem dX4_addWord_11 : decode cX4_addWord 11 = .ok (.bipush 12, 2) := by decide +kernel
theorem dX4_addWord_13 : decode cX4_addWord 13 = .ok (.if_icmp .ge 23, 3) := by decide +kernel
theorem dX4_addWord_16 : decode cX4_addWord 16 = .ok (.aload_n 0, 1) := by decide +kernel
theorem dX4_addWord_17 : decode cX4_addWord 17 = .ok (.getfield 9, 3) := by decide +kernel
theorem dX4_addWord_20 : decode cX4_addWord 20 = .ok (.aload_n 0, 1) := by decide +kernel
theorem dX4_addWord_21 : decode cX4_addWord 21 = .ok (.getfield 19, 3) := by decide +kernel
theorem dX4_addWord_24 : decode cX4_addWord 24 = .ok (.iload_n 1, 1) := by decide +kernel
theorem dX4_addWord_25 : decode cX4_addWord 25 = .ok (.iastore, 1) := by decide +kernel
theorem dX4_addWord_26 : decode cX4_addWord 26 = .ok (.aload_n 0, 1) := by decide +kernel
theorem dX4_addWord_27 : decode cX4_addWord 27 = .ok (.dup, 1) := by decide +kernel
theorem dX4_addWord_28 : decode cX4_addWord 28 = .ok (.getfield 19, 3) := by decide +kernel
theorem dX4_addWord_31 : decode cX4_addWord 31 = .ok (.iconst 1, 1) := by decide +kernel
theorem dX4_addWord_32 : decode cX4_addWord 32 = .ok (.iadd, 1) := by decide +kernel
theorem dX4_addWord_33 : decode cX4_addWord 33 = .ok (.putfield 19, 3) := by decide +kernel
theorem dX4_addWord_36 : decode cX4_addWord 36 = .ok (.return_, 1) := by decide +kernel
theorem dX4_hasWord_0 : decode cX4_hasWord 0 = .ok (.iconst 0, 1) := by decide +kernel
theorem dX4_hasWord_1 : decode cX4_hasWord 1 = .ok (.istore_n 2, 1) := by decide +kernel
theorem dX4_hasWord_2 : decode cX4_hasWord 2 = .ok (.iload_n 2, 1) := by decide +kernel
theorem dX4_hasWord_3 : decode cX4_hasWord 3 = .ok (.aload_n 0, 1) := by decide +kernel
theorem dX4_hasWord_4 : decode cX4_hasWord 4 = .ok (.getfield 19, 3) := by decide +kernel
theorem dX4_hasWord_7 : decode cX4_hasWord 7 = .ok (.if_icmp .ge 21, 3) := by decide +kernel
theorem dX4_hasWord_10 : decode cX4_hasWord 10 = .ok (.aload_n 0, 1) := by decide +kernel
theorem dX4_hasWord_11 : decode cX4_hasWord 11 = .ok (.getfield 9, 3) := by decide +kernel
theorem dX4_hasWord_14 : decode cX4_hasWord 14 = .ok (.iload_n 2, 1) := by decide +kernel
theorem dX4_hasWord_15 : decode cX4_hasWord 15 = .ok (.iaload, 1) := by decide +kernel
theorem dX4_hasWord_16 : decode cX4_hasWord 16 = .ok (.iload_n 1, 1) := by decide +kernel
theorem dX4_hasWord_17 : decode cX4_hasWord 17 = .ok (.if_icmp .ne 5, 3) := by decide +kernel
theorem dX4_hasWord_20 : decode cX4_hasWord 20 = .ok (.iconst 1, 1) := by decide +kernel
theorem dX4_hasWord_21 : decode cX4_hasWord 21 = .ok (.ireturn, 1) := by decide +kernel
theorem dX4_hasWord_22 : decode cX4_hasWord 22 = .ok (.iinc 2 1, 3) := by decide +kernel
theorem dX4_hasWord_25 : decode cX4_hasWord 25 = .ok (.goto (-23), 3) := by decide +kernel
theorem dX4_hasWord_28 : decode cX4_hasWord 28 = .ok (.iconst 0, 1) := by decide +kernel
theorem dX4_hasWord_29 : decode cX4_hasWord 29 = .ok (.ireturn, 1) := by decide +kernel
set_option maxRecDepth 20000 in
theorem ggX5_init_X2_init : GoodIn wsX5_init wsX2_init := goodIn_r _ [22, 23, 2, 3, 16, 24, 25, 26, 27, 28, 29, 41, 42, 43, 44, 45, 46] (by decide +kernel) (by decide +kernel)
set_option maxRecDepth 20000 in
theorem gX5_init_X2_init : GoodIn wsX5_init (wsX2_init) := ggX5_init_X2_init
set_option maxRecDepth 20000 in
theorem ggX5_init_X7_init : GoodIn wsX5_init wsX7_init := goodIn_r _ [31, 32, 2, 3, 16, 33, 34, 35, 54, 55, 56, 57] (by decide +kernel) (by decide +kernel)
set_option maxRecDepth 20000 in
theorem gX5_init_X7_init_n20 : GoodIn wsX5_init (wsX7_init) := ggX5_init_X7_init
set_option maxRecDepth 20000 in
theorem ggX5_init_X0_init : GoodIn wsX5_init wsX0_init := goodIn_r _ [37, 38, 2, 3, 16, 39, 40, 58, 59, 60] (by decide +kernel) (by decide +kernel)
set_option maxRecDepth 20000 in
theorem gX5_init_X0_init_n27 : GoodIn wsX5_init (wsX0_init) := ggX5_init_X0_init
theorem dX5_init_0 : decode cX5_init 0 = .ok (.aload_n 0, 1) := by decide +kernel
theorem dX5_init_1 : decode cX5_init 1 = .ok (.invokespecial 3, 3) := by decide +kernel
theorem dX5_init_4 : decode cX5_init 4 = .ok (.aload_n 0, 1) := by decide +kernel
theorem dX5_init_5 : decode cX5_init 5 = .ok (.new 9, 3) := by decide +kernel
theorem dX5_init_8 : decode cX5_init 8 = .ok (.dup, 1) := by decide +kernel
theorem dX5_init_9 : decode cX5_init 9 = .ok (.invokespecial 11, 3) := by decide +kernel
theorem dX5_init_12 : decode cX5_init 12 = .ok (.putfield 12, 3) := by decide +kernel
theorem dX5_init_15 : decode cX5_init 15 = .ok (.aload_n 0, 1) := by decide +kernel
theorem dX5_init_16 : decode cX5_init 16 = .ok (.new 18, 3) := by decide +kernel
theorem dX5_init_19 : decode cX5_init 19 = .ok (.dup, 1) := by decide +kernel
theorem dX5_init_20 : decode cX5_init 20 = .ok (.invokespecial 20, 3) := by decide +kernel
theorem dX5_init_23 : decode cX5_init 23 = .ok (.putfield 21, 3) := by decide +kernel
theorem dX5_init_26 : decode cX5_init 26 = .ok (.aload_n 0, 1) := by decide +kernel
theorem dX5_init_27 : decode cX5_init 27 = .ok (.new 25, 3) := by decide +kernel
theorem dX5_init_30 : decode cX5_init 30 = .ok (.dup, 1) := by decide +kernel
theorem dX5_init_31 : decode cX5_init 31 = .ok (.invokespecial 27, 3) := by decide +kernel
theorem dX5_init_34 : decode cX5_init 34 = .ok (.putfield 28, 3) := by decide +kernel
theorem dX5_init_37 : decode cX5_init 37 = .ok (.aload_n 0, 1) := by decide +kernel
theorem dX5_init_38 : decode cX5_init 38 = .ok (.bipush 30, 2) := by decide +kernel
theorem dX5_init_40 : decode cX5_init 40 = .ok (.newarray .int, 2) := by decide +kernel
theorem dX5_init_42 : decode cX5_init 42 = .ok (.putfield 32, 3) := by decide +kernel
theorem dX5_init_45 : decode cX5_init 45 = .ok (.aload_n 0, 1) := by decide +kernel
theorem dX5_init_46 : decode cX5_init 46 = .ok (.iconst (-1), 1) := by decide +kernel
theorem dX5_init_47 : decode cX5_init 47 = .ok (.putfield 36, 3) := by decide +kernel
theorem dX5_init_50 : decode cX5_init 50 = .ok (.aload_n 0, 1) := by decide +kernel
theorem dX5_init_51 : decode cX5_init 51 = .ok (.iconst (-1), 1) := by decide +kernel
theorem dX5_init_52 : decode cX5_init 52 = .ok (.putfield 40, 3) := by decide +kernel
theorem dX5_init_55 : decode cX5_init 55 = .ok (.return_, 1) := by decide +kernel
set_option maxRecDepth 20000 in
theorem ggX5_copyFrom_X2_copyFrom : GoodIn wsX5_copyFrom wsX2_copyFrom := goodIn_r _ [16, 17, 18, 6, 7, 8, 19, 20, 21, 22, 23, 50, 51, 52, 53, 54, 55] (by decide +kernel) (by decide +kernel)
set_option maxRecDepth 20000 in
theorem gX5_copyFrom_X2_copyFrom : GoodIn wsX5_copyFrom (wsV RX5 43 RX2 yX2_copyFrom wsX2_copyFrom) := goodIn_app (goodIn_of _ (by decide +kernel)) ggX5_copyFrom_X2_copyFrom
set_option maxRecDepth 20000 in
theorem ggX5_copyFrom_X7_copyFrom : GoodIn wsX5_copyFrom wsX7_copyFrom := goodIn_r _ [28, 29, 30, 6, 7, 8, 31, 32, 33, 56, 57, 58, 59] (by decide +kernel) (by decide +kernel)
set_option maxRecDepth 20000 in
theorem gX5_copyFrom_X7_copyFrom : GoodIn wsX5_copyFrom (wsV RX5 47 RX7 yX7_copyFrom wsX7_copyFrom) := goodIn_app (goodIn_of _ (by decide +kernel)) ggX5_copyFrom_X7_copyFrom
set_option maxRecDepth 20000 in
theorem ggX5_copyFrom_X0_copyFrom : GoodIn wsX5_copyFrom wsX0_copyFrom := goodIn_r _ [38, 39, 40, 6, 7, 8, 41, 42, 60, 61, 62] (by decide +kernel) (by decide +kernel)
set_option maxRecDepth 20000 in
theorem gX5_copyFrom_X0_copyFrom : GoodIn wsX5_copyFrom (wsV RX5 50 RX0 yX0_copyFrom wsX0_copyFrom) := goodIn_app (goodIn_of _ (by decide +kernel)) ggX5_copyFrom_X0_copyFrom
theorem dX5_copyFrom_0 : decode cX5_copyFrom 0 = .ok (.aload_n 0, 1) := by decide +kernel
theorem dX5_copyFrom_1 : decode cX5_copyFrom 1 = .ok (.getfield 12, 3) := by decide +kernel
theorem dX5_copyFrom_4 : decode cX5_copyFrom 4 = .ok (.aload_n 1, 1) := by decide +kernel
theorem dX5_copyFrom_5 : decode cX5_copyFrom 5 = .ok (.getfield 12, 3) := by decide +kernel
theorem dX5_copyFrom_8 : decode cX5_copyFrom 8 = .ok (.invokevirtual 43, 3) := by decide +kernel
theorem dX5_copyFrom_11 : decode cX5_copyFrom 11 = .ok (.aload_n 0, 1) := by decide +kernel
theorem dX5_copyFrom_12 : decode cX5_copyFrom 12 = .ok (.getfield 21, 3) := by decide +kernel
theorem dX5_copyFrom_15 : decode cX5_copyFrom 15 = .ok (.aload_n 1, 1) := by decide +kernel
theorem dX5_copyFrom_16 : decode cX5_copyFrom 16 = .ok (.getfield 21, 3) := by decide +kernel
theorem dX5_copyFrom_19 : decode cX5_copyFrom 19 = .ok (.invokevirtual 47, 3) := by decide +kernel
theorem dX5_copyFrom_22 : decode cX5_copyFrom 22 = .ok (.aload_n 0, 1) := by decide +kernel
theorem dX5_copyFrom_23 : decode cX5_copyFrom 23 = .ok (.getfield 28, 3) := by decide +kernel
theorem dX5_copyFrom_26 : decode cX5_copyFrom 26 = .ok (.aload_n 1, 1) := by decide +kernel
theorem dX5_copyFrom_27 : decode cX5_copyFrom 27 = .ok (.getfield 28, 3) := by decide +kernel
theorem dX5_copyFrom_30 : decode cX5_copyFrom 30 = .ok (.invokevirtual 50, 3) := by decide +kernel
theorem dX5_copyFrom_33 : decode cX5_copyFrom 33 = .ok (.aload_n 1, 1) := by decide +kernel
theorem dX5_copyFrom_34 : decode cX5_copyFrom 34 = .ok (.getfield 32, 3) := by decide +kernel
theorem dX5_copyFrom_37 : decode cX5_copyFrom 37 = .ok (.iconst 0, 1) := by decide +kernel
theorem dX5_copyFrom_38 : decode cX5_copyFrom 38 = .ok (.aload_n 0, 1) := by decide +kernel
theorem dX5_copyFrom_39 : decode cX5_copyFrom 39 = .ok (.getfield 32, 3) := by decide +kernel
theorem dX5_copyFrom_42 : decode cX5_copyFrom 42 = .ok (.iconst 0, 1) := by decide +kernel
theorem dX5_copyFrom_43 : decode cX5_copyFrom 43 = .ok (.bipush 30, 2) := by decide +kernel
theorem dX5_copyFrom_45 : decode cX5_copyFrom 45 = .ok (.invokestatic 53, 3) := by decide +kernel
theorem dX5_copyFrom_48 : decode cX5_copyFrom 48 = .ok (.aload_n 0, 1) := by decide +kernel
theorem dX5_copyFrom_49 : decode cX5_copyFrom 49 = .ok (.aload_n 1, 1) := by decide +kernel
theorem dX5_copyFrom_50 : decode cX5_copyFrom 50 = .ok (.getfield 59, 3) := by decide +kernel
theorem dX5_copyFrom_53 : decode cX5_copyFrom 53 = .ok (.putfield 59, 3) := by decide +kernel
theorem dX5_copyFrom_56 : decode cX5_copyFrom 56 = .ok (.aload_n 0, 1) := by decide +kernel
theorem dX5_copyFrom_57 : decode cX5_copyFrom 57 = .ok (.aload_n 1, 1) := by decide +kernel
theorem dX5_copyFrom_58 : decode cX5_copyFrom 58 = .ok (.getfield 36, 3) := by decide +kernel
theorem dX5_copyFrom_61 : decode cX5_copyFrom 61 = .ok (.putfield 36, 3) := by decide +kernel
theorem dX5_copyFrom_64 : decode cX5_copyFrom 64 = .ok (.aload_n 0, 1) := by decide +kernel
theorem dX5_copyFrom_65 : decode cX5_copyFrom 65 = .ok (.aload_n 1, 1) := by decide +kernel
theorem dX5_copyFrom_66 : decode cX5_copyFrom 66 = .ok (.getfield 40, 3) := by decide +kernel
theorem dX5_copyFrom_69 : decode cX5_copyFrom 69 = .ok (.putfield 40, 3) := by decide +kernel
theorem dX5_copyFrom_72 : decode cX5_copyFrom 72 = .ok (.return_, 1) := by decide +kernel
set_option maxRecDepth 20000 in
theorem ggX5_countLostWords_X4_hasWord : GoodIn wsX5_countLostWords wsX4_hasWord := goodIn_r _ [7, 8, 9, 39, 40, 41] (by decide +kernel) (by decide +kernel)
set_option maxRecDepth 20000 in
theorem gX5_countLostWords_X4_hasWord : GoodIn wsX5_countLostWords (wsV RX5 62 RX4 yX4_hasWord wsX4_hasWord) := goodIn_app (goodIn_of _ (by decide +kernel)) ggX5_countLostWords_X4_hasWord
set_option maxRecDepth 20000 in
theorem ggX5_countLostWords_X2_lossOfWord : GoodIn wsX5_countLostWords wsX2_lossOfWord := goodIn_r _ [14, 15, 16, 17, 13, 18, 19, 20, 21, 22, 23, 24, 25, 26, 27, 28, 29, 30, 31, 42, 43, 44, 45, 46, 47] (by decide +kernel) (by decide +kernel)
set_option maxRecDepth 20000 in
theorem gX5_countLostWords_X2_lossOfWord : GoodIn wsX5_countLostWords (wsV RX5 68 RX2 yX2_lossOfWord wsX2_lossOfWord) := goodIn_app (goodIn_of _ (by decide +kernel)) ggX5_countLostWords_X2_lossOfWord
theorem dX5_countLostWords_0 : decode cX5_countLostWords 0 = .ok (.iconst 0, 1) := by decide +kernel
theorem dX5_countLostWords_1 : decode cX5_countLostWords 1 = .ok (.istore_n 2, 1) := by decide +kernel
theorem dX5_countLostWords_2 : decode cX5_countLostWords 2 = .ok (.iload_n 2, 1) := by decide +kernel
theorem dX5_countLostWords_3 : decode cX5_countLostWords 3 = .ok (.bipush 30, 2) := by decide +kernel
theorem dX5_countLostWords_5 : decode cX5_countLostWords 5 = .ok (.if_icmp .ge 39, 3) := by decide +kernel
theorem dX5_countLostWords_8 : decode cX5_countLostWords 8 = .ok (.aload_n 1, 1) := by decide +kernel
theorem dX5_countLostWords_9 : decode cX5_countLostWords 9 = .ok (.iload_n 2, 1) := by decide +kernel
theorem dX5_countLostWords_10 : decode cX5_countLostWords 10 = .ok (.invokevirtual 62, 3) := by decide +kernel
theorem dX5_countLostWords_13 : decode cX5_countLostWords 13 = .ok (.ifCond .eq 25, 3) := by decide +kernel
theorem dX5_countLostWords_16 : decode cX5_countLostWords 16 = .ok (.aload_n 0, 1) := by decide +kernel
theorem dX5_countLostWords_17 : decode cX5_countLostWords 17 = .ok (.getfield 12, 3) := by decide +kernel
theorem dX5_countLostWords_20 : decode cX5_countLostWords 20 = .ok (.iload_n 2, 1) := by decide +kernel
theorem dX5_countLostWords_21 : decode cX5_countLostWords 21 = .ok (.invokevirtual 68, 3) := by decide +kernel
theorem dX5_countLostWords_24 : decode cX5_countLostWords 24 = .ok (.iconst (-1), 1) := by decide +kernel
theorem dX5_countLostWords_25 : decode cX5_countLostWords 25 = .ok (.if_icmp .eq 13, 3) := by decide +kernel
theorem dX5_countLostWords_28 : decode cX5_countLostWords 28 = .ok (.aload_n 0, 1) := by decide +kernel
theorem dX5_countLostWords_29 : decode cX5_countLostWords 29 = .ok (.getfield 32, 3) := by decide +kernel
theorem dX5_countLostWords_32 : decode cX5_countLostWords 32 = .ok (.iload_n 2, 1) := by decide +kernel
theorem dX5_countLostWords_33 : decode cX5_countLostWords 33 = .ok (.dup2, 1) := by decide +kernel
theorem dX5_countLostWords_34 : decode cX5_countLostWords 34 = .ok (.iaload, 1) := by decide +kernel
theorem dX5_countLostWords_35 : decode cX5_countLostWords 35 = .ok (.iconst 1, 1) := by decide +kernel
theorem dX5_countLostWords_36 : decode cX5_countLostWords 36 = .ok (.iadd, 1) := by decide +kernel
theorem dX5_countLostWords_37 : decode cX5_countLostWords 37 = .ok (.iastore, 1) := by decide +kernel
theorem dX5_countLostWords_38 : decode cX5_countLostWords 38 = .ok (.iinc 2 1, 3) := by decide +kernel
theorem dX5_countLostWords_41 : decode cX5_countLostWords 41 = .ok (.goto (-39), 3) := by decide +kernel
theorem dX5_countLostWords_44 : decode cX5_countLostWords 44 = .ok (.return_, 1) := by decide +kernel
set_option maxRecDepth 20000 in
theorem ggX5_wordLostAs_X5_wordsLostBefore : GoodIn wsX5_wordLostAs wsX5_wordsLostBefore := goodIn_r _ [5, 6, 7, 8, 9, 10, 11, 12, 13] (by decide +kernel) (by decide +kernel)
set_option maxRecDepth 20000 in
theorem gX5_wordLostAs_X5_wordsLostBefore : GoodIn wsX5_wordLostAs (wsV RX5 72 RX5 yX5_wordsLostBefore wsX5_wordsLostBefore) := goodIn_app (goodIn_of _ (by decide +kernel)) ggX5_wordLostAs_X5_wordsLostBefore
theorem dX5_wordLostAs_0 : decode cX5_wordLostAs 0 = .ok (.iconst 0, 1) := by decide +kernel
theorem dX5_wordLostAs_1 : decode cX5_wordLostAs 1 = .ok (.istore_n 2, 1) := by decide +kernel
theorem dX5_wordLostAs_2 : decode cX5_wordLostAs 2 = .ok (.iload_n 2, 1) := by decide +kernel
theorem dX5_wordLostAs_3 : decode cX5_wordLostAs 3 = .ok (.bipush 29, 2) := by decide +kernel
theorem dX5_wordLostAs_5 : decode cX5_wordLostAs 5 = .ok (.if_icmp .ge 20, 3) := by decide +kernel
theorem dX5_wordLostAs_8 : decode cX5_wordLostAs 8 = .ok (.aload_n 0, 1) := by decide +kernel
theorem dX5_wordLostAs_9 : decode cX5_wordLostAs 9 = .ok (.iload_n 2, 1) := by decide +kernel
theorem dX5_wordLostAs_10 : decode cX5_wordLostAs 10 = .ok (.invokevirtual 72, 3) := by decide +kernel
theorem dX5_wordLostAs_13 : decode cX5_wordLostAs 13 = .ok (.iload_n 1, 1) := by decide +kernel
theorem dX5_wordLostAs_14 : decode cX5_wordLostAs 14 = .ok (.if_icmp .ne 5, 3) := by decide +kernel
theorem dX5_wordLostAs_17 : decode cX5_wordLostAs 17 = .ok (.iload_n 2, 1) := by decide +kernel
theorem dX5_wordLostAs_18 : decode cX5_wordLostAs 18 = .ok (.ireturn, 1) := by decide +kernel
theorem dX5_wordLostAs_19 : decode cX5_wordLostAs 19 = .ok (.iinc 2 1, 3) := by decide +kernel
theorem dX5_wordLostAs_22 : decode cX5_wordLostAs 22 = .ok (.goto (-20), 3) := by decide +kernel
theorem dX5_wordLostAs_25 : decode cX5_wordLostAs 25 = .ok (.bipush 29, 2) := by decide +kernel
theorem dX5_wordLostAs_27 : decode cX5_wordLostAs 27 = .ok (.ireturn, 1) := by decide +kernel
theorem dX5_wordsLostBefore_0 : decode cX5_wordsLostBefore 0 = .ok (.iconst 0, 1) := by decide +kernel
theorem dX5_wordsLostBefore_1 : decode cX5_wordsLostBefore 1 = .ok (.istore_n 2, 1) := by decide +kernel
theorem dX5_wordsLostBefore_2 : decode cX5_wordsLostBefore 2 = .ok (.iconst 0, 1) := by decide +kernel
theorem dX5_wordsLostBefore_3 : decode cX5_wordsLostBefore 3 = .ok (.istore_n 3, 1) := by decide +kernel
theorem dX5_wordsLostBefore_4 : decode cX5_wordsLostBefore 4 = .ok (.iload_n 3, 1) := by decide +kernel
theorem dX5_wordsLostBefore_5 : decode cX5_wordsLostBefore 5 = .ok (.bipush 30, 2) := by decide +kernel
theorem dX5_wordsLostBefore_7 : decode cX5_wordsLostBefore 7 = .ok (.if_icmp .ge 42, 3) := by decide +kernel
theorem dX5_wordsLostBefore_10 : decode cX5_wordsLostBefore 10 = .ok (.aload_n 0, 1) := by decide +kernel
theorem dX5_wordsLostBefore_11 : decode cX5_wordsLostBefore 11 = .ok (.getfield 32, 3) := by decide +kernel
theorem dX5_wordsLostBefore_14 : decode cX5_wordsLostBefore 14 = .ok (.iload_n 3, 1) := by decide +kernel
theorem dX5_wordsLostBefore_15 : decode cX5_wordsLostBefore 15 = .ok (.iaload, 1) := by decide +kernel
theorem dX5_wordsLostBefore_16 : decode cX5_wordsLostBefore 16 = .ok (.aload_n 0, 1) := by decide +kernel
theorem dX5_wordsLostBefore_17 : decode cX5_wordsLostBefore 17 = .ok (.getfield 32, 3) := by decide +kernel
theorem dX5_wordsLostBefore_20 : decode cX5_wordsLostBefore 20 = .ok (.iload_n 1, 1) := by decide +kernel
theorem dX5_wordsLostBefore_21 : decode cX5_wordsLostBefore 21 = .ok (.iaload, 1) := by decide +kernel
theorem dX5_wordsLostBefore_22 : decode cX5_wordsLostBefore 22 = .ok (.isub, 1) := by decide +kernel
theorem dX5_wordsLostBefore_23 : decode cX5_wordsLostBefore 23 = .ok (.istore 4, 2) := by decide +kernel
theorem dX5_wordsLostBefore_25 : decode cX5_wordsLostBefore 25 = .ok (.iload 4, 2) := by decide +kernel
theorem dX5_wordsLostBefore_27 : decode cX5_wordsLostBefore 27 = .ok (.ifCond .gt 13, 3) := by decide +kernel
theorem dX5_wordsLostBefore_30 : decode cX5_wordsLostBefore 30 = .ok (.iload 4, 2) := by decide +kernel
theorem dX5_wordsLostBefore_32 : decode cX5_wordsLostBefore 32 = .ok (.ifCond .ne 11, 3) := by decide +kernel
theorem dX5_wordsLostBefore_35 : decode cX5_wordsLostBefore 35 = .ok (.iload_n 3, 1) := by decide +kernel
theorem dX5_wordsLostBefore_36 : decode cX5_wordsLostBefore 36 = .ok (.iload_n 1, 1) := by decide +kernel
theorem dX5_wordsLostBefore_37 : decode cX5_wordsLostBefore 37 = .ok (.if_icmp .ge 6, 3) := by decide +kernel
theorem dX5_wordsLostBefore_40 : decode cX5_wordsLostBefore 40 = .ok (.iinc 2 1, 3) := by decide +kernel
theorem dX5_wordsLostBefore_43 : decode cX5_wordsLostBefore 43 = .ok (.iinc 3 1, 3) := by decide +kernel
theorem dX5_wordsLostBefore_46 : decode cX5_wordsLostBefore 46 = .ok (.goto (-42), 3) := by decide +kernel
theorem dX5_wordsLostBefore_49 : decode cX5_wordsLostBefore 49 = .ok (.iload_n 2, 1) := by decide +kernel
theorem dX5_wordsLostBefore_50 : decode cX5_wordsLostBefore 50 = .ok (.ireturn, 1) := by decide +kernel
theorem dX6_init_0 : decode cX6_init 0 = .ok (.aload_n 0, 1) := by decide +kernel
theorem dX6_init_1 : decode cX6_init 1 = .ok (.invokespecial 3, 3) := by decide +kernel
theorem dX6_init_4 : decode cX6_init 4 = .ok (.aload_n 0, 1) := by decide +kernel
theorem dX6_init_5 : decode cX6_init 5 = .ok (.bipush 84, 2) := by decide +kernel
theorem dX6_init_7 : decode cX6_init 7 = .ok (.newarray .int, 2) := by decide +kernel
theorem dX6_init_9 : decode cX6_init 9 = .ok (.putfield 9, 3) := by decide +kernel
theorem dX6_init_12 : decode cX6_init 12 = .ok (.aload_n 0, 1) := by decide +kernel
theorem dX6_init_13 : decode cX6_init 13 = .ok (.bipush 7, 2) := by decide +kernel
theorem dX6_init_15 : decode cX6_init 15 = .ok (.newarray .int, 2) := by decide +kernel
theorem dX6_init_17 : decode cX6_init 17 = .ok (.putfield 15, 3) := by decide +kernel
theorem dX6_init_20 : decode cX6_init 20 = .ok (.aload_n 0, 1) := by decide +kernel
theorem dX6_init_21 : decode cX6_init 21 = .ok (.bipush 12, 2) := by decide +kernel
theorem dX6_init_23 : decode cX6_init 23 = .ok (.newarray .int, 2) := by decide +kernel
theorem dX6_init_25 : decode cX6_init 25 = .ok (.putfield 18, 3) := by decide +kernel
theorem dX6_init_28 : decode cX6_init 28 = .ok (.return_, 1) := by decide +kernel
set_option maxRecDepth 20000 in
theorem ggX6_send_X6_misses : GoodIn wsX6_send wsX6_misses := goodIn_r _ [13] (by decide +kernel) (by decide +kernel)
set_option maxRecDepth 20000 in
theorem gX6_send_X6_misses : GoodIn wsX6_send (va_wsS RX6 41 yX6_misses wsX6_misses) := goodIn_app (goodIn_of _ (by decide +kernel)) ggX6_send_X6_misses
set_option maxRecDepth 20000 in
theorem ggX6_send_X2_saidFor : GoodIn wsX6_send wsX2_saidFor := goodIn_r _ [18, 19, 20, 21, 17, 22, 23, 30, 31, 32, 33, 34, 35] (by decide +kernel) (by decide +kernel)
set_option maxRecDepth 20000 in
theorem gX6_send_X2_saidFor : GoodIn wsX6_send (wsV RX6 45 RX2 yX2_saidFor wsX2_saidFor) := goodIn_app (goodIn_of _ (by decide +kernel)) ggX6_send_X2_saidFor
theorem dX6_send_0 : decode cX6_send 0 = .ok (.aload_n 1, 1) := by decide +kernel
theorem dX6_send_1 : decode cX6_send 1 = .ok (.getfield 21, 3) := by decide +kernel
theorem dX6_send_4 : decode cX6_send 4 = .ok (.iconst 0, 1) := by decide +kernel
theorem dX6_send_5 : decode cX6_send 5 = .ok (.aload_n 0, 1) := by decide +kernel
theorem dX6_send_6 : decode cX6_send 6 = .ok (.getfield 9, 3) := by decide +kernel
theorem dX6_send_9 : decode cX6_send 9 = .ok (.iconst 0, 1) := by decide +kernel
theorem dX6_send_10 : decode cX6_send 10 = .ok (.bipush 12, 2) := by decide +kernel
theorem dX6_send_12 : decode cX6_send 12 = .ok (.invokestatic 26, 3) := by decide +kernel
theorem dX6_send_15 : decode cX6_send 15 = .ok (.aload_n 0, 1) := by decide +kernel
theorem dX6_send_16 : decode cX6_send 16 = .ok (.getfield 15, 3) := by decide +kernel
theorem dX6_send_19 : decode cX6_send 19 = .ok (.iconst 0, 1) := by decide +kernel
theorem dX6_send_20 : decode cX6_send 20 = .ok (.aload_n 1, 1) := by decide +kernel
theorem dX6_send_21 : decode cX6_send 21 = .ok (.getfield 32, 3) := by decide +kernel
theorem dX6_send_24 : decode cX6_send 24 = .ok (.iastore, 1) := by decide +kernel
theorem dX6_send_25 : decode cX6_send 25 = .ok (.iconst 0, 1) := by decide +kernel
theorem dX6_send_26 : decode cX6_send 26 = .ok (.istore 4, 2) := by decide +kernel
theorem dX6_send_28 : decode cX6_send 28 = .ok (.iload 4, 2) := by decide +kernel
theorem dX6_send_30 : decode cX6_send 30 = .ok (.bipush 6, 2) := by decide +kernel
theorem dX6_send_32 : decode cX6_send 32 = .ok (.if_icmp .ge 118, 3) := by decide +kernel
theorem dX6_send_35 : decode cX6_send 35 = .ok (.iload 4, 2) := by decide +kernel
theorem dX6_send_37 : decode cX6_send 37 = .ok (.iload_n 3, 1) := by decide +kernel
theorem dX6_send_38 : decode cX6_send 38 = .ok (.if_icmp .ne 7, 3) := by decide +kernel
theorem dX6_send_41 : decode cX6_send 41 = .ok (.iconst 0, 1) := by decide +kernel
theorem dX6_send_42 : decode cX6_send 42 = .ok (.goto 10, 3) := by decide +kernel
theorem dX6_send_45 : decode cX6_send 45 = .ok (.aload_n 2, 1) := by decide +kernel
theorem dX6_send_46 : decode cX6_send 46 = .ok (.getfield 36, 3) := by decide +kernel
theorem dX6_send_49 : decode cX6_send 49 = .ok (.iload 4, 2) := by decide +kernel
theorem dX6_send_51 : decode cX6_send 51 = .ok (.iaload, 1) := by decide +kernel
theorem dX6_send_52 : decode cX6_send 52 = .ok (.istore 5, 2) := by decide +kernel
theorem dX6_send_54 : decode cX6_send 54 = .ok (.iload 4, 2) := by decide +kernel
theorem dX6_send_56 : decode cX6_send 56 = .ok (.bipush 12, 2) := by decide +kernel
theorem dX6_send_58 : decode cX6_send 58 = .ok (.imul, 1) := by decide +kernel
theorem dX6_send_59 : decode cX6_send 59 = .ok (.istore 6, 2) := by decide +kernel
theorem dX6_send_61 : decode cX6_send 61 = .ok (.iload 6, 2) := by decide +kernel
theorem dX6_send_63 : decode cX6_send 63 = .ok (.bipush 12, 2) := by decide +kernel
theorem dX6_send_65 : decode cX6_send 65 = .ok (.iadd, 1) := by decide +kernel
theorem dX6_send_66 : decode cX6_send 66 = .ok (.istore 7, 2) := by decide +kernel
theorem dX6_send_68 : decode cX6_send 68 = .ok (.iconst 0, 1) := by decide +kernel
theorem dX6_send_69 : decode cX6_send 69 = .ok (.istore 8, 2) := by decide +kernel
theorem dX6_send_71 : decode cX6_send 71 = .ok (.iconst 0, 1) := by decide +kernel
theorem dX6_send_72 : decode cX6_send 72 = .ok (.istore 9, 2) := by decide +kernel
theorem dX6_send_74 : decode cX6_send 74 = .ok (.iload 9, 2) := by decide +kernel
theorem dX6_send_76 : decode cX6_send 76 = .ok (.aload_n 0, 1) := by decide +kernel
theorem dX6_send_77 : decode cX6_send 77 = .ok (.getfield 15, 3) := by decide +kernel
theorem dX6_send_80 : decode cX6_send 80 = .ok (.iload 4, 2) := by decide +kernel
theorem dX6_send_82 : decode cX6_send 82 = .ok (.iaload, 1) := by decide +kernel
theorem dX6_send_83 : decode cX6_send 83 = .ok (.if_icmp .ge 50, 3) := by decide +kernel
theorem dX6_send_86 : decode cX6_send 86 = .ok (.iload 5, 2) := by decide +kernel
theorem dX6_send_88 : decode cX6_send 88 = .ok (.iload 9, 2) := by decide +kernel
theorem dX6_send_90 : decode cX6_send 90 = .ok (.iconst 1, 1) := by decide +kernel
theorem dX6_send_91 : decode cX6_send 91 = .ok (.iadd, 1) := by decide +kernel
theorem dX6_send_92 : decode cX6_send 92 = .ok (.invokestatic 41, 3) := by decide +kernel
theorem dX6_send_95 : decode cX6_send 95 = .ok (.ifCond .ne 32, 3) := by decide +kernel
theorem dX6_send_98 : decode cX6_send 98 = .ok (.aload_n 0, 1) := by decide +kernel
theorem dX6_send_99 : decode cX6_send 99 = .ok (.getfield 9, 3) := by decide +kernel
theorem dX6_send_102 : decode cX6_send 102 = .ok (.iload 7, 2) := by decide +kernel
theorem dX6_send_104 : decode cX6_send 104 = .ok (.iload 8, 2) := by decide +kernel
theorem dX6_send_106 : decode cX6_send 106 = .ok (.iadd, 1) := by decide +kernel
theorem dX6_send_107 : decode cX6_send 107 = .ok (.aload_n 2, 1) := by decide +kernel
theorem dX6_send_108 : decode cX6_send 108 = .ok (.iload 4, 2) := by decide +kernel
theorem dX6_send_110 : decode cX6_send 110 = .ok (.aload_n 0, 1) := by decide +kernel
theorem dX6_send_111 : decode cX6_send 111 = .ok (.getfield 9, 3) := by decide +kernel
theorem dX6_send_114 : decode cX6_send 114 = .ok (.iload 6, 2) := by decide +kernel
theorem dX6_send_116 : decode cX6_send 116 = .ok (.iload 9, 2) := by decide +kernel
theorem dX6_send_118 : decode cX6_send 118 = .ok (.iadd, 1) := by decide +kernel
theorem dX6_send_119 : decode cX6_send 119 = .ok (.iaload, 1) := by decide +kernel
theorem dX6_send_120 : decode cX6_send 120 = .ok (.invokevirtual 45, 3) := by decide +kernel
theorem dX6_send_123 : decode cX6_send 123 = .ok (.iastore, 1) := by decide +kernel
theorem dX6_send_124 : decode cX6_send 124 = .ok (.iinc 8 1, 3) := by decide +kernel
theorem dX6_send_127 : decode cX6_send 127 = .ok (.iinc 9 1, 3) := by decide +kernel
theorem dX6_send_130 : decode cX6_send 130 = .ok (.goto (-56), 3) := by decide +kernel
theorem dX6_send_133 : decode cX6_send 133 = .ok (.aload_n 0, 1) := by decide +kernel
theorem dX6_send_134 : decode cX6_send 134 = .ok (.getfield 15, 3) := by decide +kernel
theorem dX6_send_137 : decode cX6_send 137 = .ok (.iload 4, 2) := by decide +kernel
theorem dX6_send_139 : decode cX6_send 139 = .ok (.iconst 1, 1) := by decide +kernel
theorem dX6_send_140 : decode cX6_send 140 = .ok (.iadd, 1) := by decide +kernel
theorem dX6_send_141 : decode cX6_send 141 = .ok (.iload 8, 2) := by decide +kernel
theorem dX6_send_143 : decode cX6_send 143 = .ok (.iastore, 1) := by decide +kernel
theorem dX6_send_144 : decode cX6_send 144 = .ok (.iinc 4 1, 3) := by decide +kernel
theorem dX6_send_147 : decode cX6_send 147 = .ok (.goto (-119), 3) := by decide +kernel
theorem dX6_send_150 : decode cX6_send 150 = .ok (.return_, 1) := by decide +kernel
theorem dX6_misses_0 : decode cX6_misses 0 = .ok (.iload_n 0, 1) := by decide +kernel
theorem dX6_misses_1 : decode cX6_misses 1 = .ok (.ifCond .le 15, 3) := by decide +kernel
theorem dX6_misses_4 : decode cX6_misses 4 = .ok (.iload_n 1, 1) := by decide +kernel
theorem dX6_misses_5 : decode cX6_misses 5 = .ok (.iload_n 0, 1) := by decide +kernel
theorem dX6_misses_6 : decode cX6_misses 6 = .ok (.iconst 1, 1) := by decide +kernel
theorem dX6_misses_7 : decode cX6_misses 7 = .ok (.iadd, 1) := by decide +kernel
theorem dX6_misses_8 : decode cX6_misses 8 = .ok (.irem, 1) := by decide +kernel
theorem dX6_misses_9 : decode cX6_misses 9 = .ok (.ifCond .ne 7, 3) := by decide +kernel
theorem dX6_misses_12 : decode cX6_misses 12 = .ok (.iconst 1, 1) := by decide +kernel
theorem dX6_misses_13 : decode cX6_misses 13 = .ok (.goto 4, 3) := by decide +kernel
theorem dX6_misses_16 : decode cX6_misses 16 = .ok (.iconst 0, 1) := by decide +kernel
theorem dX6_misses_17 : decode cX6_misses 17 = .ok (.ireturn, 1) := by decide +kernel
theorem dX6_sentWords_0 : decode cX6_sentWords 0 = .ok (.aload_n 0, 1) := by decide +kernel
theorem dX6_sentWords_1 : decode cX6_sentWords 1 = .ok (.getfield 15, 3) := by decide +kernel
theorem dX6_sentWords_4 : decode cX6_sentWords 4 = .ok (.iconst 0, 1) := by decide +kernel
theorem dX6_sentWords_5 : decode cX6_sentWords 5 = .ok (.iaload, 1) := by decide +kernel
theorem dX6_sentWords_6 : decode cX6_sentWords 6 = .ok (.ireturn, 1) := by decide +kernel
theorem dX6_arrivedWords_0 : decode cX6_arrivedWords 0 = .ok (.aload_n 0, 1) := by decide +kernel
theorem dX6_arrivedWords_1 : decode cX6_arrivedWords 1 = .ok (.getfield 15, 3) := by decide +kernel
theorem dX6_arrivedWords_4 : decode cX6_arrivedWords 4 = .ok (.bipush 6, 2) := by decide +kernel
theorem dX6_arrivedWords_6 : decode cX6_arrivedWords 6 = .ok (.iaload, 1) := by decide +kernel
theorem dX6_arrivedWords_7 : decode cX6_arrivedWords 7 = .ok (.ireturn, 1) := by decide +kernel
theorem dX6_copyArrived_0 : decode cX6_copyArrived 0 = .ok (.aload_n 0, 1) := by decide +kernel
theorem dX6_copyArrived_1 : decode cX6_copyArrived 1 = .ok (.getfield 9, 3) := by decide +kernel
theorem dX6_copyArrived_4 : decode cX6_copyArrived 4 = .ok (.bipush 72, 2) := by decide +kernel
theorem dX6_copyArrived_6 : decode cX6_copyArrived 6 = .ok (.aload_n 1, 1) := by decide +kernel
theorem dX6_copyArrived_7 : decode cX6_copyArrived 7 = .ok (.iconst 0, 1) := by decide +kernel
theorem dX6_copyArrived_8 : decode cX6_copyArrived 8 = .ok (.bipush 12, 2) := by decide +kernel
theorem dX6_copyArrived_10 : decode cX6_copyArrived 10 = .ok (.invokestatic 26, 3) := by decide +kernel
theorem dX6_copyArrived_13 : decode cX6_copyArrived 13 = .ok (.return_, 1) := by decide +kernel
theorem dX6_wordsBehind_0 : decode cX6_wordsBehind 0 = .ok (.aload_n 0, 1) := by decide +kernel
theorem dX6_wordsBehind_1 : decode cX6_wordsBehind 1 = .ok (.getfield 15, 3) := by decide +kernel
theorem dX6_wordsBehind_4 : decode cX6_wordsBehind 4 = .ok (.iload_n 1, 1) := by decide +kernel
theorem dX6_wordsBehind_5 : decode cX6_wordsBehind 5 = .ok (.iconst 1, 1) := by decide +kernel
theorem dX6_wordsBehind_6 : decode cX6_wordsBehind 6 = .ok (.iadd, 1) := by decide +kernel
theorem dX6_wordsBehind_7 : decode cX6_wordsBehind 7 = .ok (.iaload, 1) := by decide +kernel
theorem dX6_wordsBehind_8 : decode cX6_wordsBehind 8 = .ok (.ireturn, 1) := by decide +kernel
theorem dX6_mumblesBehind_0 : decode cX6_mumblesBehind 0 = .ok (.iload_n 1, 1) := by decide +kernel
theorem dX6_mumblesBehind_1 : decode cX6_mumblesBehind 1 = .ok (.iconst 1, 1) := by decide +kernel
theorem dX6_mumblesBehind_2 : decode cX6_mumblesBehind 2 = .ok (.iadd, 1) := by decide +kernel
theorem dX6_mumblesBehind_3 : decode cX6_mumblesBehind 3 = .ok (.bipush 12, 2) := by decide +kernel
theorem dX6_mumblesBehind_5 : decode cX6_mumblesBehind 5 = .ok (.imul, 1) := by decide +kernel
theorem dX6_mumblesBehind_6 : decode cX6_mumblesBehind 6 = .ok (.istore_n 2, 1) := by decide +kernel
theorem dX6_mumblesBehind_7 : decode cX6_mumblesBehind 7 = .ok (.iconst 0, 1) := by decide +kernel
theorem dX6_mumblesBehind_8 : decode cX6_mumblesBehind 8 = .ok (.istore_n 3, 1) := by decide +kernel
theorem dX6_mumblesBehind_9 : decode cX6_mumblesBehind 9 = .ok (.iconst 0, 1) := by decide +kernel
theorem dX6_mumblesBehind_10 : decode cX6_mumblesBehind 10 = .ok (.istore 4, 2) := by decide +kernel
theorem dX6_mumblesBehind_12 : decode cX6_mumblesBehind 12 = .ok (.iload 4, 2) := by decide +kernel
theorem dX6_mumblesBehind_14 : decode cX6_mumblesBehind 14 = .ok (.aload_n 0, 1) := by decide +kernel
theorem dX6_mumblesBehind_15 : decode cX6_mumblesBehind 15 = .ok (.getfield 15, 3) := by decide +kernel
theorem dX6_mumblesBehind_18 : decode cX6_mumblesBehind 18 = .ok (.iload_n 1, 1) := by decide +kernel
theorem dX6_mumblesBehind_19 : decode cX6_mumblesBehind 19 = .ok (.iconst 1, 1) := by decide +kernel
theorem dX6_mumblesBehind_20 : decode cX6_mumblesBehind 20 = .ok (.iadd, 1) := by decide +kernel
theorem dX6_mumblesBehind_21 : decode cX6_mumblesBehind 21 = .ok (.iaload, 1) := by decide +kernel
theorem dX6_mumblesBehind_22 : decode cX6_mumblesBehind 22 = .ok (.if_icmp .ge 26, 3) := by decide +kernel
theorem dX6_mumblesBehind_25 : decode cX6_mumblesBehind 25 = .ok (.aload_n 0, 1) := by decide +kernel
theorem dX6_mumblesBehind_26 : decode cX6_mumblesBehind 26 = .ok (.getfield 9, 3) := by decide +kernel
theorem dX6_mumblesBehind_29 : decode cX6_mumblesBehind 29 = .ok (.iload_n 2, 1) := by decide +kernel
theorem dX6_mumblesBehind_30 : decode cX6_mumblesBehind 30 = .ok (.iload 4, 2) := by decide +kernel
theorem dX6_mumblesBehind_32 : decode cX6_mumblesBehind 32 = .ok (.iadd, 1) := by decide +kernel
theorem dX6_mumblesBehind_33 : decode cX6_mumblesBehind 33 = .ok (.iaload, 1) := by decide +kernel
theorem dX6_mumblesBehind_34 : decode cX6_mumblesBehind 34 = .ok (.bipush 30, 2) := by decide +kernel
theorem dX6_mumblesBehind_36 : decode cX6_mumblesBehind 36 = .ok (.if_icmp .ne 6, 3) := by decide +kernel
theorem dX6_mumblesBehind_39 : decode cX6_mumblesBehind 39 = .ok (.iinc 3 1, 3) := by decide +kernel
theorem dX6_mumblesBehind_42 : decode cX6_mumblesBehind 42 = .ok (.iinc 4 1, 3) := by decide +kernel
theorem dX6_mumblesBehind_45 : decode cX6_mumblesBehind 45 = .ok (.goto (-33), 3) := by decide +kernel
theorem dX6_mumblesBehind_48 : decode cX6_mumblesBehind 48 = .ok (.iload_n 3, 1) := by decide +kernel
theorem dX6_mumblesBehind_49 : decode cX6_mumblesBehind 49 = .ok (.ireturn, 1) := by decide +kernel
theorem dX6_missedBy_0 : decode cX6_missedBy 0 = .ok (.aload_n 0, 1) := by decide +kernel
theorem dX6_missedBy_1 : decode cX6_missedBy 1 = .ok (.getfield 15, 3) := by decide +kernel
theorem dX6_missedBy_4 : decode cX6_missedBy 4 = .ok (.iload_n 1, 1) := by decide +kernel
theorem dX6_missedBy_5 : decode cX6_missedBy 5 = .ok (.iaload, 1) := by decide +kernel
theorem dX6_missedBy_6 : decode cX6_missedBy 6 = .ok (.aload_n 0, 1) := by decide +kernel
theorem dX6_missedBy_7 : decode cX6_missedBy 7 = .ok (.getfield 15, 3) := by decide +kernel
theorem dX6_missedBy_10 : decode cX6_missedBy 10 = .ok (.iload_n 1, 1) := by decide +kernel
theorem dX6_missedBy_11 : decode cX6_missedBy 11 = .ok (.iconst 1, 1) := by decide +kernel
theorem dX6_missedBy_12 : decode cX6_missedBy 12 = .ok (.iadd, 1) := by decide +kernel
theorem dX6_missedBy_13 : decode cX6_missedBy 13 = .ok (.iaload, 1) := by decide +kernel
theorem dX6_missedBy_14 : decode cX6_missedBy 14 = .ok (.isub, 1) := by decide +kernel
theorem dX6_missedBy_15 : decode cX6_missedBy 15 = .ok (.ireturn, 1) := by decide +kernel
theorem dX6_payOf_0 : decode cX6_payOf 0 = .ok (.aload_n 0, 1) := by decide +kernel
theorem dX6_payOf_1 : decode cX6_payOf 1 = .ok (.getfield 15, 3) := by decide +kernel
theorem dX6_payOf_4 : decode cX6_payOf 4 = .ok (.iload_n 1, 1) := by decide +kernel
theorem dX6_payOf_5 : decode cX6_payOf 5 = .ok (.iconst 1, 1) := by decide +kernel
theorem dX6_payOf_6 : decode cX6_payOf 6 = .ok (.iadd, 1) := by decide +kernel
theorem dX6_payOf_7 : decode cX6_payOf 7 = .ok (.iaload, 1) := by decide +kernel
theorem dX6_payOf_8 : decode cX6_payOf 8 = .ok (.aload_n 2, 1) := by decide +kernel
theorem dX6_payOf_9 : decode cX6_payOf 9 = .ok (.getfield 49, 3) := by decide +kernel
theorem dX6_payOf_12 : decode cX6_payOf 12 = .ok (.iload_n 1, 1) := by decide +kernel
theorem dX6_payOf_13 : decode cX6_payOf 13 = .ok (.iaload, 1) := by decide +kernel
theorem dX6_payOf_14 : decode cX6_payOf 14 = .ok (.imul, 1) := by decide +kernel
theorem dX6_payOf_15 : decode cX6_payOf 15 = .ok (.ireturn, 1) := by decide +kernel
set_option maxRecDepth 20000 in
theorem ggX6_payOfAll_X6_payOf : GoodIn wsX6_payOfAll wsX6_payOf := goodIn_r _ [5, 6, 7, 8, 9, 10, 11, 12, 13, 14, 15, 16] (by decide +kernel) (by decide +kernel)
set_option maxRecDepth 20000 in
theorem gX6_payOfAll_X6_payOf : GoodIn wsX6_payOfAll (wsV RX6 52 RX6 yX6_payOf wsX6_payOf) := goodIn_app (goodIn_of _ (by decide +kernel)) ggX6_payOfAll_X6_payOf
theorem dX6_payOfAll_0 : decode cX6_payOfAll 0 = .ok (.iconst 0, 1) := by decide +kernel
theorem dX6_payOfAll_1 : decode cX6_payOfAll 1 = .ok (.istore_n 2, 1) := by decide +kernel
theorem dX6_payOfAll_2 : decode cX6_payOfAll 2 = .ok (.iconst 0, 1) := by decide +kernel
theorem dX6_payOfAll_3 : decode cX6_payOfAll 3 = .ok (.istore_n 3, 1) := by decide +kernel
theorem dX6_payOfAll_4 : decode cX6_payOfAll 4 = .ok (.iload_n 3, 1) := by decide +kernel
theorem dX6_payOfAll_5 : decode cX6_payOfAll 5 = .ok (.bipush 6, 2) := by decide +kernel
theorem dX6_payOfAll_7 : decode cX6_payOfAll 7 = .ok (.if_icmp .ge 18, 3) := by decide +kernel
theorem dX6_payOfAll_10 : decode cX6_payOfAll 10 = .ok (.iload_n 2, 1) := by decide +kernel
theorem dX6_payOfAll_11 : decode cX6_payOfAll 11 = .ok (.aload_n 0, 1) := by decide +kernel
theorem dX6_payOfAll_12 : decode cX6_payOfAll 12 = .ok (.iload_n 3, 1) := by decide +kernel
theorem dX6_payOfAll_13 : decode cX6_payOfAll 13 = .ok (.aload_n 1, 1) := by decide +kernel
theorem dX6_payOfAll_14 : decode cX6_payOfAll 14 = .ok (.invokevirtual 52, 3) := by decide +kernel
theorem dX6_payOfAll_17 : decode cX6_payOfAll 17 = .ok (.iadd, 1) := by decide +kernel
theorem dX6_payOfAll_18 : decode cX6_payOfAll 18 = .ok (.istore_n 2, 1) := by decide +kernel
theorem dX6_payOfAll_19 : decode cX6_payOfAll 19 = .ok (.iinc 3 1, 3) := by decide +kernel
theorem dX6_payOfAll_22 : decode cX6_payOfAll 22 = .ok (.goto (-18), 3) := by decide +kernel
theorem dX6_payOfAll_25 : decode cX6_payOfAll 25 = .ok (.iload_n 2, 1) := by decide +kernel
theorem dX6_payOfAll_26 : decode cX6_payOfAll 26 = .ok (.ireturn, 1) := by decide +kernel
set_option maxRecDepth 20000 in
theorem ggX6_lossByRules_X6_missedBy : GoodIn wsX6_lossByRules wsX6_missedBy := goodIn_r _ [5, 6, 26, 27, 28] (by decide +kernel) (by decide +kernel)
set_option maxRecDepth 20000 in
theorem gX6_lossByRules_X6_missedBy : GoodIn wsX6_lossByRules (wsV RX6 56 RX6 yX6_missedBy wsX6_missedBy) := goodIn_app (goodIn_of _ (by decide +kernel)) ggX6_lossByRules_X6_missedBy
set_option maxRecDepth 20000 in
theorem ggX6_lossByRules_X6_losesSomeWord : GoodIn wsX6_lossByRules wsX6_losesSomeWord := goodIn_r _ [10, 6, 11, 12, 13, 14, 15, 16, 17, 18, 19, 20, 21, 22, 23, 24, 25, 26, 27, 28, 29, 30, 31, 32, 33, 34] (by decide +kernel) (by decide +kernel)
set_option maxRecDepth 20000 in
theorem gX6_lossByRules_X6_losesSomeWord : GoodIn wsX6_lossByRules (wsV RX6 60 RX6 yX6_losesSomeWord wsX6_losesSomeWord) := goodIn_app (goodIn_of _ (by decide +kernel)) ggX6_lossByRules_X6_losesSomeWord
theorem dX6_lossByRules_0 : decode cX6_lossByRules 0 = .ok (.iconst 0, 1) := by decide +kernel
theorem dX6_lossByRules_1 : decode cX6_lossByRules 1 = .ok (.istore_n 2, 1) := by decide +kernel
theorem dX6_lossByRules_2 : decode cX6_lossByRules 2 = .ok (.iload_n 2, 1) := by decide +kernel
theorem dX6_lossByRules_3 : decode cX6_lossByRules 3 = .ok (.bipush 6, 2) := by decide +kernel
theorem dX6_lossByRules_5 : decode cX6_lossByRules 5 = .ok (.if_icmp .ge 28, 3) := by decide +kernel
theorem dX6_lossByRules_8 : decode cX6_lossByRules 8 = .ok (.aload_n 0, 1) := by decide +kernel
theorem dX6_lossByRules_9 : decode cX6_lossByRules 9 = .ok (.iload_n 2, 1) := by decide +kernel
theorem dX6_lossByRules_10 : decode cX6_lossByRules 10 = .ok (.invokevirtual 56, 3) := by decide +kernel
theorem dX6_lossByRules_13 : decode cX6_lossByRules 13 = .ok (.ifCond .gt 12, 3) := by decide +kernel
theorem dX6_lossByRules_16 : decode cX6_lossByRules 16 = .ok (.aload_n 0, 1) := by decide +kernel
theorem dX6_lossByRules_17 : decode cX6_lossByRules 17 = .ok (.iload_n 2, 1) := by decide +kernel
theorem dX6_lossByRules_18 : decode cX6_lossByRules 18 = .ok (.aload_n 1, 1) := by decide +kernel
theorem dX6_lossByRules_19 : decode cX6_lossByRules 19 = .ok (.invokevirtual 60, 3) := by decide +kernel
theorem dX6_lossByRules_22 : decode cX6_lossByRules 22 = .ok (.ifCond .eq 5, 3) := by decide +kernel
theorem dX6_lossByRules_25 : decode cX6_lossByRules 25 = .ok (.iload_n 2, 1) := by decide +kernel
theorem dX6_lossByRules_26 : decode cX6_lossByRules 26 = .ok (.ireturn, 1) := by decide +kernel
theorem dX6_lossByRules_27 : decode cX6_lossByRules 27 = .ok (.iinc 2 1, 3) := by decide +kernel
theorem dX6_lossByRules_30 : decode cX6_lossByRules 30 = .ok (.goto (-28), 3) := by decide +kernel
theorem dX6_lossByRules_33 : decode cX6_lossByRules 33 = .ok (.iconst (-1), 1) := by decide +kernel
theorem dX6_lossByRules_34 : decode cX6_lossByRules 34 = .ok (.ireturn, 1) := by decide +kernel
set_option maxRecDepth 20000 in
theorem ggX6_losesSomeWord_X2_backFor : GoodIn wsX6_losesSomeWord wsX2_backFor := goodIn_r _ [7, 8, 9, 10, 6, 11, 12, 13, 14, 15, 16, 20, 21, 22, 23, 24, 25] (by decide +kernel) (by decide +kernel)
set_option maxRecDepth 20000 in
theorem gX6_losesSomeWord_X2_backFor : GoodIn wsX6_losesSomeWord (wsV RX6 64 RX2 yX2_backFor wsX2_backFor) := goodIn_app (goodIn_of _ (by decide +kernel)) ggX6_losesSomeWord_X2_backFor
theorem dX6_losesSomeWord_0 : decode cX6_losesSomeWord 0 = .ok (.iload_n 1, 1) := by decide +kernel
theorem dX6_losesSomeWord_1 : decode cX6_losesSomeWord 1 = .ok (.bipush 12, 2) := by decide +kernel
theorem dX6_losesSomeWord_3 : decode cX6_losesSomeWord 3 = .ok (.imul, 1) := by decide +kernel
theorem dX6_losesSomeWord_4 : decode cX6_losesSomeWord 4 = .ok (.istore_n 3, 1) := by decide +kernel
theorem dX6_losesSomeWord_5 : decode cX6_losesSomeWord 5 = .ok (.iconst 0, 1) := by decide +kernel
theorem dX6_losesSomeWord_6 : decode cX6_losesSomeWord 6 = .ok (.istore 4, 2) := by decide +kernel
theorem dX6_losesSomeWord_8 : decode cX6_losesSomeWord 8 = .ok (.iload 4, 2) := by decide +kernel
theorem dX6_losesSomeWord_10 : decode cX6_losesSomeWord 10 = .ok (.aload_n 0, 1) := by decide +kernel
theorem dX6_losesSomeWord_11 : decode cX6_losesSomeWord 11 = .ok (.getfield 15, 3) := by decide +kernel
theorem dX6_losesSomeWord_14 : decode cX6_losesSomeWord 14 = .ok (.iload_n 1, 1) := by decide +kernel
theorem dX6_losesSomeWord_15 : decode cX6_losesSomeWord 15 = .ok (.iaload, 1) := by decide +kernel
theorem dX6_losesSomeWord_16 : decode cX6_losesSomeWord 16 = .ok (.if_icmp .ge 37, 3) := by decide +kernel
theorem dX6_losesSomeWord_19 : decode cX6_losesSomeWord 19 = .ok (.aload_n 2, 1) := by decide +kernel
theorem dX6_losesSomeWord_20 : decode cX6_losesSomeWord 20 = .ok (.iload_n 1, 1) := by decide +kernel
theorem dX6_losesSomeWord_21 : decode cX6_losesSomeWord 21 = .ok (.aload_n 0, 1) := by decide +kernel
theorem dX6_losesSomeWord_22 : decode cX6_losesSomeWord 22 = .ok (.getfield 9, 3) := by decide +kernel
theorem dX6_losesSomeWord_25 : decode cX6_losesSomeWord 25 = .ok (.iload_n 3, 1) := by decide +kernel
theorem dX6_losesSomeWord_26 : decode cX6_losesSomeWord 26 = .ok (.iload 4, 2) := by decide +kernel
theorem dX6_losesSomeWord_28 : decode cX6_losesSomeWord 28 = .ok (.iadd, 1) := by decide +kernel
theorem dX6_losesSomeWord_29 : decode cX6_losesSomeWord 29 = .ok (.iaload, 1) := by decide +kernel
theorem dX6_losesSomeWord_30 : decode cX6_losesSomeWord 30 = .ok (.invokevirtual 64, 3) := by decide +kernel
theorem dX6_losesSomeWord_33 : decode cX6_losesSomeWord 33 = .ok (.aload_n 0, 1) := by decide +kernel
theorem dX6_losesSomeWord_34 : decode cX6_losesSomeWord 34 = .ok (.getfield 9, 3) := by decide +kernel
theorem dX6_losesSomeWord_37 : decode cX6_losesSomeWord 37 = .ok (.iload_n 3, 1) := by decide +kernel
theorem dX6_losesSomeWord_38 : decode cX6_losesSomeWord 38 = .ok (.iload 4, 2) := by decide +kernel
theorem dX6_losesSomeWord_40 : decode cX6_losesSomeWord 40 = .ok (.iadd, 1) := by decide +kernel
theorem dX6_losesSomeWord_41 : decode cX6_losesSomeWord 41 = .ok (.iaload, 1) := by decide +kernel
theorem dX6_losesSomeWord_42 : decode cX6_losesSomeWord 42 = .ok (.if_icmp .eq 5, 3) := by decide +kernel
theorem dX6_losesSomeWord_45 : decode cX6_losesSomeWord 45 = .ok (.iconst 1, 1) := by decide +kernel
theorem dX6_losesSomeWord_46 : decode cX6_losesSomeWord 46 = .ok (.ireturn, 1) := by decide +kernel
theorem dX6_losesSomeWord_47 : decode cX6_losesSomeWord 47 = .ok (.iinc 4 1, 3) := by decide +kernel
theorem dX6_losesSomeWord_50 : decode cX6_losesSomeWord 50 = .ok (.goto (-42), 3) := by decide +kernel
theorem dX6_losesSomeWord_53 : decode cX6_losesSomeWord 53 = .ok (.iconst 0, 1) := by decide +kernel
theorem dX6_losesSomeWord_54 : decode cX6_losesSomeWord 54 = .ok (.ireturn, 1) := by decide +kernel
set_option maxRecDepth 20000 in
theorem ggX6_lossBySendingBack_X6_comesBackFrom : GoodIn wsX6_lossBySendingBack wsX6_comesBackFrom := goodIn_r _ [5, 6, 7, 8, 9, 10, 11, 12, 13, 14, 15, 16, 17, 18, 19, 20, 21, 22, 23, 24, 25, 26, 27] (by decide +kernel) (by decide +kernel)
set_option maxRecDepth 20000 in
theorem gX6_lossBySendingBack_X6_comesBackFrom : GoodIn wsX6_lossBySendingBack (wsV RX6 67 RX6 yX6_comesBackFrom wsX6_comesBackFrom) := goodIn_app (goodIn_of _ (by decide +kernel)) ggX6_lossBySendingBack_X6_comesBackFrom
theorem dX6_lossBySendingBack_0 : decode cX6_lossBySendingBack 0 = .ok (.iconst 0, 1) := by decide +kernel
theorem dX6_lossBySendingBack_1 : decode cX6_lossBySendingBack 1 = .ok (.istore_n 2, 1) := by decide +kernel
theorem dX6_lossBySendingBack_2 : decode cX6_lossBySendingBack 2 = .ok (.iload_n 2, 1) := by decide +kernel
theorem dX6_lossBySendingBack_3 : decode cX6_lossBySendingBack 3 = .ok (.bipush 6, 2) := by decide +kernel
theorem dX6_lossBySendingBack_5 : decode cX6_lossBySendingBack 5 = .ok (.if_icmp .ge 20, 3) := by decide +kernel
theorem dX6_lossBySendingBack_8 : decode cX6_lossBySendingBack 8 = .ok (.aload_n 0, 1) := by decide +kernel
theorem dX6_lossBySendingBack_9 : decode cX6_lossBySendingBack 9 = .ok (.iload_n 2, 1) := by decide +kernel
theorem dX6_lossBySendingBack_10 : decode cX6_lossBySendingBack 10 = .ok (.aload_n 1, 1) := by decide +kernel
theorem dX6_lossBySendingBack_11 : decode cX6_lossBySendingBack 11 = .ok (.invokevirtual 67, 3) := by decide +kernel
theorem dX6_lossBySendingBack_14 : decode cX6_lossBySendingBack 14 = .ok (.ifCond .ne 5, 3) := by decide +kernel
theorem dX6_lossBySendingBack_17 : decode cX6_lossBySendingBack 17 = .ok (.iload_n 2, 1) := by decide +kernel
theorem dX6_lossBySendingBack_18 : decode cX6_lossBySendingBack 18 = .ok (.ireturn, 1) := by decide +kernel
theorem dX6_lossBySendingBack_19 : decode cX6_lossBySendingBack 19 = .ok (.iinc 2 1, 3) := by decide +kernel
theorem dX6_lossBySendingBack_22 : decode cX6_lossBySendingBack 22 = .ok (.goto (-20), 3) := by decide +kernel
theorem dX6_lossBySendingBack_25 : decode cX6_lossBySendingBack 25 = .ok (.iconst (-1), 1) := by decide +kernel
theorem dX6_lossBySendingBack_26 : decode cX6_lossBySendingBack 26 = .ok (.ireturn, 1) := by decide +kernel
set_option maxRecDepth 20000 in
theorem ggX6_comesBackFrom_X2_lowestWith : GoodIn wsX6_comesBackFrom wsX2_lowestWith := goodIn_r _ [12, 13, 17, 18, 19, 20, 21, 22] (by decide +kernel) (by decide +kernel)
set_option maxRecDepth 20000 in
theorem gX6_comesBackFrom_X2_lowestWith : GoodIn wsX6_comesBackFrom (wsV RX6 70 RX2 yX2_lowestWith wsX2_lowestWith) := goodIn_app (goodIn_of _ (by decide +kernel)) ggX6_comesBackFrom_X2_lowestWith
theorem dX6_comesBackFrom_0 : decode cX6_comesBackFrom 0 = .ok (.aload_n 0, 1) := by decide +kernel
theorem dX6_comesBackFrom_1 : decode cX6_comesBackFrom 1 = .ok (.getfield 15, 3) := by decide +kernel
theorem dX6_comesBackFrom_4 : decode cX6_comesBackFrom 4 = .ok (.iload_n 1, 1) := by decide +kernel
theorem dX6_comesBackFrom_5 : decode cX6_comesBackFrom 5 = .ok (.iconst 1, 1) := by decide +kernel
theorem dX6_comesBackFrom_6 : decode cX6_comesBackFrom 6 = .ok (.iadd, 1) := by decide +kernel
theorem dX6_comesBackFrom_7 : decode cX6_comesBackFrom 7 = .ok (.iaload, 1) := by decide +kernel
theorem dX6_comesBackFrom_8 : decode cX6_comesBackFrom 8 = .ok (.istore_n 3, 1) := by decide +kernel
theorem dX6_comesBackFrom_9 : decode cX6_comesBackFrom 9 = .ok (.iload_n 3, 1) := by decide +kernel
theorem dX6_comesBackFrom_10 : decode cX6_comesBackFrom 10 = .ok (.aload_n 0, 1) := by decide +kernel
theorem dX6_comesBackFrom_11 : decode cX6_comesBackFrom 11 = .ok (.getfield 15, 3) := by decide +kernel
theorem dX6_comesBackFrom_14 : decode cX6_comesBackFrom 14 = .ok (.iconst 0, 1) := by decide +kernel
theorem dX6_comesBackFrom_15 : decode cX6_comesBackFrom 15 = .ok (.iaload, 1) := by decide +kernel
theorem dX6_comesBackFrom_16 : decode cX6_comesBackFrom 16 = .ok (.if_icmp .eq 5, 3) := by decide +kernel
theorem dX6_comesBackFrom_19 : decode cX6_comesBackFrom 19 = .ok (.iconst 0, 1) := by decide +kernel
theorem dX6_comesBackFrom_20 : decode cX6_comesBackFrom 20 = .ok (.ireturn, 1) := by decide +kernel
theorem dX6_comesBackFrom_21 : decode cX6_comesBackFrom 21 = .ok (.aload_n 0, 1) := by decide +kernel
theorem dX6_comesBackFrom_22 : decode cX6_comesBackFrom 22 = .ok (.getfield 9, 3) := by decide +kernel
theorem dX6_comesBackFrom_25 : decode cX6_comesBackFrom 25 = .ok (.iload_n 1, 1) := by decide +kernel
theorem dX6_comesBackFrom_26 : decode cX6_comesBackFrom 26 = .ok (.iconst 1, 1) := by decide +kernel
theorem dX6_comesBackFrom_27 : decode cX6_comesBackFrom 27 = .ok (.iadd, 1) := by decide +kernel
theorem dX6_comesBackFrom_28 : decode cX6_comesBackFrom 28 = .ok (.bipush 12, 2) := by decide +kernel
theorem dX6_comesBackFrom_30 : decode cX6_comesBackFrom 30 = .ok (.imul, 1) := by decide +kernel
theorem dX6_comesBackFrom_31 : decode cX6_comesBackFrom 31 = .ok (.aload_n 0, 1) := by decide +kernel
theorem dX6_comesBackFrom_32 : decode cX6_comesBackFrom 32 = .ok (.getfield 18, 3) := by decide +kernel
theorem dX6_comesBackFrom_35 : decode cX6_comesBackFrom 35 = .ok (.iconst 0, 1) := by decide +kernel
theorem dX6_comesBackFrom_36 : decode cX6_comesBackFrom 36 = .ok (.bipush 12, 2) := by decide +kernel
theorem dX6_comesBackFrom_38 : decode cX6_comesBackFrom 38 = .ok (.invokestatic 26, 3) := by decide +kernel
theorem dX6_comesBackFrom_41 : decode cX6_comesBackFrom 41 = .ok (.iload_n 1, 1) := by decide +kernel
theorem dX6_comesBackFrom_42 : decode cX6_comesBackFrom 42 = .ok (.istore 4, 2) := by decide +kernel
theorem dX6_comesBackFrom_44 : decode cX6_comesBackFrom 44 = .ok (.iload 4, 2) := by decide +kernel
theorem dX6_comesBackFrom_46 : decode cX6_comesBackFrom 46 = .ok (.ifCond .lt 44, 3) := by decide +kernel
theorem dX6_comesBackFrom_49 : decode cX6_comesBackFrom 49 = .ok (.iconst 0, 1) := by decide +kernel
theorem dX6_comesBackFrom_50 : decode cX6_comesBackFrom 50 = .ok (.istore 5, 2) := by decide +kernel
theorem dX6_comesBackFrom_52 : decode cX6_comesBackFrom 52 = .ok (.iload 5, 2) := by decide +kernel
theorem dX6_comesBackFrom_54 : decode cX6_comesBackFrom 54 = .ok (.iload_n 3, 1) := by decide +kernel
theorem dX6_comesBackFrom_55 : decode cX6_comesBackFrom 55 = .ok (.if_icmp .ge 29, 3) := by decide +kernel
theorem dX6_comesBackFrom_58 : decode cX6_comesBackFrom 58 = .ok (.aload_n 0, 1) := by decide +kernel
theorem dX6_comesBackFrom_59 : decode cX6_comesBackFrom 59 = .ok (.getfield 18, 3) := by decide +kernel
theorem dX6_comesBackFrom_62 : decode cX6_comesBackFrom 62 = .ok (.iload 5, 2) := by decide +kernel
theorem dX6_comesBackFrom_64 : decode cX6_comesBackFrom 64 = .ok (.aload_n 2, 1) := by decide +kernel
theorem dX6_comesBackFrom_65 : decode cX6_comesBackFrom 65 = .ok (.iload 4, 2) := by decide +kernel
theorem dX6_comesBackFrom_67 : decode cX6_comesBackFrom 67 = .ok (.aload_n 0, 1) := by decide +kernel
theorem dX6_comesBackFrom_68 : decode cX6_comesBackFrom 68 = .ok (.getfield 18, 3) := by decide +kernel
theorem dX6_comesBackFrom_71 : decode cX6_comesBackFrom 71 = .ok (.iload 5, 2) := by decide +kernel
theorem dX6_comesBackFrom_73 : decode cX6_comesBackFrom 73 = .ok (.iaload, 1) := by decide +kernel
theorem dX6_comesBackFrom_74 : decode cX6_comesBackFrom 74 = .ok (.invokevirtual 70, 3) := by decide +kernel
theorem dX6_comesBackFrom_77 : decode cX6_comesBackFrom 77 = .ok (.iastore, 1) := by decide +kernel
theorem dX6_comesBackFrom_78 : decode cX6_comesBackFrom 78 = .ok (.iinc 5 1, 3) := by decide +kernel
theorem dX6_comesBackFrom_81 : decode cX6_comesBackFrom 81 = .ok (.goto (-29), 3) := by decide +kernel
theorem dX6_comesBackFrom_84 : decode cX6_comesBackFrom 84 = .ok (.iinc 4 (-1), 3) := by decide +kernel
theorem dX6_comesBackFrom_87 : decode cX6_comesBackFrom 87 = .ok (.goto (-43), 3) := by decide +kernel
theorem dX6_comesBackFrom_90 : decode cX6_comesBackFrom 90 = .ok (.iconst 0, 1) := by decide +kernel
theorem dX6_comesBackFrom_91 : decode cX6_comesBackFrom 91 = .ok (.istore 4, 2) := by decide +kernel
theorem dX6_comesBackFrom_93 : decode cX6_comesBackFrom 93 = .ok (.iload 4, 2) := by decide +kernel
theorem dX6_comesBackFrom_95 : decode cX6_comesBackFrom 95 = .ok (.iload_n 3, 1) := by decide +kernel
theorem dX6_comesBackFrom_96 : decode cX6_comesBackFrom 96 = .ok (.if_icmp .ge 28, 3) := by decide +kernel
theorem dX6_comesBackFrom_99 : decode cX6_comesBackFrom 99 = .ok (.aload_n 0, 1) := by decide +kernel
theorem dX6_comesBackFrom_100 : decode cX6_comesBackFrom 100 = .ok (.getfield 18, 3) := by decide +kernel
theorem dX6_comesBackFrom_103 : decode cX6_comesBackFrom 103 = .ok (.iload 4, 2) := by decide +kernel
theorem dX6_comesBackFrom_105 : decode cX6_comesBackFrom 105 = .ok (.iaload, 1) := by decide +kernel
theorem dX6_comesBackFrom_106 : decode cX6_comesBackFrom 106 = .ok (.aload_n 0, 1) := by decide +kernel
theorem dX6_comesBackFrom_107 : decode cX6_comesBackFrom 107 = .ok (.getfield 9, 3) := by decide +kernel
theorem dX6_comesBackFrom_110 : decode cX6_comesBackFrom 110 = .ok (.iload 4, 2) := by decide +kernel
theorem dX6_comesBackFrom_112 : decode cX6_comesBackFrom 112 = .ok (.iaload, 1) := by decide +kernel
theorem dX6_comesBackFrom_113 : decode cX6_comesBackFrom 113 = .ok (.if_icmp .eq 5, 3) := by decide +kernel
theorem dX6_comesBackFrom_116 : decode cX6_comesBackFrom 116 = .ok (.iconst 0, 1) := by decide +kernel
theorem dX6_comesBackFrom_117 : decode cX6_comesBackFrom 117 = .ok (.ireturn, 1) := by decide +kernel
theorem dX6_comesBackFrom_118 : decode cX6_comesBackFrom 118 = .ok (.iinc 4 1, 3) := by decide +kernel
theorem dX6_comesBackFrom_121 : decode cX6_comesBackFrom 121 = .ok (.goto (-28), 3) := by decide +kernel
theorem dX6_comesBackFrom_124 : decode cX6_comesBackFrom 124 = .ok (.iconst 1, 1) := by decide +kernel
theorem dX6_comesBackFrom_125 : decode cX6_comesBackFrom 125 = .ok (.ireturn, 1) := by decide +kernel
theorem dX7_init_0 : decode cX7_init 0 = .ok (.aload_n 0, 1) := by decide +kernel
theorem dX7_init_1 : decode cX7_init 1 = .ok (.invokespecial 3, 3) := by decide +kernel
theorem dX7_init_4 : decode cX7_init 4 = .ok (.aload_n 0, 1) := by decide +kernel
theorem dX7_init_5 : decode cX7_init 5 = .ok (.bipush 96, 2) := by decide +kernel
theorem dX7_init_7 : decode cX7_init 7 = .ok (.newarray .int, 2) := by decide +kernel
theorem dX7_init_9 : decode cX7_init 9 = .ok (.putfield 9, 3) := by decide +kernel
theorem dX7_init_12 : decode cX7_init 12 = .ok (.aload_n 0, 1) := by decide +kernel
theorem dX7_init_13 : decode cX7_init 13 = .ok (.bipush 8, 2) := by decide +kernel
theorem dX7_init_15 : decode cX7_init 15 = .ok (.newarray .int, 2) := by decide +kernel
theorem dX7_init_17 : decode cX7_init 17 = .ok (.putfield 15, 3) := by decide +kernel
theorem dX7_init_20 : decode cX7_init 20 = .ok (.aload_n 0, 1) := by decide +kernel
theorem dX7_init_21 : decode cX7_init 21 = .ok (.bipush 8, 2) := by decide +kernel
theorem dX7_init_23 : decode cX7_init 23 = .ok (.newarray .int, 2) := by decide +kernel
theorem dX7_init_25 : decode cX7_init 25 = .ok (.putfield 18, 3) := by decide +kernel
theorem dX7_init_28 : decode cX7_init 28 = .ok (.return_, 1) := by decide +kernel
theorem dX7_copyFrom_0 : decode cX7_copyFrom 0 = .ok (.aload_n 1, 1) := by decide +kernel
theorem dX7_copyFrom_1 : decode cX7_copyFrom 1 = .ok (.getfield 9, 3) := by decide +kernel
theorem dX7_copyFrom_4 : decode cX7_copyFrom 4 = .ok (.iconst 0, 1) := by decide +kernel
theorem dX7_copyFrom_5 : decode cX7_copyFrom 5 = .ok (.aload_n 0, 1) := by decide +kernel
theorem dX7_copyFrom_6 : decode cX7_copyFrom 6 = .ok (.getfield 9, 3) := by decide +kernel
theorem dX7_copyFrom_9 : decode cX7_copyFrom 9 = .ok (.iconst 0, 1) := by decide +kernel
theorem dX7_copyFrom_10 : decode cX7_copyFrom 10 = .ok (.bipush 96, 2) := by decide +kernel
theorem dX7_copyFrom_12 : decode cX7_copyFrom 12 = .ok (.invokestatic 21, 3) := by decide +kernel
theorem dX7_copyFrom_15 : decode cX7_copyFrom 15 = .ok (.aload_n 1, 1) := by decide +kernel
theorem dX7_copyFrom_16 : decode cX7_copyFrom 16 = .ok (.getfield 15, 3) := by decide +kernel
theorem dX7_copyFrom_19 : decode cX7_copyFrom 19 = .ok (.iconst 0, 1) := by decide +kernel
theorem dX7_copyFrom_20 : decode cX7_copyFrom 20 = .ok (.aload_n 0, 1) := by decide +kernel
theorem dX7_copyFrom_21 : decode cX7_copyFrom 21 = .ok (.getfield 15, 3) := by decide +kernel
theorem dX7_copyFrom_24 : decode cX7_copyFrom 24 = .ok (.iconst 0, 1) := by decide +kernel
theorem dX7_copyFrom_25 : decode cX7_copyFrom 25 = .ok (.bipush 8, 2) := by decide +kernel
theorem dX7_copyFrom_27 : decode cX7_copyFrom 27 = .ok (.invokestatic 21, 3) := by decide +kernel
theorem dX7_copyFrom_30 : decode cX7_copyFrom 30 = .ok (.aload_n 1, 1) := by decide +kernel
theorem dX7_copyFrom_31 : decode cX7_copyFrom 31 = .ok (.getfield 18, 3) := by decide +kernel
theorem dX7_copyFrom_34 : decode cX7_copyFrom 34 = .ok (.iconst 0, 1) := by decide +kernel
theorem dX7_copyFrom_35 : decode cX7_copyFrom 35 = .ok (.aload_n 0, 1) := by decide +kernel
theorem dX7_copyFrom_36 : decode cX7_copyFrom 36 = .ok (.getfield 18, 3) := by decide +kernel
theorem dX7_copyFrom_39 : decode cX7_copyFrom 39 = .ok (.iconst 0, 1) := by decide +kernel
theorem dX7_copyFrom_40 : decode cX7_copyFrom 40 = .ok (.bipush 8, 2) := by decide +kernel
theorem dX7_copyFrom_42 : decode cX7_copyFrom 42 = .ok (.invokestatic 21, 3) := by decide +kernel
theorem dX7_copyFrom_45 : decode cX7_copyFrom 45 = .ok (.aload_n 0, 1) := by decide +kernel
theorem dX7_copyFrom_46 : decode cX7_copyFrom 46 = .ok (.aload_n 1, 1) := by decide +kernel
theorem dX7_copyFrom_47 : decode cX7_copyFrom 47 = .ok (.getfield 27, 3) := by decide +kernel
theorem dX7_copyFrom_50 : decode cX7_copyFrom 50 = .ok (.putfield 27, 3) := by decide +kernel
theorem dX7_copyFrom_53 : decode cX7_copyFrom 53 = .ok (.return_, 1) := by decide +kernel
set_option maxRecDepth 20000 in
theorem ggX7_add_X7_copyPlace : GoodIn wsX7_add wsX7_copyPlace := goodIn_r _ [16, 5, 6, 7, 8, 9, 10, 2, 17, 18, 19, 20] (by decide +kernel) (by decide +kernel)
set_option maxRecDepth 20000 in
theorem gX7_add_X7_copyPlace : GoodIn wsX7_add (wsV RX7 36 RX7 yX7_copyPlace wsX7_copyPlace) := goodIn_app (goodIn_of _ (by decide +kernel)) ggX7_add_X7_copyPlace
theorem dX7_add_0 : decode cX7_add 0 = .ok (.aload_n 0, 1) := by decide +kernel
theorem dX7_add_1 : decode cX7_add 1 = .ok (.getfield 27, 3) := by decide +kernel
theorem dX7_add_4 : decode cX7_add 4 = .ok (.bipush 8, 2) := by decide +kernel
theorem dX7_add_6 : decode cX7_add 6 = .ok (.if_icmp .lt 5, 3) := by decide +kernel
theorem dX7_add_9 : decode cX7_add 9 = .ok (.iconst 0, 1) := by decide +kernel
theorem dX7_add_10 : decode cX7_add 10 = .ok (.ireturn, 1) := by decide +kernel
theorem dX7_add_11 : decode cX7_add 11 = .ok (.aload_n 0, 1) := by decide +kernel
theorem dX7_add_12 : decode cX7_add 12 = .ok (.getfield 27, 3) := by decide +kernel
theorem dX7_add_15 : decode cX7_add 15 = .ok (.istore_n 2, 1) := by decide +kernel
theorem dX7_add_16 : decode cX7_add 16 = .ok (.iload_n 2, 1) := by decide +kernel
theorem dX7_add_17 : decode cX7_add 17 = .ok (.ifCond .le 32, 3) := by decide +kernel
theorem dX7_add_20 : decode cX7_add 20 = .ok (.aload_n 0, 1) := by decide +kernel
theorem dX7_add_21 : decode cX7_add 21 = .ok (.getfield 18, 3) := by decide +kernel
theorem dX7_add_24 : decode cX7_add 24 = .ok (.iload_n 2, 1) := by decide +kernel
theorem dX7_add_25 : decode cX7_add 25 = .ok (.iconst 1, 1) := by decide +kernel
theorem dX7_add_26 : decode cX7_add 26 = .ok (.isub, 1) := by decide +kernel
theorem dX7_add_27 : decode cX7_add 27 = .ok (.iaload, 1) := by decide +kernel
theorem dX7_add_28 : decode cX7_add 28 = .ok (.aload_n 1, 1) := by decide +kernel
theorem dX7_add_29 : decode cX7_add 29 = .ok (.getfield 31, 3) := by decide +kernel
theorem dX7_add_32 : decode cX7_add 32 = .ok (.if_icmp .ge 17, 3) := by decide +kernel
theorem dX7_add_35 : decode cX7_add 35 = .ok (.aload_n 0, 1) := by decide +kernel
theorem dX7_add_36 : decode cX7_add 36 = .ok (.iload_n 2, 1) := by decide +kernel
theorem dX7_add_37 : decode cX7_add 37 = .ok (.iconst 1, 1) := by decide +kernel
theorem dX7_add_38 : decode cX7_add 38 = .ok (.isub, 1) := by decide +kernel
theorem dX7_add_39 : decode cX7_add 39 = .ok (.iload_n 2, 1) := by decide +kernel
theorem dX7_add_40 : decode cX7_add 40 = .ok (.invokevirtual 36, 3) := by decide +kernel
theorem dX7_add_43 : decode cX7_add 43 = .ok (.iinc 2 (-1), 3) := by decide +kernel
theorem dX7_add_46 : decode cX7_add 46 = .ok (.goto (-30), 3) := by decide +kernel
theorem dX7_add_49 : decode cX7_add 49 = .ok (.aload_n 1, 1) := by decide +kernel
theorem dX7_add_50 : decode cX7_add 50 = .ok (.getfield 40, 3) := by decide +kernel
theorem dX7_add_53 : decode cX7_add 53 = .ok (.iconst 0, 1) := by decide +kernel
theorem dX7_add_54 : decode cX7_add 54 = .ok (.aload_n 0, 1) := by decide +kernel
theorem dX7_add_55 : decode cX7_add 55 = .ok (.getfield 9, 3) := by decide +kernel
theorem dX7_add_58 : decode cX7_add 58 = .ok (.iload_n 2, 1) := by decide +kernel
theorem dX7_add_59 : decode cX7_add 59 = .ok (.bipush 12, 2) := by decide +kernel
theorem dX7_add_61 : decode cX7_add 61 = .ok (.imul, 1) := by decide +kernel
theorem dX7_add_62 : decode cX7_add 62 = .ok (.bipush 12, 2) := by decide +kernel
theorem dX7_add_64 : decode cX7_add 64 = .ok (.invokestatic 21, 3) := by decide +kernel
theorem dX7_add_67 : decode cX7_add 67 = .ok (.aload_n 0, 1) := by decide +kernel
theorem dX7_add_68 : decode cX7_add 68 = .ok (.getfield 15, 3) := by decide +kernel
theorem dX7_add_71 : decode cX7_add 71 = .ok (.iload_n 2, 1) := by decide +kernel
theorem dX7_add_72 : decode cX7_add 72 = .ok (.aload_n 1, 1) := by decide +kernel
theorem dX7_add_73 : decode cX7_add 73 = .ok (.getfield 41, 3) := by decide +kernel
theorem dX7_add_76 : decode cX7_add 76 = .ok (.iastore, 1) := by decide +kernel
theorem dX7_add_77 : decode cX7_add 77 = .ok (.aload_n 0, 1) := by decide +kernel
theorem dX7_add_78 : decode cX7_add 78 = .ok (.getfield 18, 3) := by decide +kernel
theorem dX7_add_81 : decode cX7_add 81 = .ok (.iload_n 2, 1) := by decide +kernel
theorem dX7_add_82 : decode cX7_add 82 = .ok (.aload_n 1, 1) := by decide +kernel
theorem dX7_add_83 : decode cX7_add 83 = .ok (.getfield 31, 3) := by decide +kernel
theorem dX7_add_86 : decode cX7_add 86 = .ok (.iastore, 1) := by decide +kernel
theorem dX7_add_87 : decode cX7_add 87 = .ok (.aload_n 0, 1) := by decide +kernel
theorem dX7_add_88 : decode cX7_add 88 = .ok (.dup, 1) := by decide +kernel
theorem dX7_add_89 : decode cX7_add 89 = .ok (.getfield 27, 3) := by decide +kernel
theorem dX7_add_92 : decode cX7_add 92 = .ok (.iconst 1, 1) := by decide +kernel
theorem dX7_add_93 : decode cX7_add 93 = .ok (.iadd, 1) := by decide +kernel
theorem dX7_add_94 : decode cX7_add 94 = .ok (.putfield 27, 3) := by decide +kernel
theorem dX7_add_97 : decode cX7_add 97 = .ok (.iconst 1, 1) := by decide +kernel
theorem dX7_add_98 : decode cX7_add 98 = .ok (.ireturn, 1) := by decide +kernel
theorem dX7_readInto_0 : decode cX7_readInto 0 = .ok (.iload_n 2, 1) := by decide +kernel
theorem dX7_readInto_1 : decode cX7_readInto 1 = .ok (.ifCond .lt 49, 3) := by decide +kernel
theorem dX7_readInto_4 : decode cX7_readInto 4 = .ok (.iload_n 2, 1) := by decide +kernel
theorem dX7_readInto_5 : decode cX7_readInto 5 = .ok (.aload_n 0, 1) := by decide +kernel
theorem dX7_readInto_6 : decode cX7_readInto 6 = .ok (.getfield 27, 3) := by decide +kernel
theorem dX7_readInto_9 : decode cX7_readInto 9 = .ok (.if_icmp .ge 41, 3) := by decide +kernel
theorem dX7_readInto_12 : decode cX7_readInto 12 = .ok (.aload_n 0, 1) := by decide +kernel
theorem dX7_readInto_13 : decode cX7_readInto 13 = .ok (.getfield 9, 3) := by decide +kernel
theorem dX7_readInto_16 : decode cX7_readInto 16 = .ok (.iload_n 2, 1) := by decide +kernel
theorem dX7_readInto_17 : decode cX7_readInto 17 = .ok (.bipush 12, 2) := by decide +kernel
theorem dX7_readInto_19 : decode cX7_readInto 19 = .ok (.imul, 1) := by decide +kernel
theorem dX7_readInto_20 : decode cX7_readInto 20 = .ok (.aload_n 1, 1) := by decide +kernel
theorem dX7_readInto_21 : decode cX7_readInto 21 = .ok (.getfield 40, 3) := by decide +kernel
theorem dX7_readInto_24 : decode cX7_readInto 24 = .ok (.iconst 0, 1) := by decide +kernel
theorem dX7_readInto_25 : decode cX7_readInto 25 = .ok (.bipush 12, 2) := by decide +kernel
theorem dX7_readInto_27 : decode cX7_readInto 27 = .ok (.invokestatic 21, 3) := by decide +kernel
theorem dX7_readInto_30 : decode cX7_readInto 30 = .ok (.aload_n 1, 1) := by decide +kernel
theorem dX7_readInto_31 : decode cX7_readInto 31 = .ok (.aload_n 0, 1) := by decide +kernel
theorem dX7_readInto_32 : decode cX7_readInto 32 = .ok (.getfield 15, 3) := by decide +kernel
theorem dX7_readInto_35 : decode cX7_readInto 35 = .ok (.iload_n 2, 1) := by decide +kernel
theorem dX7_readInto_36 : decode cX7_readInto 36 = .ok (.iaload, 1) := by decide +kernel
theorem dX7_readInto_37 : decode cX7_readInto 37 = .ok (.putfield 41, 3) := by decide +kernel
theorem dX7_readInto_40 : decode cX7_readInto 40 = .ok (.aload_n 1, 1) := by decide +kernel
theorem dX7_readInto_41 : decode cX7_readInto 41 = .ok (.aload_n 0, 1) := by decide +kernel
theorem dX7_readInto_42 : decode cX7_readInto 42 = .ok (.getfield 18, 3) := by decide +kernel
theorem dX7_readInto_45 : decode cX7_readInto 45 = .ok (.iload_n 2, 1) := by decide +kernel
theorem dX7_readInto_46 : decode cX7_readInto 46 = .ok (.iaload, 1) := by decide +kernel
theorem dX7_readInto_47 : decode cX7_readInto 47 = .ok (.putfield 31, 3) := by decide +kernel
theorem dX7_readInto_50 : decode cX7_readInto 50 = .ok (.return_, 1) := by decide +kernel
set_option maxRecDepth 20000 in
theorem ggX7_removeFirst_X7_copyPlace : GoodIn wsX7_removeFirst wsX7_copyPlace := goodIn_r _ [6, 7, 8, 9, 10, 11, 12, 13, 14, 15, 16, 17] (by decide +kernel) (by decide +kernel)
set_option maxRecDepth 20000 in
theorem gX7_removeFirst_X7_copyPlace : GoodIn wsX7_removeFirst (wsV RX7 36 RX7 yX7_copyPlace wsX7_copyPlace) := goodIn_app (goodIn_of _ (by decide +kernel)) ggX7_removeFirst_X7_copyPlace
theorem dX7_removeFirst_0 : decode cX7_removeFirst 0 = .ok (.iconst 1, 1) := by decide +kernel
theorem dX7_removeFirst_1 : decode cX7_removeFirst 1 = .ok (.istore_n 1, 1) := by decide +kernel
theorem dX7_removeFirst_2 : decode cX7_removeFirst 2 = .ok (.iload_n 1, 1) := by decide +kernel
theorem dX7_removeFirst_3 : decode cX7_removeFirst 3 = .ok (.aload_n 0, 1) := by decide +kernel
theorem dX7_removeFirst_4 : decode cX7_removeFirst 4 = .ok (.getfield 27, 3) := by decide +kernel
theorem dX7_removeFirst_7 : decode cX7_removeFirst 7 = .ok (.if_icmp .ge 17, 3) := by decide +kernel
theorem dX7_removeFirst_10 : decode cX7_removeFirst 10 = .ok (.aload_n 0, 1) := by decide +kernel
theorem dX7_removeFirst_11 : decode cX7_removeFirst 11 = .ok (.iload_n 1, 1) := by decide +kernel
theorem dX7_removeFirst_12 : decode cX7_removeFirst 12 = .ok (.iload_n 1, 1) := by decide +kernel
theorem dX7_removeFirst_13 : decode cX7_removeFirst 13 = .ok (.iconst 1, 1) := by decide +kernel
theorem dX7_removeFirst_14 : decode cX7_removeFirst 14 = .ok (.isub, 1) := by decide +kernel
theorem dX7_removeFirst_15 : decode cX7_removeFirst 15 = .ok (.invokevirtual 36, 3) := by decide +kernel
theorem dX7_removeFirst_18 : decode cX7_removeFirst 18 = .ok (.iinc 1 1, 3) := by decide +kernel
theorem dX7_removeFirst_21 : decode cX7_removeFirst 21 = .ok (.goto (-19), 3) := by decide +kernel
theorem dX7_removeFirst_24 : decode cX7_removeFirst 24 = .ok (.aload_n 0, 1) := by decide +kernel
theorem dX7_removeFirst_25 : decode cX7_removeFirst 25 = .ok (.getfield 27, 3) := by decide +kernel
theorem dX7_removeFirst_28 : decode cX7_removeFirst 28 = .ok (.ifCond .le 13, 3) := by decide +kernel
theorem dX7_removeFirst_31 : decode cX7_removeFirst 31 = .ok (.aload_n 0, 1) := by decide +kernel
theorem dX7_removeFirst_32 : decode cX7_removeFirst 32 = .ok (.dup, 1) := by decide +kernel
theorem dX7_removeFirst_33 : decode cX7_removeFirst 33 = .ok (.getfield 27, 3) := by decide +kernel
theorem dX7_removeFirst_36 : decode cX7_removeFirst 36 = .ok (.iconst 1, 1) := by decide +kernel
theorem dX7_removeFirst_37 : decode cX7_removeFirst 37 = .ok (.isub, 1) := by decide +kernel
theorem dX7_removeFirst_38 : decode cX7_removeFirst 38 = .ok (.putfield 27, 3) := by decide +kernel
theorem dX7_removeFirst_41 : decode cX7_removeFirst 41 = .ok (.return_, 1) := by decide +kernel
theorem dX7_copyPlace_0 : decode cX7_copyPlace 0 = .ok (.aload_n 0, 1) := by decide +kernel
theorem dX7_copyPlace_1 : decode cX7_copyPlace 1 = .ok (.getfield 9, 3) := by decide +kernel
theorem dX7_copyPlace_4 : decode cX7_copyPlace 4 = .ok (.iload_n 1, 1) := by decide +kernel
theorem dX7_copyPlace_5 : decode cX7_copyPlace 5 = .ok (.bipush 12, 2) := by decide +kernel
theorem dX7_copyPlace_7 : decode cX7_copyPlace 7 = .ok (.imul, 1) := by decide +kernel
theorem dX7_copyPlace_8 : decode cX7_copyPlace 8 = .ok (.aload_n 0, 1) := by decide +kernel
theorem dX7_copyPlace_9 : decode cX7_copyPlace 9 = .ok (.getfield 9, 3) := by decide +kernel
theorem dX7_copyPlace_12 : decode cX7_copyPlace 12 = .ok (.iload_n 2, 1) := by decide +kernel
theorem dX7_copyPlace_13 : decode cX7_copyPlace 13 = .ok (.bipush 12, 2) := by decide +kernel
theorem dX7_copyPlace_15 : decode cX7_copyPlace 15 = .ok (.imul, 1) := by decide +kernel
theorem dX7_copyPlace_16 : decode cX7_copyPlace 16 = .ok (.bipush 12, 2) := by decide +kernel
theorem dX7_copyPlace_18 : decode cX7_copyPlace 18 = .ok (.invokestatic 21, 3) := by decide +kernel
theorem dX7_copyPlace_21 : decode cX7_copyPlace 21 = .ok (.aload_n 0, 1) := by decide +kernel
theorem dX7_copyPlace_22 : decode cX7_copyPlace 22 = .ok (.getfield 15, 3) := by decide +kernel
theorem dX7_copyPlace_25 : decode cX7_copyPlace 25 = .ok (.iload_n 2, 1) := by decide +kernel
theorem dX7_copyPlace_26 : decode cX7_copyPlace 26 = .ok (.aload_n 0, 1) := by decide +kernel
theorem dX7_copyPlace_27 : decode cX7_copyPlace 27 = .ok (.getfield 15, 3) := by decide +kernel
theorem dX7_copyPlace_30 : decode cX7_copyPlace 30 = .ok (.iload_n 1, 1) := by decide +kernel
theorem dX7_copyPlace_31 : decode cX7_copyPlace 31 = .ok (.iaload, 1) := by decide +kernel
theorem dX7_copyPlace_32 : decode cX7_copyPlace 32 = .ok (.iastore, 1) := by decide +kernel
theorem dX7_copyPlace_33 : decode cX7_copyPlace 33 = .ok (.aload_n 0, 1) := by decide +kernel
theorem dX7_copyPlace_34 : decode cX7_copyPlace 34 = .ok (.getfield 18, 3) := by decide +kernel
theorem dX7_copyPlace_37 : decode cX7_copyPlace 37 = .ok (.iload_n 2, 1) := by decide +kernel
theorem dX7_copyPlace_38 : decode cX7_copyPlace 38 = .ok (.aload_n 0, 1) := by decide +kernel
theorem dX7_copyPlace_39 : decode cX7_copyPlace 39 = .ok (.getfield 18, 3) := by decide +kernel
theorem dX7_copyPlace_42 : decode cX7_copyPlace 42 = .ok (.iload_n 1, 1) := by decide +kernel
theorem dX7_copyPlace_43 : decode cX7_copyPlace 43 = .ok (.iaload, 1) := by decide +kernel
theorem dX7_copyPlace_44 : decode cX7_copyPlace 44 = .ok (.iastore, 1) := by decide +kernel
theorem dX7_copyPlace_45 : decode cX7_copyPlace 45 = .ok (.return_, 1) := by decide +kernel
set_option maxRecDepth 20000 in
theorem ggX8_init_X5_init : GoodIn wsX8_init wsX5_init := goodIn_r _ [25, 26, 2, 3, 27, 28, 29, 30, 31, 32, 33, 34, 35, 36, 37, 38, 39, 40, 41, 42, 43, 44, 45, 46, 47, 48, 49, 50, 51, 52, 53, 54, 55, 56, 57, 58, 59, 60, 61, 62, 63, 115, 116, 117, 118, 119, 120, 86, 87, 88, 89, 90, 91, 92, 121, 122, 123, 124, 125, 126, 127] (by decide +kernel) (by decide +kernel)
set_option maxRecDepth 20000 in
theorem gX8_init_X5_init_n9 : GoodIn wsX8_init (wsX5_init) := ggX8_init_X5_init
set_option maxRecDepth 20000 in
theorem ggX8_init_X1_init : GoodIn wsX8_init wsX1_init := goodIn_r _ [65, 66, 2, 3, 67, 68, 99, 100] (by decide +kernel) (by decide +kernel)
set_option maxRecDepth 20000 in
theorem gX8_init_X1_init_n18 : GoodIn wsX8_init (wsX1_init) := ggX8_init_X1_init
set_option maxRecDepth 20000 in
theorem ggX8_init_X3_init : GoodIn wsX8_init wsX3_init := goodIn_r _ [70, 71, 2, 3, 39, 72, 73, 17, 18, 74, 75, 76, 77, 78, 79, 101, 102, 103, 104, 105, 106, 107, 108, 109, 110, 111] (by decide +kernel) (by decide +kernel)
set_option maxRecDepth 20000 in
theorem gX8_init_X3_init_n25 : GoodIn wsX8_init (wsX3_init) := ggX8_init_X3_init
set_option maxRecDepth 20000 in
theorem ggX8_init_X4_init : GoodIn wsX8_init wsX4_init := goodIn_r _ [76, 77, 2, 3, 39, 78, 79, 109, 110, 111] (by decide +kernel) (by decide +kernel)
set_option maxRecDepth 20000 in
theorem gX8_init_X4_init_n32 : GoodIn wsX8_init (wsX4_init) := ggX8_init_X4_init
set_option maxRecDepth 20000 in
theorem ggX8_init_X6_init : GoodIn wsX8_init wsX6_init := goodIn_r _ [81, 82, 2, 3, 39, 83, 84, 85, 112, 113, 114] (by decide +kernel) (by decide +kernel)
set_option maxRecDepth 20000 in
theorem gX8_init_X6_init_n39 : GoodIn wsX8_init (wsX6_init) := ggX8_init_X6_init
