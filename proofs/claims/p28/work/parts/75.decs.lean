set_option maxRecDepth 20000 in
theorem ggL_said_L_append : GoodIn wsL_said wsL_append := goodIn_ca (goodIn_ca (goodIn_r _ [5, 6, 7, 8, 9, 10, 11, 12, 13, 14, 15, 16, 17, 18, 19, 20, 21, 22, 23, 24, 25, 26, 27, 28, 29, 30, 31, 32, 33, 34, 35, 36, 37, 38, 39, 40, 41, 42] (by decide +kernel) (by decide +kernel)) (goodIn_sub (fun _ h => List.mem_cons_of_mem _ (List.mem_append_left _ (List.mem_append_right _ h))) (by decide +kernel))) (goodIn_sub (fun _ h => List.mem_cons_of_mem _ (List.mem_append_right _ h)) (by decide +kernel))
set_option maxRecDepth 20000 in
theorem gL_said_L_append : GoodIn wsL_said (va_wsS RL 66 yL_append wsL_append) := goodIn_app (goodIn_of _ (by decide +kernel)) ggL_said_L_append
theorem dL_said_0 : decode cL_said 0 = .ok (.aload_n 0, 1) := by decide +kernel
theorem dL_said_1 : decode cL_said 1 = .ok (.bipush 115, 2) := by decide +kernel
theorem dL_said_3 : decode cL_said 3 = .ok (.invokestatic 66, 3) := by decide +kernel
theorem dL_said_6 : decode cL_said 6 = .ok (.istore 5, 2) := by decide +kernel
theorem dL_said_8 : decode cL_said 8 = .ok (.aload_n 0, 1) := by decide +kernel
theorem dL_said_9 : decode cL_said 9 = .ok (.bipush 97, 2) := by decide +kernel
theorem dL_said_11 : decode cL_said 11 = .ok (.invokestatic 66, 3) := by decide +kernel
theorem dL_said_14 : decode cL_said 14 = .ok (.istore 5, 2) := by decide +kernel
theorem dL_said_16 : decode cL_said 16 = .ok (.aload_n 0, 1) := by decide +kernel
theorem dL_said_17 : decode cL_said 17 = .ok (.bipush 121, 2) := by decide +kernel
theorem dL_said_19 : decode cL_said 19 = .ok (.invokestatic 66, 3) := by decide +kernel
theorem dL_said_22 : decode cL_said 22 = .ok (.istore 5, 2) := by decide +kernel
theorem dL_said_24 : decode cL_said 24 = .ok (.iconst 0, 1) := by decide +kernel
theorem dL_said_25 : decode cL_said 25 = .ok (.istore 6, 2) := by decide +kernel
theorem dL_said_27 : decode cL_said 27 = .ok (.iload 6, 2) := by decide +kernel
theorem dL_said_29 : decode cL_said 29 = .ok (.iload_n 3, 1) := by decide +kernel
theorem dL_said_30 : decode cL_said 30 = .ok (.if_icmp .ge 80, 3) := by decide +kernel
theorem dL_said_33 : decode cL_said 33 = .ok (.lload_n 1, 1) := by decide +kernel
theorem dL_said_34 : decode cL_said 34 = .ok (.iconst 5, 1) := by decide +kernel
theorem dL_said_35 : decode cL_said 35 = .ok (.iload 6, 2) := by decide +kernel
theorem dL_said_37 : decode cL_said 37 = .ok (.imul, 1) := by decide +kernel
theorem dL_said_38 : decode cL_said 38 = .ok (.lshr, 1) := by decide +kernel
theorem dL_said_39 : decode cL_said 39 = .ok (.ldc2_w 71, 3) := by decide +kernel
theorem dL_said_42 : decode cL_said 42 = .ok (.land, 1) := by decide +kernel
theorem dL_said_43 : decode cL_said 43 = .ok (.l2i, 1) := by decide +kernel
theorem dL_said_44 : decode cL_said 44 = .ok (.istore 7, 2) := by decide +kernel
theorem dL_said_46 : decode cL_said 46 = .ok (.iload 6, 2) := by decide +kernel
theorem dL_said_48 : decode cL_said 48 = .ok (.ifCond .le 12, 3) := by decide +kernel
theorem dL_said_51 : decode cL_said 51 = .ok (.aload_n 0, 1) := by decide +kernel
theorem dL_said_52 : decode cL_said 52 = .ok (.bipush 44, 2) := by decide +kernel
theorem dL_said_54 : decode cL_said 54 = .ok (.invokestatic 66, 3) := by decide +kernel
theorem dL_said_57 : decode cL_said 57 = .ok (.goto 5, 3) := by decide +kernel
theorem dL_said_60 : decode cL_said 60 = .ok (.iload 5, 2) := by decide +kernel
theorem dL_said_62 : decode cL_said 62 = .ok (.istore 5, 2) := by decide +kernel
theorem dL_said_64 : decode cL_said 64 = .ok (.iload 7, 2) := by decide +kernel
theorem dL_said_66 : decode cL_said 66 = .ok (.bipush 9, 2) := by decide +kernel
theorem dL_said_68 : decode cL_said 68 = .ok (.if_icmp .le 18, 3) := by decide +kernel
theorem dL_said_71 : decode cL_said 71 = .ok (.aload_n 0, 1) := by decide +kernel
theorem dL_said_72 : decode cL_said 72 = .ok (.bipush 48, 2) := by decide +kernel
theorem dL_said_74 : decode cL_said 74 = .ok (.iload 7, 2) := by decide +kernel
theorem dL_said_76 : decode cL_said 76 = .ok (.bipush 10, 2) := by decide +kernel
theorem dL_said_78 : decode cL_said 78 = .ok (.idiv, 1) := by decide +kernel
theorem dL_said_79 : decode cL_said 79 = .ok (.iadd, 1) := by decide +kernel
theorem dL_said_80 : decode cL_said 80 = .ok (.invokestatic 66, 3) := by decide +kernel
theorem dL_said_83 : decode cL_said 83 = .ok (.goto 5, 3) := by decide +kernel
theorem dL_said_86 : decode cL_said 86 = .ok (.iload 5, 2) := by decide +kernel
theorem dL_said_88 : decode cL_said 88 = .ok (.istore 5, 2) := by decide +kernel
theorem dL_said_90 : decode cL_said 90 = .ok (.aload_n 0, 1) := by decide +kernel
theorem dL_said_91 : decode cL_said 91 = .ok (.bipush 48, 2) := by decide +kernel
theorem dL_said_93 : decode cL_said 93 = .ok (.iload 7, 2) := by decide +kernel
theorem dL_said_95 : decode cL_said 95 = .ok (.bipush 10, 2) := by decide +kernel
theorem dL_said_97 : decode cL_said 97 = .ok (.irem, 1) := by decide +kernel
theorem dL_said_98 : decode cL_said 98 = .ok (.iadd, 1) := by decide +kernel
theorem dL_said_99 : decode cL_said 99 = .ok (.invokestatic 66, 3) := by decide +kernel
theorem dL_said_102 : decode cL_said 102 = .ok (.istore 5, 2) := by decide +kernel
theorem dL_said_104 : decode cL_said 104 = .ok (.iinc 6 1, 3) := by decide +kernel
theorem dL_said_107 : decode cL_said 107 = .ok (.goto (-80), 3) := by decide +kernel
theorem dL_said_110 : decode cL_said 110 = .ok (.iload 4, 2) := by decide +kernel
theorem dL_said_112 : decode cL_said 112 = .ok (.iconst 1, 1) := by decide +kernel
theorem dL_said_113 : decode cL_said 113 = .ok (.if_icmp .le 12, 3) := by decide +kernel
theorem dL_said_116 : decode cL_said 116 = .ok (.aload_n 0, 1) := by decide +kernel
theorem dL_said_117 : decode cL_said 117 = .ok (.bipush 35, 2) := by decide +kernel
theorem dL_said_119 : decode cL_said 119 = .ok (.invokestatic 66, 3) := by decide +kernel
theorem dL_said_122 : decode cL_said 122 = .ok (.goto 5, 3) := by decide +kernel
theorem dL_said_125 : decode cL_said 125 = .ok (.iload 5, 2) := by decide +kernel
theorem dL_said_127 : decode cL_said 127 = .ok (.istore 5, 2) := by decide +kernel
theorem dL_said_129 : decode cL_said 129 = .ok (.iload 4, 2) := by decide +kernel
theorem dL_said_131 : decode cL_said 131 = .ok (.iconst 1, 1) := by decide +kernel
theorem dL_said_132 : decode cL_said 132 = .ok (.if_icmp .le 15, 3) := by decide +kernel
theorem dL_said_135 : decode cL_said 135 = .ok (.aload_n 0, 1) := by decide +kernel
theorem dL_said_136 : decode cL_said 136 = .ok (.bipush 48, 2) := by decide +kernel
theorem dL_said_138 : decode cL_said 138 = .ok (.iload 4, 2) := by decide +kernel
theorem dL_said_140 : decode cL_said 140 = .ok (.iadd, 1) := by decide +kernel
theorem dL_said_141 : decode cL_said 141 = .ok (.invokestatic 66, 3) := by decide +kernel
theorem dL_said_144 : decode cL_said 144 = .ok (.goto 5, 3) := by decide +kernel
theorem dL_said_147 : decode cL_said 147 = .ok (.iload 5, 2) := by decide +kernel
theorem dL_said_149 : decode cL_said 149 = .ok (.ireturn, 1) := by decide +kernel
