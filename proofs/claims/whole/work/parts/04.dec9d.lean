theorem dX9_part_200 : decode cX9_part 200 = .ok (.aload_n 0, 1) := by decide +kernel
theorem dX9_part_201 : decode cX9_part 201 = .ok (.dup, 1) := by decide +kernel
theorem dX9_part_202 : decode cX9_part 202 = .ok (.getfield 104, 3) := by decide +kernel
theorem dX9_part_205 : decode cX9_part 205 = .ok (.iconst 1, 1) := by decide +kernel
theorem dX9_part_206 : decode cX9_part 206 = .ok (.iadd, 1) := by decide +kernel
theorem dX9_part_207 : decode cX9_part 207 = .ok (.putfield 104, 3) := by decide +kernel
theorem dX9_part_210 : decode cX9_part 210 = .ok (.aload_n 0, 1) := by decide +kernel
theorem dX9_part_211 : decode cX9_part 211 = .ok (.bipush 101, 2) := by decide +kernel
theorem dX9_part_213 : decode cX9_part 213 = .ok (.invokevirtual 129, 3) := by decide +kernel
theorem dX9_part_216 : decode cX9_part 216 = .ok (.aload_n 0, 1) := by decide +kernel
theorem dX9_part_217 : decode cX9_part 217 = .ok (.bipush 97, 2) := by decide +kernel
theorem dX9_part_219 : decode cX9_part 219 = .ok (.invokevirtual 129, 3) := by decide +kernel
theorem dX9_part_222 : decode cX9_part 222 = .ok (.aload_n 0, 1) := by decide +kernel
theorem dX9_part_223 : decode cX9_part 223 = .ok (.bipush 99, 2) := by decide +kernel
theorem dX9_part_225 : decode cX9_part 225 = .ok (.invokevirtual 129, 3) := by decide +kernel
theorem dX9_part_228 : decode cX9_part 228 = .ok (.aload_n 0, 1) := by decide +kernel
theorem dX9_part_229 : decode cX9_part 229 = .ok (.bipush 104, 2) := by decide +kernel
theorem dX9_part_231 : decode cX9_part 231 = .ok (.invokevirtual 129, 3) := by decide +kernel
theorem dX9_part_234 : decode cX9_part 234 = .ok (.aload_n 0, 1) := by decide +kernel
theorem dX9_part_235 : decode cX9_part 235 = .ok (.aload_n 0, 1) := by decide +kernel
theorem dX9_part_236 : decode cX9_part 236 = .ok (.iconst 0, 1) := by decide +kernel
theorem dX9_part_237 : decode cX9_part 237 = .ok (.iconst 5, 1) := by decide +kernel
theorem dX9_part_238 : decode cX9_part 238 = .ok (.invokevirtual 114, 3) := by decide +kernel
theorem dX9_part_241 : decode cX9_part 241 = .ok (.putfield 123, 3) := by decide +kernel
theorem dX9_part_244 : decode cX9_part 244 = .ok (.aload_n 0, 1) := by decide +kernel
theorem dX9_part_245 : decode cX9_part 245 = .ok (.bipush 58, 2) := by decide +kernel
theorem dX9_part_247 : decode cX9_part 247 = .ok (.invokevirtual 129, 3) := by decide +kernel
theorem dX9_part_250 : decode cX9_part 250 = .ok (.aload_n 0, 1) := by decide +kernel
theorem dX9_part_251 : decode cX9_part 251 = .ok (.aload_n 0, 1) := by decide +kernel
theorem dX9_part_252 : decode cX9_part 252 = .ok (.invokevirtual 120, 3) := by decide +kernel
theorem dX9_part_255 : decode cX9_part 255 = .ok (.putfield 135, 3) := by decide +kernel
theorem dX9_part_258 : decode cX9_part 258 = .ok (.aload_n 0, 1) := by decide +kernel
theorem dX9_part_259 : decode cX9_part 259 = .ok (.bipush 61, 2) := by decide +kernel
theorem dX9_part_261 : decode cX9_part 261 = .ok (.invokevirtual 129, 3) := by decide +kernel
theorem dX9_part_264 : decode cX9_part 264 = .ok (.aload_n 0, 1) := by decide +kernel
theorem dX9_part_265 : decode cX9_part 265 = .ok (.getfield 107, 3) := by decide +kernel
theorem dX9_part_268 : decode cX9_part 268 = .ok (.ifCond .ne 30, 3) := by decide +kernel
theorem dX9_part_271 : decode cX9_part 271 = .ok (.aload_n 0, 1) := by decide +kernel
theorem dX9_part_272 : decode cX9_part 272 = .ok (.invokevirtual 110, 3) := by decide +kernel
theorem dX9_part_275 : decode cX9_part 275 = .ok (.bipush 63, 2) := by decide +kernel
theorem dX9_part_277 : decode cX9_part 277 = .ok (.if_icmp .ne 21, 3) := by decide +kernel
theorem dX9_part_280 : decode cX9_part 280 = .ok (.aload_n 0, 1) := by decide +kernel
theorem dX9_part_281 : decode cX9_part 281 = .ok (.dup, 1) := by decide +kernel
theorem dX9_part_282 : decode cX9_part 282 = .ok (.getfield 104, 3) := by decide +kernel
theorem dX9_part_285 : decode cX9_part 285 = .ok (.iconst 1, 1) := by decide +kernel
theorem dX9_part_286 : decode cX9_part 286 = .ok (.iadd, 1) := by decide +kernel
theorem dX9_part_287 : decode cX9_part 287 = .ok (.putfield 104, 3) := by decide +kernel
theorem dX9_part_290 : decode cX9_part 290 = .ok (.aload_n 0, 1) := by decide +kernel
theorem dX9_part_291 : decode cX9_part 291 = .ok (.iconst (-1), 1) := by decide +kernel
theorem dX9_part_292 : decode cX9_part 292 = .ok (.putfield 138, 3) := by decide +kernel
theorem dX9_part_295 : decode cX9_part 295 = .ok (.goto 19, 3) := by decide +kernel
theorem dX9_part_298 : decode cX9_part 298 = .ok (.aload_n 0, 1) := by decide +kernel
theorem dX9_part_299 : decode cX9_part 299 = .ok (.aload_n 0, 1) := by decide +kernel
theorem dX9_part_300 : decode cX9_part 300 = .ok (.invokevirtual 120, 3) := by decide +kernel
theorem dX9_part_303 : decode cX9_part 303 = .ok (.putfield 138, 3) := by decide +kernel
theorem dX9_part_306 : decode cX9_part 306 = .ok (.goto 8, 3) := by decide +kernel
theorem dX9_part_309 : decode cX9_part 309 = .ok (.aload_n 0, 1) := by decide +kernel
theorem dX9_part_310 : decode cX9_part 310 = .ok (.iconst 1, 1) := by decide +kernel
theorem dX9_part_311 : decode cX9_part 311 = .ok (.putfield 107, 3) := by decide +kernel
theorem dX9_part_314 : decode cX9_part 314 = .ok (.return_, 1) := by decide +kernel
set_option maxRecDepth 20000 in
theorem ggX9_isWhole_X9_part : GoodIn wsX9_isWhole wsX9_part := goodIn_r _ [8, 2, 9, 1, 10, 11, 12, 13, 14, 15, 7, 16, 3, 17, 18, 19, 20, 21, 22, 23, 24, 25, 26, 27, 28, 29, 30, 31, 32, 33, 34, 35, 36, 37, 38, 39, 40, 41, 42, 43, 44, 45, 46, 47, 48, 49, 50, 51, 52, 53, 54, 55, 56, 57, 58, 59, 60] rfl (by decide +kernel)
set_option maxRecDepth 20000 in
theorem gX9_isWhole_X9_part : GoodIn wsX9_isWhole (wsV RX9 141 RX9 yX9_part wsX9_part) := goodIn_app (goodIn_of _ (by decide +kernel)) ggX9_isWhole_X9_part
set_option maxRecDepth 20000 in
theorem ggX9_isWhole_X9_sign : GoodIn wsX9_isWhole wsX9_sign := goodIn_r _ [21, 2, 1, 13, 14, 15, 7, 16, 3, 17, 39, 40, 41, 42, 43, 44, 45, 46, 47, 48, 49, 50, 51, 52, 53, 54, 55, 56, 57, 58, 59, 60] rfl (by decide +kernel)
set_option maxRecDepth 20000 in
theorem gX9_isWhole_X9_sign : GoodIn wsX9_isWhole (wsV RX9 129 RX9 yX9_sign wsX9_sign) := goodIn_app (goodIn_of _ (by decide +kernel)) ggX9_isWhole_X9_sign
theorem dX9_isWhole_0 : decode cX9_isWhole 0 = .ok (.aload_n 0, 1) := by decide +kernel
theorem dX9_isWhole_1 : decode cX9_isWhole 1 = .ok (.iconst 0, 1) := by decide +kernel
theorem dX9_isWhole_2 : decode cX9_isWhole 2 = .ok (.putfield 104, 3) := by decide +kernel
theorem dX9_isWhole_5 : decode cX9_isWhole 5 = .ok (.aload_n 0, 1) := by decide +kernel
theorem dX9_isWhole_6 : decode cX9_isWhole 6 = .ok (.iconst 0, 1) := by decide +kernel
theorem dX9_isWhole_7 : decode cX9_isWhole 7 = .ok (.putfield 107, 3) := by decide +kernel
theorem dX9_isWhole_10 : decode cX9_isWhole 10 = .ok (.iconst 1, 1) := by decide +kernel
theorem dX9_isWhole_11 : decode cX9_isWhole 11 = .ok (.istore_n 1, 1) := by decide +kernel
theorem dX9_isWhole_12 : decode cX9_isWhole 12 = .ok (.iload_n 1, 1) := by decide +kernel
theorem dX9_isWhole_13 : decode cX9_isWhole 13 = .ok (.ifCond .eq 57, 3) := by decide +kernel
theorem dX9_isWhole_16 : decode cX9_isWhole 16 = .ok (.aload_n 0, 1) := by decide +kernel
theorem dX9_isWhole_17 : decode cX9_isWhole 17 = .ok (.invokevirtual 141, 3) := by decide +kernel
theorem dX9_isWhole_20 : decode cX9_isWhole 20 = .ok (.aload_n 0, 1) := by decide +kernel
theorem dX9_isWhole_21 : decode cX9_isWhole 21 = .ok (.getfield 107, 3) := by decide +kernel
theorem dX9_isWhole_24 : decode cX9_isWhole 24 = .ok (.ifCond .ne 18, 3) := by decide +kernel
theorem dX9_isWhole_27 : decode cX9_isWhole 27 = .ok (.aload_n 0, 1) := by decide +kernel
theorem dX9_isWhole_28 : decode cX9_isWhole 28 = .ok (.getfield 104, 3) := by decide +kernel
theorem dX9_isWhole_31 : decode cX9_isWhole 31 = .ok (.aload_n 0, 1) := by decide +kernel
theorem dX9_isWhole_32 : decode cX9_isWhole 32 = .ok (.getfield 101, 3) := by decide +kernel
theorem dX9_isWhole_35 : decode cX9_isWhole 35 = .ok (.if_icmp .ge 7, 3) := by decide +kernel
theorem dX9_isWhole_38 : decode cX9_isWhole 38 = .ok (.iconst 1, 1) := by decide +kernel
theorem dX9_isWhole_39 : decode cX9_isWhole 39 = .ok (.goto 4, 3) := by decide +kernel
theorem dX9_isWhole_42 : decode cX9_isWhole 42 = .ok (.iconst 0, 1) := by decide +kernel
theorem dX9_isWhole_43 : decode cX9_isWhole 43 = .ok (.istore_n 1, 1) := by decide +kernel
theorem dX9_isWhole_44 : decode cX9_isWhole 44 = .ok (.iload_n 1, 1) := by decide +kernel
theorem dX9_isWhole_45 : decode cX9_isWhole 45 = .ok (.ifCond .eq (-33), 3) := by decide +kernel
theorem dX9_isWhole_48 : decode cX9_isWhole 48 = .ok (.aload_n 0, 1) := by decide +kernel
theorem dX9_isWhole_49 : decode cX9_isWhole 49 = .ok (.bipush 59, 2) := by decide +kernel
theorem dX9_isWhole_51 : decode cX9_isWhole 51 = .ok (.invokevirtual 129, 3) := by decide +kernel
theorem dX9_isWhole_54 : decode cX9_isWhole 54 = .ok (.aload_n 0, 1) := by decide +kernel
theorem dX9_isWhole_55 : decode cX9_isWhole 55 = .ok (.getfield 107, 3) := by decide +kernel
theorem dX9_isWhole_58 : decode cX9_isWhole 58 = .ok (.ifCond .ne 7, 3) := by decide +kernel
theorem dX9_isWhole_61 : decode cX9_isWhole 61 = .ok (.iconst 1, 1) := by decide +kernel
theorem dX9_isWhole_62 : decode cX9_isWhole 62 = .ok (.goto 4, 3) := by decide +kernel
theorem dX9_isWhole_65 : decode cX9_isWhole 65 = .ok (.iconst 0, 1) := by decide +kernel
theorem dX9_isWhole_66 : decode cX9_isWhole 66 = .ok (.istore_n 1, 1) := by decide +kernel
theorem dX9_isWhole_67 : decode cX9_isWhole 67 = .ok (.goto (-55), 3) := by decide +kernel
theorem dX9_isWhole_70 : decode cX9_isWhole 70 = .ok (.aload_n 0, 1) := by decide +kernel
theorem dX9_isWhole_71 : decode cX9_isWhole 71 = .ok (.getfield 107, 3) := by decide +kernel
theorem dX9_isWhole_74 : decode cX9_isWhole 74 = .ok (.ifCond .ne 7, 3) := by decide +kernel
theorem dX9_isWhole_77 : decode cX9_isWhole 77 = .ok (.iconst 1, 1) := by decide +kernel
theorem dX9_isWhole_78 : decode cX9_isWhole 78 = .ok (.goto 4, 3) := by decide +kernel
theorem dX9_isWhole_81 : decode cX9_isWhole 81 = .ok (.iconst 0, 1) := by decide +kernel
theorem dX9_isWhole_82 : decode cX9_isWhole 82 = .ok (.ireturn, 1) := by decide +kernel
set_option maxRecDepth 20000 in
theorem ggX9_firstError_X9_isWhole : GoodIn wsX9_firstError wsX9_isWhole := goodIn_r _ [8, 3, 9, 2, 10, 11, 12, 7, 13, 14, 15, 16, 17, 18, 19, 20, 21, 22, 23, 24, 25, 26, 27, 28, 29, 30, 31, 32, 33, 34, 35, 36, 37, 38, 39, 40, 41, 42, 43, 44, 45, 46, 47, 48, 49, 50, 51, 52, 53, 54, 55, 56, 57, 58, 59, 60, 61, 62, 63, 64, 65] rfl (by decide +kernel)
set_option maxRecDepth 20000 in
theorem gX9_firstError_X9_isWhole : GoodIn wsX9_firstError (wsV RX9 144 RX9 yX9_isWhole wsX9_isWhole) := goodIn_app (goodIn_of _ (by decide +kernel)) ggX9_firstError_X9_isWhole
theorem dX9_firstError_0 : decode cX9_firstError 0 = .ok (.aload_n 0, 1) := by decide +kernel
theorem dX9_firstError_1 : decode cX9_firstError 1 = .ok (.iconst 0, 1) := by decide +kernel
theorem dX9_firstError_2 : decode cX9_firstError 2 = .ok (.putfield 31, 3) := by decide +kernel
theorem dX9_firstError_5 : decode cX9_firstError 5 = .ok (.aload_n 0, 1) := by decide +kernel
theorem dX9_firstError_6 : decode cX9_firstError 6 = .ok (.invokevirtual 144, 3) := by decide +kernel
theorem dX9_firstError_9 : decode cX9_firstError 9 = .ok (.ifCond .eq 10, 3) := by decide +kernel
theorem dX9_firstError_12 : decode cX9_firstError 12 = .ok (.aload_n 0, 1) := by decide +kernel
theorem dX9_firstError_13 : decode cX9_firstError 13 = .ok (.getfield 101, 3) := by decide +kernel
theorem dX9_firstError_16 : decode cX9_firstError 16 = .ok (.goto 7, 3) := by decide +kernel
theorem dX9_firstError_19 : decode cX9_firstError 19 = .ok (.aload_n 0, 1) := by decide +kernel
theorem dX9_firstError_20 : decode cX9_firstError 20 = .ok (.getfield 104, 3) := by decide +kernel
theorem dX9_firstError_23 : decode cX9_firstError 23 = .ok (.ireturn, 1) := by decide +kernel
set_option maxRecDepth 20000 in
theorem ggX9_obeys_X9_goes : GoodIn wsX9_obeys wsX9_goes := goodIn_r _ [12, 2, 13, 14, 15, 16, 17, 18, 19, 20, 11, 21, 22, 23, 24, 25, 26, 27, 28, 29, 30, 31, 32, 33, 34, 35, 36, 37, 38, 39, 40, 41, 42, 43, 44, 45, 46, 47, 48, 49, 50, 51, 52, 53, 54, 55, 56, 57, 58, 59, 60, 61, 62, 63, 64, 65, 66, 67, 68] rfl (by decide +kernel)
set_option maxRecDepth 20000 in
theorem gX9_obeys_X9_goes : GoodIn wsX9_obeys (wsV RX9 98 RX9 yX9_goes wsX9_goes) := goodIn_app (goodIn_of _ (by decide +kernel)) ggX9_obeys_X9_goes
theorem dX9_obeys_0 : decode cX9_obeys 0 = .ok (.aload_n 0, 1) := by decide +kernel
theorem dX9_obeys_1 : decode cX9_obeys 1 = .ok (.getfield 126, 3) := by decide +kernel
theorem dX9_obeys_4 : decode cX9_obeys 4 = .ok (.lookupswitch 212 #[(101, 174), (102, 193), (103, 155), (115, 44)], 44) := by decide +kernel
theorem dX9_obeys_48 : decode cX9_obeys 48 = .ok (.aload_n 0, 1) := by decide +kernel
theorem dX9_obeys_49 : decode cX9_obeys 49 = .ok (.getfield 7, 3) := by decide +kernel
theorem dX9_obeys_52 : decode cX9_obeys 52 = .ok (.sipush 304, 3) := by decide +kernel
theorem dX9_obeys_55 : decode cX9_obeys 55 = .ok (.iaload, 1) := by decide +kernel
theorem dX9_obeys_56 : decode cX9_obeys 56 = .ok (.bipush 8, 2) := by decide +kernel
theorem dX9_obeys_58 : decode cX9_obeys 58 = .ok (.if_icmp .ne 5, 3) := by decide +kernel
theorem dX9_obeys_61 : decode cX9_obeys 61 = .ok (.iconst 1, 1) := by decide +kernel
theorem dX9_obeys_62 : decode cX9_obeys 62 = .ok (.ireturn, 1) := by decide +kernel
theorem dX9_obeys_63 : decode cX9_obeys 63 = .ok (.sipush 192, 3) := by decide +kernel
theorem dX9_obeys_66 : decode cX9_obeys 66 = .ok (.bipush 14, 2) := by decide +kernel
theorem dX9_obeys_68 : decode cX9_obeys 68 = .ok (.aload_n 0, 1) := by decide +kernel
theorem dX9_obeys_69 : decode cX9_obeys 69 = .ok (.getfield 7, 3) := by decide +kernel
theorem dX9_obeys_72 : decode cX9_obeys 72 = .ok (.sipush 304, 3) := by decide +kernel
theorem dX9_obeys_75 : decode cX9_obeys 75 = .ok (.iaload, 1) := by decide +kernel
theorem dX9_obeys_76 : decode cX9_obeys 76 = .ok (.imul, 1) := by decide +kernel
theorem dX9_obeys_77 : decode cX9_obeys 77 = .ok (.iadd, 1) := by decide +kernel
theorem dX9_obeys_78 : decode cX9_obeys 78 = .ok (.istore_n 1, 1) := by decide +kernel
theorem dX9_obeys_79 : decode cX9_obeys 79 = .ok (.aload_n 0, 1) := by decide +kernel
theorem dX9_obeys_80 : decode cX9_obeys 80 = .ok (.getfield 7, 3) := by decide +kernel
theorem dX9_obeys_83 : decode cX9_obeys 83 = .ok (.iload_n 1, 1) := by decide +kernel
theorem dX9_obeys_84 : decode cX9_obeys 84 = .ok (.iconst 0, 1) := by decide +kernel
theorem dX9_obeys_85 : decode cX9_obeys 85 = .ok (.iadd, 1) := by decide +kernel
theorem dX9_obeys_86 : decode cX9_obeys 86 = .ok (.aload_n 0, 1) := by decide +kernel
theorem dX9_obeys_87 : decode cX9_obeys 87 = .ok (.getfield 117, 3) := by decide +kernel
theorem dX9_obeys_90 : decode cX9_obeys 90 = .ok (.iastore, 1) := by decide +kernel
theorem dX9_obeys_91 : decode cX9_obeys 91 = .ok (.aload_n 0, 1) := by decide +kernel
theorem dX9_obeys_92 : decode cX9_obeys 92 = .ok (.getfield 7, 3) := by decide +kernel
theorem dX9_obeys_95 : decode cX9_obeys 95 = .ok (.iload_n 1, 1) := by decide +kernel
theorem dX9_obeys_96 : decode cX9_obeys 96 = .ok (.iconst 1, 1) := by decide +kernel
theorem dX9_obeys_97 : decode cX9_obeys 97 = .ok (.iadd, 1) := by decide +kernel
theorem dX9_obeys_98 : decode cX9_obeys 98 = .ok (.aload_n 0, 1) := by decide +kernel
theorem dX9_obeys_99 : decode cX9_obeys 99 = .ok (.getfield 123, 3) := by decide +kernel
theorem dX9_obeys_102 : decode cX9_obeys 102 = .ok (.iastore, 1) := by decide +kernel
theorem dX9_obeys_103 : decode cX9_obeys 103 = .ok (.iconst 0, 1) := by decide +kernel
theorem dX9_obeys_104 : decode cX9_obeys 104 = .ok (.istore_n 2, 1) := by decide +kernel
theorem dX9_obeys_105 : decode cX9_obeys 105 = .ok (.iload_n 2, 1) := by decide +kernel
theorem dX9_obeys_106 : decode cX9_obeys 106 = .ok (.bipush 12, 2) := by decide +kernel
theorem dX9_obeys_108 : decode cX9_obeys 108 = .ok (.if_icmp .ge 37, 3) := by decide +kernel
theorem dX9_obeys_111 : decode cX9_obeys 111 = .ok (.aload_n 0, 1) := by decide +kernel
theorem dX9_obeys_112 : decode cX9_obeys 112 = .ok (.getfield 7, 3) := by decide +kernel
theorem dX9_obeys_115 : decode cX9_obeys 115 = .ok (.iload_n 1, 1) := by decide +kernel
theorem dX9_obeys_116 : decode cX9_obeys 116 = .ok (.iconst 2, 1) := by decide +kernel
theorem dX9_obeys_117 : decode cX9_obeys 117 = .ok (.iadd, 1) := by decide +kernel
theorem dX9_obeys_118 : decode cX9_obeys 118 = .ok (.iload_n 2, 1) := by decide +kernel
theorem dX9_obeys_119 : decode cX9_obeys 119 = .ok (.iadd, 1) := by decide +kernel
theorem dX9_obeys_120 : decode cX9_obeys 120 = .ok (.iload_n 2, 1) := by decide +kernel
theorem dX9_obeys_121 : decode cX9_obeys 121 = .ok (.aload_n 0, 1) := by decide +kernel
theorem dX9_obeys_122 : decode cX9_obeys 122 = .ok (.getfield 117, 3) := by decide +kernel
theorem dX9_obeys_125 : decode cX9_obeys 125 = .ok (.if_icmp .ge 12, 3) := by decide +kernel
theorem dX9_obeys_128 : decode cX9_obeys 128 = .ok (.aload_n 0, 1) := by decide +kernel
theorem dX9_obeys_129 : decode cX9_obeys 129 = .ok (.getfield 28, 3) := by decide +kernel
theorem dX9_obeys_132 : decode cX9_obeys 132 = .ok (.iload_n 2, 1) := by decide +kernel
theorem dX9_obeys_133 : decode cX9_obeys 133 = .ok (.iaload, 1) := by decide +kernel
theorem dX9_obeys_134 : decode cX9_obeys 134 = .ok (.goto 4, 3) := by decide +kernel
theorem dX9_obeys_137 : decode cX9_obeys 137 = .ok (.iconst 0, 1) := by decide +kernel
theorem dX9_obeys_138 : decode cX9_obeys 138 = .ok (.iastore, 1) := by decide +kernel
theorem dX9_obeys_139 : decode cX9_obeys 139 = .ok (.iinc 2 1, 3) := by decide +kernel
theorem dX9_obeys_142 : decode cX9_obeys 142 = .ok (.goto (-37), 3) := by decide +kernel
theorem dX9_obeys_145 : decode cX9_obeys 145 = .ok (.aload_n 0, 1) := by decide +kernel
theorem dX9_obeys_146 : decode cX9_obeys 146 = .ok (.getfield 7, 3) := by decide +kernel
theorem dX9_obeys_149 : decode cX9_obeys 149 = .ok (.sipush 304, 3) := by decide +kernel
theorem dX9_obeys_152 : decode cX9_obeys 152 = .ok (.dup2, 1) := by decide +kernel
theorem dX9_obeys_153 : decode cX9_obeys 153 = .ok (.iaload, 1) := by decide +kernel
theorem dX9_obeys_154 : decode cX9_obeys 154 = .ok (.iconst 1, 1) := by decide +kernel
theorem dX9_obeys_155 : decode cX9_obeys 155 = .ok (.iadd, 1) := by decide +kernel
theorem dX9_obeys_156 : decode cX9_obeys 156 = .ok (.iastore, 1) := by decide +kernel
theorem dX9_obeys_157 : decode cX9_obeys 157 = .ok (.iconst 0, 1) := by decide +kernel
theorem dX9_obeys_158 : decode cX9_obeys 158 = .ok (.ireturn, 1) := by decide +kernel
theorem dX9_obeys_159 : decode cX9_obeys 159 = .ok (.aload_n 0, 1) := by decide +kernel
theorem dX9_obeys_160 : decode cX9_obeys 160 = .ok (.getfield 7, 3) := by decide +kernel
theorem dX9_obeys_163 : decode cX9_obeys 163 = .ok (.sipush 304, 3) := by decide +kernel
theorem dX9_obeys_166 : decode cX9_obeys 166 = .ok (.iaload, 1) := by decide +kernel
theorem dX9_obeys_167 : decode cX9_obeys 167 = .ok (.ifCond .ne 5, 3) := by decide +kernel
theorem dX9_obeys_170 : decode cX9_obeys 170 = .ok (.iconst 2, 1) := by decide +kernel
theorem dX9_obeys_171 : decode cX9_obeys 171 = .ok (.ireturn, 1) := by decide +kernel
theorem dX9_obeys_172 : decode cX9_obeys 172 = .ok (.aload_n 0, 1) := by decide +kernel
theorem dX9_obeys_173 : decode cX9_obeys 173 = .ok (.invokevirtual 98, 3) := by decide +kernel
theorem dX9_obeys_176 : decode cX9_obeys 176 = .ok (.iconst 0, 1) := by decide +kernel
theorem dX9_obeys_177 : decode cX9_obeys 177 = .ok (.ireturn, 1) := by decide +kernel
theorem dX9_obeys_178 : decode cX9_obeys 178 = .ok (.aload_n 0, 1) := by decide +kernel
theorem dX9_obeys_179 : decode cX9_obeys 179 = .ok (.getfield 7, 3) := by decide +kernel
theorem dX9_obeys_182 : decode cX9_obeys 182 = .ok (.sipush 180, 3) := by decide +kernel
theorem dX9_obeys_185 : decode cX9_obeys 185 = .ok (.aload_n 0, 1) := by decide +kernel
theorem dX9_obeys_186 : decode cX9_obeys 186 = .ok (.getfield 123, 3) := by decide +kernel
theorem dX9_obeys_189 : decode cX9_obeys 189 = .ok (.iadd, 1) := by decide +kernel
theorem dX9_obeys_190 : decode cX9_obeys 190 = .ok (.aload_n 0, 1) := by decide +kernel
theorem dX9_obeys_191 : decode cX9_obeys 191 = .ok (.getfield 135, 3) := by decide +kernel
theorem dX9_obeys_194 : decode cX9_obeys 194 = .ok (.iastore, 1) := by decide +kernel
theorem dX9_obeys_195 : decode cX9_obeys 195 = .ok (.iconst 0, 1) := by decide +kernel
theorem dX9_obeys_196 : decode cX9_obeys 196 = .ok (.ireturn, 1) := by decide +kernel
theorem dX9_obeys_197 : decode cX9_obeys 197 = .ok (.aload_n 0, 1) := by decide +kernel
theorem dX9_obeys_198 : decode cX9_obeys 198 = .ok (.getfield 7, 3) := by decide +kernel
theorem dX9_obeys_201 : decode cX9_obeys 201 = .ok (.sipush 186, 3) := by decide +kernel
theorem dX9_obeys_204 : decode cX9_obeys 204 = .ok (.aload_n 0, 1) := by decide +kernel
theorem dX9_obeys_205 : decode cX9_obeys 205 = .ok (.getfield 123, 3) := by decide +kernel
theorem dX9_obeys_208 : decode cX9_obeys 208 = .ok (.iadd, 1) := by decide +kernel
theorem dX9_obeys_209 : decode cX9_obeys 209 = .ok (.aload_n 0, 1) := by decide +kernel
theorem dX9_obeys_210 : decode cX9_obeys 210 = .ok (.getfield 135, 3) := by decide +kernel
theorem dX9_obeys_213 : decode cX9_obeys 213 = .ok (.iastore, 1) := by decide +kernel
theorem dX9_obeys_214 : decode cX9_obeys 214 = .ok (.iconst 0, 1) := by decide +kernel
theorem dX9_obeys_215 : decode cX9_obeys 215 = .ok (.ireturn, 1) := by decide +kernel
theorem dX9_obeys_216 : decode cX9_obeys 216 = .ok (.aload_n 0, 1) := by decide +kernel
theorem dX9_obeys_217 : decode cX9_obeys 217 = .ok (.getfield 7, 3) := by decide +kernel
theorem dX9_obeys_220 : decode cX9_obeys 220 = .ok (.iconst 0, 1) := by decide +kernel
theorem dX9_obeys_221 : decode cX9_obeys 221 = .ok (.bipush 30, 2) := by decide +kernel
theorem dX9_obeys_223 : decode cX9_obeys 223 = .ok (.aload_n 0, 1) := by decide +kernel
theorem dX9_obeys_224 : decode cX9_obeys 224 = .ok (.getfield 123, 3) := by decide +kernel
theorem dX9_obeys_227 : decode cX9_obeys 227 = .ok (.imul, 1) := by decide +kernel
theorem dX9_obeys_228 : decode cX9_obeys 228 = .ok (.iadd, 1) := by decide +kernel
theorem dX9_obeys_229 : decode cX9_obeys 229 = .ok (.aload_n 0, 1) := by decide +kernel
theorem dX9_obeys_230 : decode cX9_obeys 230 = .ok (.getfield 135, 3) := by decide +kernel
theorem dX9_obeys_233 : decode cX9_obeys 233 = .ok (.iadd, 1) := by decide +kernel
theorem dX9_obeys_234 : decode cX9_obeys 234 = .ok (.aload_n 0, 1) := by decide +kernel
theorem dX9_obeys_235 : decode cX9_obeys 235 = .ok (.getfield 138, 3) := by decide +kernel
theorem dX9_obeys_238 : decode cX9_obeys 238 = .ok (.iastore, 1) := by decide +kernel
theorem dX9_obeys_239 : decode cX9_obeys 239 = .ok (.iconst 0, 1) := by decide +kernel
theorem dX9_obeys_240 : decode cX9_obeys 240 = .ok (.ireturn, 1) := by decide +kernel
set_option maxRecDepth 20000 in
theorem ggX9_obey_X9_isWhole : GoodIn wsX9_obey wsX9_isWhole := goodIn_r _ [8, 1, 9, 2, 10, 11, 12, 7, 13, 14, 15, 16, 17, 18, 19, 20, 21, 22, 23, 24, 25, 26, 27, 28, 29, 30, 31, 32, 33, 34, 35, 36, 37, 38, 39, 40, 41, 42, 43, 97, 98, 99, 100, 101, 102, 103, 104, 105, 106, 107, 108, 109, 110, 111, 112, 113, 114, 115, 116, 117, 118] rfl (by decide +kernel)
set_option maxRecDepth 20000 in
theorem gX9_obey_X9_isWhole : GoodIn wsX9_obey (wsV RX9 144 RX9 yX9_isWhole wsX9_isWhole) := goodIn_app (goodIn_of _ (by decide +kernel)) ggX9_obey_X9_isWhole
set_option maxRecDepth 20000 in
theorem ggX9_obey_X9_refused : GoodIn wsX9_obey wsX9_refused := goodIn_r _ [47, 48, 97, 98, 99, 100, 101, 102, 103, 104, 105, 106, 107, 108, 109, 110, 111, 112, 113, 114, 115, 116, 117, 118] rfl (by decide +kernel)
set_option maxRecDepth 20000 in
theorem gX9_obey_X9_refused : GoodIn wsX9_obey (wsV RX9 53 RX9 yX9_refused wsX9_refused) := goodIn_app (goodIn_of _ (by decide +kernel)) ggX9_obey_X9_refused
set_option maxRecDepth 20000 in
theorem ggX9_obey_X9_saves : GoodIn wsX9_obey wsX9_saves := goodIn_r _ [52, 53, 54, 3, 97, 98, 99, 100, 101, 102, 103, 104, 105, 106, 107, 108, 109, 110, 111, 112, 113, 114, 115, 116, 117, 118] rfl (by decide +kernel)
set_option maxRecDepth 20000 in
theorem gX9_obey_X9_saves : GoodIn wsX9_obey (wsV RX9 56 RX9 yX9_saves wsX9_saves) := goodIn_app (goodIn_of _ (by decide +kernel)) ggX9_obey_X9_saves
set_option maxRecDepth 20000 in
theorem ggX9_obey_X9_part : GoodIn wsX9_obey wsX9_part := goodIn_r _ [13, 9, 14, 1, 15, 16, 17, 18, 19, 20, 7, 21, 2, 22, 23, 24, 25, 26, 27, 28, 29, 30, 31, 32, 33, 34, 35, 36, 37, 38, 39, 40, 41, 42, 43, 97, 98, 99, 100, 101, 102, 103, 104, 105, 106, 107, 108, 109, 110, 111, 112, 113, 114, 115, 116, 117, 118] rfl (by decide +kernel)
set_option maxRecDepth 20000 in
theorem gX9_obey_X9_part : GoodIn wsX9_obey (wsV RX9 141 RX9 yX9_part wsX9_part) := goodIn_app (goodIn_of _ (by decide +kernel)) ggX9_obey_X9_part
set_option maxRecDepth 20000 in
theorem ggX9_obey_X9_obeys : GoodIn wsX9_obey wsX9_obeys := goodIn_r _ [58, 14, 3, 31, 15, 32, 16, 17, 59, 60, 61, 7, 62, 63, 64, 65, 66, 67, 68, 69, 70, 71, 72, 73, 74, 75, 76, 77, 78, 79, 80, 81, 82, 83, 84, 85, 86, 87, 88, 89, 90, 91, 92, 93, 94, 95, 96, 97, 98, 99, 100, 101, 102, 103, 104, 105, 106, 107, 108, 109, 110, 111, 112, 113, 114, 115, 116, 117, 118] rfl (by decide +kernel)
set_option maxRecDepth 20000 in
theorem gX9_obey_X9_obeys : GoodIn wsX9_obey (wsV RX9 148 RX9 yX9_obeys wsX9_obeys) := goodIn_app (goodIn_of _ (by decide +kernel)) ggX9_obey_X9_obeys
theorem dX9_obey_0 : decode cX9_obey 0 = .ok (.aload_n 0, 1) := by decide +kernel
theorem dX9_obey_1 : decode cX9_obey 1 = .ok (.aload_n 0, 1) := by decide +kernel
theorem dX9_obey_2 : decode cX9_obey 2 = .ok (.invokevirtual 144, 3) := by decide +kernel
theorem dX9_obey_5 : decode cX9_obey 5 = .ok (.ifCond .eq 7, 3) := by decide +kernel
theorem dX9_obey_8 : decode cX9_obey 8 = .ok (.iconst 0, 1) := by decide +kernel
theorem dX9_obey_9 : decode cX9_obey 9 = .ok (.goto 4, 3) := by decide +kernel
theorem dX9_obey_12 : decode cX9_obey 12 = .ok (.iconst 1, 1) := by decide +kernel
theorem dX9_obey_13 : decode cX9_obey 13 = .ok (.invokevirtual 53, 3) := by decide +kernel
theorem dX9_obey_16 : decode cX9_obey 16 = .ok (.ifCond .eq 5, 3) := by decide +kernel
theorem dX9_obey_19 : decode cX9_obey 19 = .ok (.iconst 0, 1) := by decide +kernel
theorem dX9_obey_20 : decode cX9_obey 20 = .ok (.ireturn, 1) := by decide +kernel
theorem dX9_obey_21 : decode cX9_obey 21 = .ok (.aload_n 0, 1) := by decide +kernel
theorem dX9_obey_22 : decode cX9_obey 22 = .ok (.invokevirtual 56, 3) := by decide +kernel
theorem dX9_obey_25 : decode cX9_obey 25 = .ok (.iconst 0, 1) := by decide +kernel
theorem dX9_obey_26 : decode cX9_obey 26 = .ok (.istore_n 1, 1) := by decide +kernel
theorem dX9_obey_27 : decode cX9_obey 27 = .ok (.iconst 0, 1) := by decide +kernel
theorem dX9_obey_28 : decode cX9_obey 28 = .ok (.istore_n 2, 1) := by decide +kernel
theorem dX9_obey_29 : decode cX9_obey 29 = .ok (.aload_n 0, 1) := by decide +kernel
theorem dX9_obey_30 : decode cX9_obey 30 = .ok (.iconst 0, 1) := by decide +kernel
theorem dX9_obey_31 : decode cX9_obey 31 = .ok (.putfield 104, 3) := by decide +kernel
theorem dX9_obey_34 : decode cX9_obey 34 = .ok (.iload_n 2, 1) := by decide +kernel
theorem dX9_obey_35 : decode cX9_obey 35 = .ok (.ifCond .ne 48, 3) := by decide +kernel
theorem dX9_obey_38 : decode cX9_obey 38 = .ok (.aload_n 0, 1) := by decide +kernel
theorem dX9_obey_39 : decode cX9_obey 39 = .ok (.getfield 104, 3) := by decide +kernel
theorem dX9_obey_42 : decode cX9_obey 42 = .ok (.aload_n 0, 1) := by decide +kernel
theorem dX9_obey_43 : decode cX9_obey 43 = .ok (.getfield 101, 3) := by decide +kernel
theorem dX9_obey_46 : decode cX9_obey 46 = .ok (.if_icmp .ge 37, 3) := by decide +kernel
theorem dX9_obey_49 : decode cX9_obey 49 = .ok (.aload_n 0, 1) := by decide +kernel
theorem dX9_obey_50 : decode cX9_obey 50 = .ok (.invokevirtual 141, 3) := by decide +kernel
theorem dX9_obey_53 : decode cX9_obey 53 = .ok (.aload_n 0, 1) := by decide +kernel
theorem dX9_obey_54 : decode cX9_obey 54 = .ok (.dup, 1) := by decide +kernel
theorem dX9_obey_55 : decode cX9_obey 55 = .ok (.getfield 104, 3) := by decide +kernel
theorem dX9_obey_58 : decode cX9_obey 58 = .ok (.iconst 1, 1) := by decide +kernel
theorem dX9_obey_59 : decode cX9_obey 59 = .ok (.iadd, 1) := by decide +kernel
theorem dX9_obey_60 : decode cX9_obey 60 = .ok (.putfield 104, 3) := by decide +kernel
theorem dX9_obey_63 : decode cX9_obey 63 = .ok (.aload_n 0, 1) := by decide +kernel
theorem dX9_obey_64 : decode cX9_obey 64 = .ok (.invokevirtual 148, 3) := by decide +kernel
theorem dX9_obey_67 : decode cX9_obey 67 = .ok (.istore_n 2, 1) := by decide +kernel
theorem dX9_obey_68 : decode cX9_obey 68 = .ok (.iload_n 1, 1) := by decide +kernel
theorem dX9_obey_69 : decode cX9_obey 69 = .ok (.iload_n 2, 1) := by decide +kernel
theorem dX9_obey_70 : decode cX9_obey 70 = .ok (.ifCond .ne 7, 3) := by decide +kernel
theorem dX9_obey_73 : decode cX9_obey 73 = .ok (.iconst 1, 1) := by decide +kernel
theorem dX9_obey_74 : decode cX9_obey 74 = .ok (.goto 4, 3) := by decide +kernel
theorem dX9_obey_77 : decode cX9_obey 77 = .ok (.iconst 0, 1) := by decide +kernel
theorem dX9_obey_78 : decode cX9_obey 78 = .ok (.iadd, 1) := by decide +kernel
theorem dX9_obey_79 : decode cX9_obey 79 = .ok (.istore_n 1, 1) := by decide +kernel
theorem dX9_obey_80 : decode cX9_obey 80 = .ok (.goto (-46), 3) := by decide +kernel
theorem dX9_obey_83 : decode cX9_obey 83 = .ok (.aload_n 0, 1) := by decide +kernel
theorem dX9_obey_84 : decode cX9_obey 84 = .ok (.getfield 7, 3) := by decide +kernel
theorem dX9_obey_87 : decode cX9_obey 87 = .ok (.sipush 458, 3) := by decide +kernel
theorem dX9_obey_90 : decode cX9_obey 90 = .ok (.iload_n 2, 1) := by decide +kernel
theorem dX9_obey_91 : decode cX9_obey 91 = .ok (.ifCond .ne 7, 3) := by decide +kernel
theorem dX9_obey_94 : decode cX9_obey 94 = .ok (.iconst 0, 1) := by decide +kernel
theorem dX9_obey_95 : decode cX9_obey 95 = .ok (.goto 6, 3) := by decide +kernel
theorem dX9_obey_98 : decode cX9_obey 98 = .ok (.iload_n 1, 1) := by decide +kernel
theorem dX9_obey_99 : decode cX9_obey 99 = .ok (.iconst 1, 1) := by decide +kernel
theorem dX9_obey_100 : decode cX9_obey 100 = .ok (.iadd, 1) := by decide +kernel
theorem dX9_obey_101 : decode cX9_obey 101 = .ok (.iastore, 1) := by decide +kernel
theorem dX9_obey_102 : decode cX9_obey 102 = .ok (.aload_n 0, 1) := by decide +kernel
theorem dX9_obey_103 : decode cX9_obey 103 = .ok (.getfield 7, 3) := by decide +kernel
theorem dX9_obey_106 : decode cX9_obey 106 = .ok (.sipush 459, 3) := by decide +kernel
theorem dX9_obey_109 : decode cX9_obey 109 = .ok (.iload_n 2, 1) := by decide +kernel
theorem dX9_obey_110 : decode cX9_obey 110 = .ok (.iastore, 1) := by decide +kernel
theorem dX9_obey_111 : decode cX9_obey 111 = .ok (.aload_n 0, 1) := by decide +kernel
theorem dX9_obey_112 : decode cX9_obey 112 = .ok (.iconst 0, 1) := by decide +kernel
theorem dX9_obey_113 : decode cX9_obey 113 = .ok (.putfield 101, 3) := by decide +kernel
theorem dX9_obey_116 : decode cX9_obey 116 = .ok (.iload_n 1, 1) := by decide +kernel
theorem dX9_obey_117 : decode cX9_obey 117 = .ok (.ireturn, 1) := by decide +kernel
theorem dX9_stop_0 : decode cX9_stop 0 = .ok (.aload_n 0, 1) := by decide +kernel
theorem dX9_stop_1 : decode cX9_stop 1 = .ok (.getfield 7, 3) := by decide +kernel
theorem dX9_stop_4 : decode cX9_stop 4 = .ok (.sipush 458, 3) := by decide +kernel
theorem dX9_stop_7 : decode cX9_stop 7 = .ok (.iaload, 1) := by decide +kernel
theorem dX9_stop_8 : decode cX9_stop 8 = .ok (.ifCond .ne 7, 3) := by decide +kernel
theorem dX9_stop_11 : decode cX9_stop 11 = .ok (.iconst (-1), 1) := by decide +kernel
theorem dX9_stop_12 : decode cX9_stop 12 = .ok (.goto 28, 3) := by decide +kernel
theorem dX9_stop_15 : decode cX9_stop 15 = .ok (.iload_n 1, 1) := by decide +kernel
theorem dX9_stop_16 : decode cX9_stop 16 = .ok (.ifCond .ne 16, 3) := by decide +kernel
theorem dX9_stop_19 : decode cX9_stop 19 = .ok (.aload_n 0, 1) := by decide +kernel
theorem dX9_stop_20 : decode cX9_stop 20 = .ok (.getfield 7, 3) := by decide +kernel
theorem dX9_stop_23 : decode cX9_stop 23 = .ok (.sipush 458, 3) := by decide +kernel
theorem dX9_stop_26 : decode cX9_stop 26 = .ok (.iaload, 1) := by decide +kernel
theorem dX9_stop_27 : decode cX9_stop 27 = .ok (.iconst 1, 1) := by decide +kernel
theorem dX9_stop_28 : decode cX9_stop 28 = .ok (.isub, 1) := by decide +kernel
theorem dX9_stop_29 : decode cX9_stop 29 = .ok (.goto 11, 3) := by decide +kernel
theorem dX9_stop_32 : decode cX9_stop 32 = .ok (.aload_n 0, 1) := by decide +kernel
theorem dX9_stop_33 : decode cX9_stop 33 = .ok (.getfield 7, 3) := by decide +kernel
theorem dX9_stop_36 : decode cX9_stop 36 = .ok (.sipush 459, 3) := by decide +kernel
theorem dX9_stop_39 : decode cX9_stop 39 = .ok (.iaload, 1) := by decide +kernel
theorem dX9_stop_40 : decode cX9_stop 40 = .ok (.ireturn, 1) := by decide +kernel
set_option maxRecDepth 20000 in
theorem ggX9_stopped_X9_in : GoodIn wsX9_stopped wsX9_in := goodIn_r _ [4] rfl (by decide +kernel)
set_option maxRecDepth 20000 in
theorem gX9_stopped_X9_in : GoodIn wsX9_stopped (va_wsS RX9 35 yX9_in wsX9_in) := goodIn_app (goodIn_of _ (by decide +kernel)) ggX9_stopped_X9_in
set_option maxRecDepth 20000 in
theorem ggX9_stopped_X9_refused : GoodIn wsX9_stopped wsX9_refused := goodIn_r _ [8, 9, 15, 16, 17, 18, 19, 20, 21, 22, 23, 24, 25, 26, 27, 28, 29, 30, 31, 32, 33, 34, 35, 36] rfl (by decide +kernel)
set_option maxRecDepth 20000 in
theorem gX9_stopped_X9_refused : GoodIn wsX9_stopped (wsV RX9 53 RX9 yX9_refused wsX9_refused) := goodIn_app (goodIn_of _ (by decide +kernel)) ggX9_stopped_X9_refused
set_option maxRecDepth 20000 in
theorem ggX9_stopped_X9_stop : GoodIn wsX9_stopped wsX9_stop := goodIn_r _ [13, 14, 15, 16, 17, 18, 19, 20, 21, 22, 23, 24, 25, 26, 27, 28, 29, 30, 31, 32, 33, 34, 35, 36] rfl (by decide +kernel)
set_option maxRecDepth 20000 in
theorem gX9_stopped_X9_stop : GoodIn wsX9_stopped (wsV RX9 151 RX9 yX9_stop wsX9_stop) := goodIn_app (goodIn_of _ (by decide +kernel)) ggX9_stopped_X9_stop
theorem dX9_stopped_0 : decode cX9_stopped 0 = .ok (.aload_n 0, 1) := by decide +kernel
theorem dX9_stopped_1 : decode cX9_stopped 1 = .ok (.iload_n 1, 1) := by decide +kernel
theorem dX9_stopped_2 : decode cX9_stopped 2 = .ok (.iconst 0, 1) := by decide +kernel
theorem dX9_stopped_3 : decode cX9_stopped 3 = .ok (.iconst 1, 1) := by decide +kernel
theorem dX9_stopped_4 : decode cX9_stopped 4 = .ok (.invokestatic 35, 3) := by decide +kernel
theorem dX9_stopped_7 : decode cX9_stopped 7 = .ok (.ifCond .eq 7, 3) := by decide +kernel
theorem dX9_stopped_10 : decode cX9_stopped 10 = .ok (.iconst 0, 1) := by decide +kernel
theorem dX9_stopped_11 : decode cX9_stopped 11 = .ok (.goto 4, 3) := by decide +kernel
theorem dX9_stopped_14 : decode cX9_stopped 14 = .ok (.iconst 1, 1) := by decide +kernel
theorem dX9_stopped_15 : decode cX9_stopped 15 = .ok (.invokevirtual 53, 3) := by decide +kernel
theorem dX9_stopped_18 : decode cX9_stopped 18 = .ok (.ifCond .eq 5, 3) := by decide +kernel
theorem dX9_stopped_21 : decode cX9_stopped 21 = .ok (.iconst 0, 1) := by decide +kernel
theorem dX9_stopped_22 : decode cX9_stopped 22 = .ok (.ireturn, 1) := by decide +kernel
theorem dX9_stopped_23 : decode cX9_stopped 23 = .ok (.aload_n 0, 1) := by decide +kernel
theorem dX9_stopped_24 : decode cX9_stopped 24 = .ok (.iload_n 1, 1) := by decide +kernel
theorem dX9_stopped_25 : decode cX9_stopped 25 = .ok (.invokevirtual 151, 3) := by decide +kernel
theorem dX9_stopped_28 : decode cX9_stopped 28 = .ok (.ireturn, 1) := by decide +kernel
theorem dX9_came_0 : decode cX9_came 0 = .ok (.aload_n 0, 1) := by decide +kernel
theorem dX9_came_1 : decode cX9_came 1 = .ok (.getfield 7, 3) := by decide +kernel
theorem dX9_came_4 : decode cX9_came 4 = .ok (.sipush 306, 3) := by decide +kernel
theorem dX9_came_7 : decode cX9_came 7 = .ok (.bipush 17, 2) := by decide +kernel
theorem dX9_came_9 : decode cX9_came 9 = .ok (.iload_n 1, 1) := by decide +kernel
theorem dX9_came_10 : decode cX9_came 10 = .ok (.imul, 1) := by decide +kernel
theorem dX9_came_11 : decode cX9_came 11 = .ok (.iadd, 1) := by decide +kernel
theorem dX9_came_12 : decode cX9_came 12 = .ok (.iload_n 2, 1) := by decide +kernel
theorem dX9_came_13 : decode cX9_came 13 = .ok (.iadd, 1) := by decide +kernel
theorem dX9_came_14 : decode cX9_came 14 = .ok (.iaload, 1) := by decide +kernel
theorem dX9_came_15 : decode cX9_came 15 = .ok (.ireturn, 1) := by decide +kernel
set_option maxRecDepth 20000 in
theorem ggX9_character_X9_came : GoodIn wsX9_character wsX9_came := goodIn_r _ [5, 6, 7, 8, 9, 10, 11, 12, 13, 14, 15, 16, 17, 18, 19, 20, 21, 22, 23, 24, 25, 26, 27, 28] rfl (by decide +kernel)
set_option maxRecDepth 20000 in
theorem gX9_character_X9_came : GoodIn wsX9_character (wsV RX9 154 RX9 yX9_came wsX9_came) := goodIn_app (goodIn_of _ (by decide +kernel)) ggX9_character_X9_came
theorem dX9_character_0 : decode cX9_character 0 = .ok (.iload_n 2, 1) := by decide +kernel
theorem dX9_character_1 : decode cX9_character 1 = .ok (.istore_n 3, 1) := by decide +kernel
theorem dX9_character_2 : decode cX9_character 2 = .ok (.iconst 0, 1) := by decide +kernel
theorem dX9_character_3 : decode cX9_character 3 = .ok (.istore 4, 2) := by decide +kernel
theorem dX9_character_5 : decode cX9_character 5 = .ok (.iload 4, 2) := by decide +kernel
theorem dX9_character_7 : decode cX9_character 7 = .ok (.aload_n 0, 1) := by decide +kernel
theorem dX9_character_8 : decode cX9_character 8 = .ok (.iload_n 1, 1) := by decide +kernel
theorem dX9_character_9 : decode cX9_character 9 = .ok (.iconst 0, 1) := by decide +kernel
theorem dX9_character_10 : decode cX9_character 10 = .ok (.invokevirtual 154, 3) := by decide +kernel
theorem dX9_character_13 : decode cX9_character 13 = .ok (.if_icmp .ge 117, 3) := by decide +kernel
theorem dX9_character_16 : decode cX9_character 16 = .ok (.aload_n 0, 1) := by decide +kernel
theorem dX9_character_17 : decode cX9_character 17 = .ok (.iload_n 1, 1) := by decide +kernel
theorem dX9_character_18 : decode cX9_character 18 = .ok (.iconst 1, 1) := by decide +kernel
theorem dX9_character_19 : decode cX9_character 19 = .ok (.iload 4, 2) := by decide +kernel
theorem dX9_character_21 : decode cX9_character 21 = .ok (.iadd, 1) := by decide +kernel
theorem dX9_character_22 : decode cX9_character 22 = .ok (.invokevirtual 154, 3) := by decide +kernel
theorem dX9_character_25 : decode cX9_character 25 = .ok (.istore 5, 2) := by decide +kernel
theorem dX9_character_27 : decode cX9_character 27 = .ok (.iload 5, 2) := by decide +kernel
theorem dX9_character_29 : decode cX9_character 29 = .ok (.bipush 9, 2) := by decide +kernel
theorem dX9_character_31 : decode cX9_character 31 = .ok (.if_icmp .le 14, 3) := by decide +kernel
theorem dX9_character_34 : decode cX9_character 34 = .ok (.iload 5, 2) := by decide +kernel
theorem dX9_character_36 : decode cX9_character 36 = .ok (.bipush 30, 2) := by decide +kernel
theorem dX9_character_38 : decode cX9_character 38 = .ok (.if_icmp .eq 7, 3) := by decide +kernel
theorem dX9_character_41 : decode cX9_character 41 = .ok (.iconst 2, 1) := by decide +kernel
theorem dX9_character_42 : decode cX9_character 42 = .ok (.goto 4, 3) := by decide +kernel
theorem dX9_character_45 : decode cX9_character 45 = .ok (.iconst 1, 1) := by decide +kernel
theorem dX9_character_46 : decode cX9_character 46 = .ok (.istore 6, 2) := by decide +kernel
theorem dX9_character_48 : decode cX9_character 48 = .ok (.iload_n 3, 1) := by decide +kernel
theorem dX9_character_49 : decode cX9_character 49 = .ok (.iload 6, 2) := by decide +kernel
theorem dX9_character_51 : decode cX9_character 51 = .ok (.if_icmp .ge 45, 3) := by decide +kernel
theorem dX9_character_54 : decode cX9_character 54 = .ok (.iload 5, 2) := by decide +kernel
theorem dX9_character_56 : decode cX9_character 56 = .ok (.bipush 30, 2) := by decide +kernel
theorem dX9_character_58 : decode cX9_character 58 = .ok (.if_icmp .ne 8, 3) := by decide +kernel
theorem dX9_character_61 : decode cX9_character 61 = .ok (.bipush 63, 2) := by decide +kernel
theorem dX9_character_63 : decode cX9_character 63 = .ok (.goto 32, 3) := by decide +kernel
theorem dX9_character_66 : decode cX9_character 66 = .ok (.iload 6, 2) := by decide +kernel
theorem dX9_character_68 : decode cX9_character 68 = .ok (.iconst 2, 1) := by decide +kernel
theorem dX9_character_69 : decode cX9_character 69 = .ok (.if_icmp .ne 18, 3) := by decide +kernel
theorem dX9_character_72 : decode cX9_character 72 = .ok (.iload_n 3, 1) := by decide +kernel
theorem dX9_character_73 : decode cX9_character 73 = .ok (.ifCond .ne 14, 3) := by decide +kernel
theorem dX9_character_76 : decode cX9_character 76 = .ok (.bipush 48, 2) := by decide +kernel
theorem dX9_character_78 : decode cX9_character 78 = .ok (.iload 5, 2) := by decide +kernel
theorem dX9_character_80 : decode cX9_character 80 = .ok (.bipush 10, 2) := by decide +kernel
theorem dX9_character_82 : decode cX9_character 82 = .ok (.idiv, 1) := by decide +kernel
theorem dX9_character_83 : decode cX9_character 83 = .ok (.iadd, 1) := by decide +kernel
theorem dX9_character_84 : decode cX9_character 84 = .ok (.goto 11, 3) := by decide +kernel
theorem dX9_character_87 : decode cX9_character 87 = .ok (.bipush 48, 2) := by decide +kernel
theorem dX9_character_89 : decode cX9_character 89 = .ok (.iload 5, 2) := by decide +kernel
theorem dX9_character_91 : decode cX9_character 91 = .ok (.bipush 10, 2) := by decide +kernel
theorem dX9_character_93 : decode cX9_character 93 = .ok (.irem, 1) := by decide +kernel
theorem dX9_character_94 : decode cX9_character 94 = .ok (.iadd, 1) := by decide +kernel
theorem dX9_character_95 : decode cX9_character 95 = .ok (.ireturn, 1) := by decide +kernel
theorem dX9_character_96 : decode cX9_character 96 = .ok (.iload_n 3, 1) := by decide +kernel
theorem dX9_character_97 : decode cX9_character 97 = .ok (.iload 6, 2) := by decide +kernel
theorem dX9_character_99 : decode cX9_character 99 = .ok (.isub, 1) := by decide +kernel
theorem dX9_character_100 : decode cX9_character 100 = .ok (.istore_n 3, 1) := by decide +kernel
theorem dX9_character_101 : decode cX9_character 101 = .ok (.iload_n 3, 1) := by decide +kernel
theorem dX9_character_102 : decode cX9_character 102 = .ok (.ifCond .ne 19, 3) := by decide +kernel
theorem dX9_character_105 : decode cX9_character 105 = .ok (.iload 4, 2) := by decide +kernel
theorem dX9_character_107 : decode cX9_character 107 = .ok (.iconst 1, 1) := by decide +kernel
