theorem dL_refuses_0 : decode cL_refuses 0 = .ok (.iload_n 1, 1) := by decide +kernel
theorem dL_refuses_1 : decode cL_refuses 1 = .ok (.iconst 2, 1) := by decide +kernel
theorem dL_refuses_2 : decode cL_refuses 2 = .ok (.irem, 1) := by decide +kernel
theorem dL_refuses_3 : decode cL_refuses 3 = .ok (.ifCond .ne 10, 3) := by decide +kernel
theorem dL_refuses_6 : decode cL_refuses 6 = .ok (.bipush 6, 2) := by decide +kernel
theorem dL_refuses_8 : decode cL_refuses 8 = .ok (.iload_n 1, 1) := by decide +kernel
theorem dL_refuses_9 : decode cL_refuses 9 = .ok (.iadd, 1) := by decide +kernel
theorem dL_refuses_10 : decode cL_refuses 10 = .ok (.goto 6, 3) := by decide +kernel
theorem dL_refuses_13 : decode cL_refuses 13 = .ok (.iconst (-1), 1) := by decide +kernel
theorem dL_refuses_14 : decode cL_refuses 14 = .ok (.iload_n 1, 1) := by decide +kernel
theorem dL_refuses_15 : decode cL_refuses 15 = .ok (.isub, 1) := by decide +kernel
theorem dL_refuses_16 : decode cL_refuses 16 = .ok (.istore_n 2, 1) := by decide +kernel
theorem dL_refuses_17 : decode cL_refuses 17 = .ok (.iload_n 1, 1) := by decide +kernel
theorem dL_refuses_18 : decode cL_refuses 18 = .ok (.iconst 2, 1) := by decide +kernel
theorem dL_refuses_19 : decode cL_refuses 19 = .ok (.irem, 1) := by decide +kernel
theorem dL_refuses_20 : decode cL_refuses 20 = .ok (.ifCond .ne 10, 3) := by decide +kernel
theorem dL_refuses_23 : decode cL_refuses 23 = .ok (.bipush 30, 2) := by decide +kernel
theorem dL_refuses_25 : decode cL_refuses 25 = .ok (.iload_n 1, 1) := by decide +kernel
theorem dL_refuses_26 : decode cL_refuses 26 = .ok (.iadd, 1) := by decide +kernel
theorem dL_refuses_27 : decode cL_refuses 27 = .ok (.goto 6, 3) := by decide +kernel
theorem dL_refuses_30 : decode cL_refuses 30 = .ok (.iconst (-1), 1) := by decide +kernel
theorem dL_refuses_31 : decode cL_refuses 31 = .ok (.iload_n 1, 1) := by decide +kernel
theorem dL_refuses_32 : decode cL_refuses 32 = .ok (.isub, 1) := by decide +kernel
theorem dL_refuses_33 : decode cL_refuses 33 = .ok (.istore_n 3, 1) := by decide +kernel
theorem dL_refuses_34 : decode cL_refuses 34 = .ok (.aload_n 0, 1) := by decide +kernel
theorem dL_refuses_35 : decode cL_refuses 35 = .ok (.iload_n 2, 1) := by decide +kernel
theorem dL_refuses_36 : decode cL_refuses 36 = .ok (.iconst 0, 1) := by decide +kernel
theorem dL_refuses_37 : decode cL_refuses 37 = .ok (.bipush 99, 2) := by decide +kernel
theorem dL_refuses_39 : decode cL_refuses 39 = .ok (.invokestatic 91, 3) := by decide +kernel
theorem dL_refuses_42 : decode cL_refuses 42 = .ok (.bipush (-3), 2) := by decide +kernel
theorem dL_refuses_44 : decode cL_refuses 44 = .ok (.if_icmp .ne 363, 3) := by decide +kernel
theorem dL_refuses_47 : decode cL_refuses 47 = .ok (.aload_n 0, 1) := by decide +kernel
theorem dL_refuses_48 : decode cL_refuses 48 = .ok (.iconst 0, 1) := by decide +kernel
theorem dL_refuses_49 : decode cL_refuses 49 = .ok (.iload_n 3, 1) := by decide +kernel
theorem dL_refuses_50 : decode cL_refuses 50 = .ok (.iconst 0, 1) := by decide +kernel
theorem dL_refuses_51 : decode cL_refuses 51 = .ok (.invokestatic 91, 3) := by decide +kernel
theorem dL_refuses_54 : decode cL_refuses 54 = .ok (.bipush (-2), 2) := by decide +kernel
theorem dL_refuses_56 : decode cL_refuses 56 = .ok (.if_icmp .ne 351, 3) := by decide +kernel
theorem dL_refuses_59 : decode cL_refuses 59 = .ok (.aload_n 0, 1) := by decide +kernel
theorem dL_refuses_60 : decode cL_refuses 60 = .ok (.iconst 0, 1) := by decide +kernel
theorem dL_refuses_61 : decode cL_refuses 61 = .ok (.iconst 0, 1) := by decide +kernel
theorem dL_refuses_62 : decode cL_refuses 62 = .ok (.bipush 30, 2) := by decide +kernel
theorem dL_refuses_64 : decode cL_refuses 64 = .ok (.iload_n 1, 1) := by decide +kernel
theorem dL_refuses_65 : decode cL_refuses 65 = .ok (.iadd, 1) := by decide +kernel
theorem dL_refuses_66 : decode cL_refuses 66 = .ok (.invokestatic 91, 3) := by decide +kernel
theorem dL_refuses_69 : decode cL_refuses 69 = .ok (.bipush (-2), 2) := by decide +kernel
theorem dL_refuses_71 : decode cL_refuses 71 = .ok (.if_icmp .ne 336, 3) := by decide +kernel
theorem dL_refuses_74 : decode cL_refuses 74 = .ok (.aload_n 0, 1) := by decide +kernel
theorem dL_refuses_75 : decode cL_refuses 75 = .ok (.iconst 0, 1) := by decide +kernel
theorem dL_refuses_76 : decode cL_refuses 76 = .ok (.iconst 0, 1) := by decide +kernel
theorem dL_refuses_77 : decode cL_refuses 77 = .ok (.bipush (-2), 2) := by decide +kernel
theorem dL_refuses_79 : decode cL_refuses 79 = .ok (.iload_n 1, 1) := by decide +kernel
theorem dL_refuses_80 : decode cL_refuses 80 = .ok (.isub, 1) := by decide +kernel
theorem dL_refuses_81 : decode cL_refuses 81 = .ok (.invokestatic 91, 3) := by decide +kernel
theorem dL_refuses_84 : decode cL_refuses 84 = .ok (.bipush (-2), 2) := by decide +kernel
theorem dL_refuses_86 : decode cL_refuses 86 = .ok (.if_icmp .ne 321, 3) := by decide +kernel
theorem dL_refuses_89 : decode cL_refuses 89 = .ok (.aload_n 0, 1) := by decide +kernel
theorem dL_refuses_90 : decode cL_refuses 90 = .ok (.iload_n 2, 1) := by decide +kernel
theorem dL_refuses_91 : decode cL_refuses 91 = .ok (.iconst 0, 1) := by decide +kernel
theorem dL_refuses_92 : decode cL_refuses 92 = .ok (.invokestatic 86, 3) := by decide +kernel
theorem dL_refuses_95 : decode cL_refuses 95 = .ok (.bipush (-3), 2) := by decide +kernel
theorem dL_refuses_97 : decode cL_refuses 97 = .ok (.if_icmp .ne 310, 3) := by decide +kernel
theorem dL_refuses_100 : decode cL_refuses 100 = .ok (.aload_n 0, 1) := by decide +kernel
theorem dL_refuses_101 : decode cL_refuses 101 = .ok (.iconst 0, 1) := by decide +kernel
theorem dL_refuses_102 : decode cL_refuses 102 = .ok (.bipush 10, 2) := by decide +kernel
theorem dL_refuses_104 : decode cL_refuses 104 = .ok (.iload_n 1, 1) := by decide +kernel
theorem dL_refuses_105 : decode cL_refuses 105 = .ok (.iadd, 1) := by decide +kernel
theorem dL_refuses_106 : decode cL_refuses 106 = .ok (.invokestatic 86, 3) := by decide +kernel
theorem dL_refuses_109 : decode cL_refuses 109 = .ok (.bipush (-2), 2) := by decide +kernel
theorem dL_refuses_111 : decode cL_refuses 111 = .ok (.if_icmp .ne 296, 3) := by decide +kernel
theorem dL_refuses_114 : decode cL_refuses 114 = .ok (.aload_n 0, 1) := by decide +kernel
theorem dL_refuses_115 : decode cL_refuses 115 = .ok (.iload_n 2, 1) := by decide +kernel
theorem dL_refuses_116 : decode cL_refuses 116 = .ok (.bipush 99, 2) := by decide +kernel
theorem dL_refuses_118 : decode cL_refuses 118 = .ok (.invokestatic 89, 3) := by decide +kernel
theorem dL_refuses_121 : decode cL_refuses 121 = .ok (.bipush (-3), 2) := by decide +kernel
theorem dL_refuses_123 : decode cL_refuses 123 = .ok (.if_icmp .ne 284, 3) := by decide +kernel
theorem dL_refuses_126 : decode cL_refuses 126 = .ok (.aload_n 0, 1) := by decide +kernel
theorem dL_refuses_127 : decode cL_refuses 127 = .ok (.iconst 5, 1) := by decide +kernel
theorem dL_refuses_128 : decode cL_refuses 128 = .ok (.iconst (-1), 1) := by decide +kernel
theorem dL_refuses_129 : decode cL_refuses 129 = .ok (.iload_n 1, 1) := by decide +kernel
theorem dL_refuses_130 : decode cL_refuses 130 = .ok (.isub, 1) := by decide +kernel
theorem dL_refuses_131 : decode cL_refuses 131 = .ok (.invokestatic 89, 3) := by decide +kernel
theorem dL_refuses_134 : decode cL_refuses 134 = .ok (.bipush (-2), 2) := by decide +kernel
theorem dL_refuses_136 : decode cL_refuses 136 = .ok (.if_icmp .ne 271, 3) := by decide +kernel
theorem dL_refuses_139 : decode cL_refuses 139 = .ok (.aload_n 0, 1) := by decide +kernel
theorem dL_refuses_140 : decode cL_refuses 140 = .ok (.bipush 32, 2) := by decide +kernel
theorem dL_refuses_142 : decode cL_refuses 142 = .ok (.iload_n 1, 1) := by decide +kernel
theorem dL_refuses_143 : decode cL_refuses 143 = .ok (.isub, 1) := by decide +kernel
theorem dL_refuses_144 : decode cL_refuses 144 = .ok (.invokestatic 66, 3) := by decide +kernel
theorem dL_refuses_147 : decode cL_refuses 147 = .ok (.bipush (-2), 2) := by decide +kernel
theorem dL_refuses_149 : decode cL_refuses 149 = .ok (.if_icmp .ne 258, 3) := by decide +kernel
theorem dL_refuses_152 : decode cL_refuses 152 = .ok (.aload_n 0, 1) := by decide +kernel
theorem dL_refuses_153 : decode cL_refuses 153 = .ok (.bipush 127, 2) := by decide +kernel
theorem dL_refuses_155 : decode cL_refuses 155 = .ok (.iload_n 1, 1) := by decide +kernel
theorem dL_refuses_156 : decode cL_refuses 156 = .ok (.iadd, 1) := by decide +kernel
theorem dL_refuses_157 : decode cL_refuses 157 = .ok (.invokestatic 66, 3) := by decide +kernel
theorem dL_refuses_160 : decode cL_refuses 160 = .ok (.bipush (-2), 2) := by decide +kernel
theorem dL_refuses_162 : decode cL_refuses 162 = .ok (.if_icmp .ne 245, 3) := by decide +kernel
theorem dL_refuses_165 : decode cL_refuses 165 = .ok (.aload_n 0, 1) := by decide +kernel
theorem dL_refuses_166 : decode cL_refuses 166 = .ok (.iconst 2, 1) := by decide +kernel
theorem dL_refuses_167 : decode cL_refuses 167 = .ok (.iload_n 1, 1) := by decide +kernel
theorem dL_refuses_168 : decode cL_refuses 168 = .ok (.iadd, 1) := by decide +kernel
theorem dL_refuses_169 : decode cL_refuses 169 = .ok (.invokestatic 131, 3) := by decide +kernel
theorem dL_refuses_172 : decode cL_refuses 172 = .ok (.bipush (-2), 2) := by decide +kernel
theorem dL_refuses_174 : decode cL_refuses 174 = .ok (.if_icmp .ne 233, 3) := by decide +kernel
theorem dL_refuses_177 : decode cL_refuses 177 = .ok (.aload_n 0, 1) := by decide +kernel
theorem dL_refuses_178 : decode cL_refuses 178 = .ok (.iload_n 2, 1) := by decide +kernel
theorem dL_refuses_179 : decode cL_refuses 179 = .ok (.iconst 0, 1) := by decide +kernel
theorem dL_refuses_180 : decode cL_refuses 180 = .ok (.invokestatic 126, 3) := by decide +kernel
theorem dL_refuses_183 : decode cL_refuses 183 = .ok (.bipush (-2), 2) := by decide +kernel
theorem dL_refuses_185 : decode cL_refuses 185 = .ok (.if_icmp .ne 222, 3) := by decide +kernel
theorem dL_refuses_188 : decode cL_refuses 188 = .ok (.aload_n 0, 1) := by decide +kernel
theorem dL_refuses_189 : decode cL_refuses 189 = .ok (.iconst 0, 1) := by decide +kernel
theorem dL_refuses_190 : decode cL_refuses 190 = .ok (.iconst (-1), 1) := by decide +kernel
theorem dL_refuses_191 : decode cL_refuses 191 = .ok (.iload_n 1, 1) := by decide +kernel
theorem dL_refuses_192 : decode cL_refuses 192 = .ok (.isub, 1) := by decide +kernel
theorem dL_refuses_193 : decode cL_refuses 193 = .ok (.invokestatic 126, 3) := by decide +kernel
theorem dL_refuses_196 : decode cL_refuses 196 = .ok (.bipush (-2), 2) := by decide +kernel
theorem dL_refuses_198 : decode cL_refuses 198 = .ok (.if_icmp .ne 209, 3) := by decide +kernel
theorem dL_refuses_201 : decode cL_refuses 201 = .ok (.aload_n 0, 1) := by decide +kernel
theorem dL_refuses_202 : decode cL_refuses 202 = .ok (.iload_n 2, 1) := by decide +kernel
theorem dL_refuses_203 : decode cL_refuses 203 = .ok (.iconst 0, 1) := by decide +kernel
theorem dL_refuses_204 : decode cL_refuses 204 = .ok (.iconst 0, 1) := by decide +kernel
theorem dL_refuses_205 : decode cL_refuses 205 = .ok (.invokestatic 116, 3) := by decide +kernel
theorem dL_refuses_208 : decode cL_refuses 208 = .ok (.bipush (-3), 2) := by decide +kernel
theorem dL_refuses_210 : decode cL_refuses 210 = .ok (.if_icmp .ne 197, 3) := by decide +kernel
theorem dL_refuses_213 : decode cL_refuses 213 = .ok (.aload_n 0, 1) := by decide +kernel
theorem dL_refuses_214 : decode cL_refuses 214 = .ok (.iconst 0, 1) := by decide +kernel
theorem dL_refuses_215 : decode cL_refuses 215 = .ok (.iload_n 3, 1) := by decide +kernel
theorem dL_refuses_216 : decode cL_refuses 216 = .ok (.iconst 0, 1) := by decide +kernel
theorem dL_refuses_217 : decode cL_refuses 217 = .ok (.invokestatic 116, 3) := by decide +kernel
theorem dL_refuses_220 : decode cL_refuses 220 = .ok (.bipush (-2), 2) := by decide +kernel
theorem dL_refuses_222 : decode cL_refuses 222 = .ok (.if_icmp .ne 185, 3) := by decide +kernel
theorem dL_refuses_225 : decode cL_refuses 225 = .ok (.aload_n 0, 1) := by decide +kernel
theorem dL_refuses_226 : decode cL_refuses 226 = .ok (.iconst 0, 1) := by decide +kernel
theorem dL_refuses_227 : decode cL_refuses 227 = .ok (.iconst 0, 1) := by decide +kernel
theorem dL_refuses_228 : decode cL_refuses 228 = .ok (.iconst 3, 1) := by decide +kernel
theorem dL_refuses_229 : decode cL_refuses 229 = .ok (.iload_n 1, 1) := by decide +kernel
theorem dL_refuses_230 : decode cL_refuses 230 = .ok (.iadd, 1) := by decide +kernel
theorem dL_refuses_231 : decode cL_refuses 231 = .ok (.invokestatic 116, 3) := by decide +kernel
theorem dL_refuses_234 : decode cL_refuses 234 = .ok (.bipush (-2), 2) := by decide +kernel
theorem dL_refuses_236 : decode cL_refuses 236 = .ok (.if_icmp .ne 171, 3) := by decide +kernel
theorem dL_refuses_239 : decode cL_refuses 239 = .ok (.aload_n 0, 1) := by decide +kernel
theorem dL_refuses_240 : decode cL_refuses 240 = .ok (.iload_n 2, 1) := by decide +kernel
theorem dL_refuses_241 : decode cL_refuses 241 = .ok (.iconst 0, 1) := by decide +kernel
theorem dL_refuses_242 : decode cL_refuses 242 = .ok (.invokestatic 118, 3) := by decide +kernel
theorem dL_refuses_245 : decode cL_refuses 245 = .ok (.bipush (-3), 2) := by decide +kernel
theorem dL_refuses_247 : decode cL_refuses 247 = .ok (.if_icmp .ne 160, 3) := by decide +kernel
theorem dL_refuses_250 : decode cL_refuses 250 = .ok (.aload_n 0, 1) := by decide +kernel
theorem dL_refuses_251 : decode cL_refuses 251 = .ok (.iconst 0, 1) := by decide +kernel
theorem dL_refuses_252 : decode cL_refuses 252 = .ok (.bipush 7, 2) := by decide +kernel
theorem dL_refuses_254 : decode cL_refuses 254 = .ok (.iload_n 1, 1) := by decide +kernel
theorem dL_refuses_255 : decode cL_refuses 255 = .ok (.iadd, 1) := by decide +kernel
theorem dL_refuses_256 : decode cL_refuses 256 = .ok (.invokestatic 118, 3) := by decide +kernel
theorem dL_refuses_259 : decode cL_refuses 259 = .ok (.bipush (-2), 2) := by decide +kernel
theorem dL_refuses_261 : decode cL_refuses 261 = .ok (.if_icmp .ne 146, 3) := by decide +kernel
theorem dL_refuses_264 : decode cL_refuses 264 = .ok (.aload_n 0, 1) := by decide +kernel
theorem dL_refuses_265 : decode cL_refuses 265 = .ok (.iconst (-1), 1) := by decide +kernel
theorem dL_refuses_266 : decode cL_refuses 266 = .ok (.iload_n 1, 1) := by decide +kernel
theorem dL_refuses_267 : decode cL_refuses 267 = .ok (.isub, 1) := by decide +kernel
theorem dL_refuses_268 : decode cL_refuses 268 = .ok (.iconst 0, 1) := by decide +kernel
theorem dL_refuses_269 : decode cL_refuses 269 = .ok (.invokestatic 122, 3) := by decide +kernel
theorem dL_refuses_272 : decode cL_refuses 272 = .ok (.bipush (-2), 2) := by decide +kernel
theorem dL_refuses_274 : decode cL_refuses 274 = .ok (.if_icmp .ne 133, 3) := by decide +kernel
theorem dL_refuses_277 : decode cL_refuses 277 = .ok (.aload_n 0, 1) := by decide +kernel
theorem dL_refuses_278 : decode cL_refuses 278 = .ok (.iconst 0, 1) := by decide +kernel
theorem dL_refuses_279 : decode cL_refuses 279 = .ok (.iconst 3, 1) := by decide +kernel
theorem dL_refuses_280 : decode cL_refuses 280 = .ok (.iload_n 1, 1) := by decide +kernel
theorem dL_refuses_281 : decode cL_refuses 281 = .ok (.iadd, 1) := by decide +kernel
theorem dL_refuses_282 : decode cL_refuses 282 = .ok (.invokestatic 122, 3) := by decide +kernel
theorem dL_refuses_285 : decode cL_refuses 285 = .ok (.bipush (-2), 2) := by decide +kernel
theorem dL_refuses_287 : decode cL_refuses 287 = .ok (.if_icmp .ne 120, 3) := by decide +kernel
theorem dL_refuses_290 : decode cL_refuses 290 = .ok (.aload_n 0, 1) := by decide +kernel
theorem dL_refuses_291 : decode cL_refuses 291 = .ok (.iload_n 2, 1) := by decide +kernel
theorem dL_refuses_292 : decode cL_refuses 292 = .ok (.iconst 0, 1) := by decide +kernel
theorem dL_refuses_293 : decode cL_refuses 293 = .ok (.invokestatic 124, 3) := by decide +kernel
theorem dL_refuses_296 : decode cL_refuses 296 = .ok (.bipush (-2), 2) := by decide +kernel
theorem dL_refuses_298 : decode cL_refuses 298 = .ok (.if_icmp .ne 109, 3) := by decide +kernel
theorem dL_refuses_301 : decode cL_refuses 301 = .ok (.aload_n 0, 1) := by decide +kernel
theorem dL_refuses_302 : decode cL_refuses 302 = .ok (.iconst 0, 1) := by decide +kernel
theorem dL_refuses_303 : decode cL_refuses 303 = .ok (.bipush 6, 2) := by decide +kernel
theorem dL_refuses_305 : decode cL_refuses 305 = .ok (.iload_n 1, 1) := by decide +kernel
theorem dL_refuses_306 : decode cL_refuses 306 = .ok (.iadd, 1) := by decide +kernel
theorem dL_refuses_307 : decode cL_refuses 307 = .ok (.invokestatic 124, 3) := by decide +kernel
theorem dL_refuses_310 : decode cL_refuses 310 = .ok (.bipush (-2), 2) := by decide +kernel
theorem dL_refuses_312 : decode cL_refuses 312 = .ok (.if_icmp .ne 95, 3) := by decide +kernel
theorem dL_refuses_315 : decode cL_refuses 315 = .ok (.aload_n 0, 1) := by decide +kernel
theorem dL_refuses_316 : decode cL_refuses 316 = .ok (.bipush 7, 2) := by decide +kernel
theorem dL_refuses_318 : decode cL_refuses 318 = .ok (.iload_n 1, 1) := by decide +kernel
theorem dL_refuses_319 : decode cL_refuses 319 = .ok (.iadd, 1) := by decide +kernel
theorem dL_refuses_320 : decode cL_refuses 320 = .ok (.invokestatic 120, 3) := by decide +kernel
theorem dL_refuses_323 : decode cL_refuses 323 = .ok (.bipush (-2), 2) := by decide +kernel
theorem dL_refuses_325 : decode cL_refuses 325 = .ok (.if_icmp .ne 82, 3) := by decide +kernel
theorem dL_refuses_328 : decode cL_refuses 328 = .ok (.aload_n 0, 1) := by decide +kernel
theorem dL_refuses_329 : decode cL_refuses 329 = .ok (.iload_n 3, 1) := by decide +kernel
theorem dL_refuses_330 : decode cL_refuses 330 = .ok (.iconst 0, 1) := by decide +kernel
theorem dL_refuses_331 : decode cL_refuses 331 = .ok (.invokestatic 129, 3) := by decide +kernel
theorem dL_refuses_334 : decode cL_refuses 334 = .ok (.bipush (-2), 2) := by decide +kernel
theorem dL_refuses_336 : decode cL_refuses 336 = .ok (.if_icmp .ne 71, 3) := by decide +kernel
theorem dL_refuses_339 : decode cL_refuses 339 = .ok (.aload_n 0, 1) := by decide +kernel
theorem dL_refuses_340 : decode cL_refuses 340 = .ok (.iconst 0, 1) := by decide +kernel
theorem dL_refuses_341 : decode cL_refuses 341 = .ok (.iconst 2, 1) := by decide +kernel
theorem dL_refuses_342 : decode cL_refuses 342 = .ok (.iload_n 1, 1) := by decide +kernel
theorem dL_refuses_343 : decode cL_refuses 343 = .ok (.iadd, 1) := by decide +kernel
theorem dL_refuses_344 : decode cL_refuses 344 = .ok (.invokestatic 129, 3) := by decide +kernel
theorem dL_refuses_347 : decode cL_refuses 347 = .ok (.bipush (-2), 2) := by decide +kernel
theorem dL_refuses_349 : decode cL_refuses 349 = .ok (.if_icmp .ne 58, 3) := by decide +kernel
theorem dL_refuses_352 : decode cL_refuses 352 = .ok (.aload_n 0, 1) := by decide +kernel
theorem dL_refuses_353 : decode cL_refuses 353 = .ok (.iload_n 2, 1) := by decide +kernel
theorem dL_refuses_354 : decode cL_refuses 354 = .ok (.iconst 0, 1) := by decide +kernel
theorem dL_refuses_355 : decode cL_refuses 355 = .ok (.invokestatic 137, 3) := by decide +kernel
theorem dL_refuses_358 : decode cL_refuses 358 = .ok (.bipush (-3), 2) := by decide +kernel
theorem dL_refuses_360 : decode cL_refuses 360 = .ok (.if_icmp .ne 47, 3) := by decide +kernel
theorem dL_refuses_363 : decode cL_refuses 363 = .ok (.aload_n 0, 1) := by decide +kernel
theorem dL_refuses_364 : decode cL_refuses 364 = .ok (.iconst 0, 1) := by decide +kernel
theorem dL_refuses_365 : decode cL_refuses 365 = .ok (.iconst 4, 1) := by decide +kernel
theorem dL_refuses_366 : decode cL_refuses 366 = .ok (.iload_n 1, 1) := by decide +kernel
theorem dL_refuses_367 : decode cL_refuses 367 = .ok (.iadd, 1) := by decide +kernel
theorem dL_refuses_368 : decode cL_refuses 368 = .ok (.invokestatic 137, 3) := by decide +kernel
theorem dL_refuses_371 : decode cL_refuses 371 = .ok (.bipush (-2), 2) := by decide +kernel
theorem dL_refuses_373 : decode cL_refuses 373 = .ok (.if_icmp .ne 34, 3) := by decide +kernel
theorem dL_refuses_376 : decode cL_refuses 376 = .ok (.aload_n 0, 1) := by decide +kernel
theorem dL_refuses_377 : decode cL_refuses 377 = .ok (.iload_n 3, 1) := by decide +kernel
theorem dL_refuses_378 : decode cL_refuses 378 = .ok (.invokestatic 145, 3) := by decide +kernel
theorem dL_refuses_381 : decode cL_refuses 381 = .ok (.bipush (-2), 2) := by decide +kernel
theorem dL_refuses_383 : decode cL_refuses 383 = .ok (.if_icmp .ne 24, 3) := by decide +kernel
theorem dL_refuses_386 : decode cL_refuses 386 = .ok (.aload_n 0, 1) := by decide +kernel
theorem dL_refuses_387 : decode cL_refuses 387 = .ok (.iconst 0, 1) := by decide +kernel
theorem dL_refuses_388 : decode cL_refuses 388 = .ok (.invokestatic 120, 3) := by decide +kernel
theorem dL_refuses_391 : decode cL_refuses 391 = .ok (.ifCond .gt 12, 3) := by decide +kernel
theorem dL_refuses_394 : decode cL_refuses 394 = .ok (.aload_n 0, 1) := by decide +kernel
theorem dL_refuses_395 : decode cL_refuses 395 = .ok (.invokestatic 94, 3) := by decide +kernel
theorem dL_refuses_398 : decode cL_refuses 398 = .ok (.bipush (-2), 2) := by decide +kernel
theorem dL_refuses_400 : decode cL_refuses 400 = .ok (.if_icmp .ne 7, 3) := by decide +kernel
theorem dL_refuses_403 : decode cL_refuses 403 = .ok (.iconst 1, 1) := by decide +kernel
theorem dL_refuses_404 : decode cL_refuses 404 = .ok (.goto 4, 3) := by decide +kernel
theorem dL_refuses_407 : decode cL_refuses 407 = .ok (.iconst 0, 1) := by decide +kernel
theorem dL_refuses_408 : decode cL_refuses 408 = .ok (.istore 4, 2) := by decide +kernel
theorem dL_refuses_410 : decode cL_refuses 410 = .ok (.aload_n 0, 1) := by decide +kernel
theorem dL_refuses_411 : decode cL_refuses 411 = .ok (.invokevirtual 104, 3) := by decide +kernel
theorem dL_refuses_414 : decode cL_refuses 414 = .ok (.istore 5, 2) := by decide +kernel
theorem dL_refuses_416 : decode cL_refuses 416 = .ok (.iload 4, 2) := by decide +kernel
theorem dL_refuses_418 : decode cL_refuses 418 = .ok (.ifCond .eq 55, 3) := by decide +kernel
theorem dL_refuses_421 : decode cL_refuses 421 = .ok (.iload 5, 2) := by decide +kernel
theorem dL_refuses_423 : decode cL_refuses 423 = .ok (.ifCond .lt 50, 3) := by decide +kernel
theorem dL_refuses_426 : decode cL_refuses 426 = .ok (.aload_n 0, 1) := by decide +kernel
theorem dL_refuses_427 : decode cL_refuses 427 = .ok (.invokestatic 110, 3) := by decide +kernel
theorem dL_refuses_430 : decode cL_refuses 430 = .ok (.bipush (-2), 2) := by decide +kernel
theorem dL_refuses_432 : decode cL_refuses 432 = .ok (.if_icmp .ne 41, 3) := by decide +kernel
theorem dL_refuses_435 : decode cL_refuses 435 = .ok (.aload_n 0, 1) := by decide +kernel
theorem dL_refuses_436 : decode cL_refuses 436 = .ok (.bipush 59, 2) := by decide +kernel
theorem dL_refuses_438 : decode cL_refuses 438 = .ok (.invokestatic 66, 3) := by decide +kernel
theorem dL_refuses_441 : decode cL_refuses 441 = .ok (.iconst 1, 1) := by decide +kernel
theorem dL_refuses_442 : decode cL_refuses 442 = .ok (.if_icmp .ne 31, 3) := by decide +kernel
theorem dL_refuses_445 : decode cL_refuses 445 = .ok (.aload_n 0, 1) := by decide +kernel
theorem dL_refuses_446 : decode cL_refuses 446 = .ok (.invokevirtual 107, 3) := by decide +kernel
theorem dL_refuses_449 : decode cL_refuses 449 = .ok (.ifCond .ne 24, 3) := by decide +kernel
theorem dL_refuses_452 : decode cL_refuses 452 = .ok (.aload_n 0, 1) := by decide +kernel
theorem dL_refuses_453 : decode cL_refuses 453 = .ok (.invokestatic 110, 3) := by decide +kernel
theorem dL_refuses_456 : decode cL_refuses 456 = .ok (.bipush (-2), 2) := by decide +kernel
theorem dL_refuses_458 : decode cL_refuses 458 = .ok (.if_icmp .ne 15, 3) := by decide +kernel
theorem dL_refuses_461 : decode cL_refuses 461 = .ok (.aload_n 0, 1) := by decide +kernel
theorem dL_refuses_462 : decode cL_refuses 462 = .ok (.invokevirtual 104, 3) := by decide +kernel
theorem dL_refuses_465 : decode cL_refuses 465 = .ok (.iconst 1, 1) := by decide +kernel
theorem dL_refuses_466 : decode cL_refuses 466 = .ok (.if_icmp .ne 7, 3) := by decide +kernel
theorem dL_refuses_469 : decode cL_refuses 469 = .ok (.iconst 1, 1) := by decide +kernel
theorem dL_refuses_470 : decode cL_refuses 470 = .ok (.goto 4, 3) := by decide +kernel
theorem dL_refuses_473 : decode cL_refuses 473 = .ok (.iconst 0, 1) := by decide +kernel
theorem dL_refuses_474 : decode cL_refuses 474 = .ok (.ireturn, 1) := by decide +kernel
