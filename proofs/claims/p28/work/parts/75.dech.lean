theorem dL_hangs_0 : decode cL_hangs 0 = .ok (.iconst 0, 1) := by decide +kernel
theorem dL_hangs_1 : decode cL_hangs 1 = .ok (.istore_n 1, 1) := by decide +kernel
theorem dL_hangs_2 : decode cL_hangs 2 = .ok (.iconst 0, 1) := by decide +kernel
theorem dL_hangs_3 : decode cL_hangs 3 = .ok (.istore_n 2, 1) := by decide +kernel
theorem dL_hangs_4 : decode cL_hangs 4 = .ok (.iconst 0, 1) := by decide +kernel
theorem dL_hangs_5 : decode cL_hangs 5 = .ok (.istore_n 3, 1) := by decide +kernel
theorem dL_hangs_6 : decode cL_hangs 6 = .ok (.iconst 1, 1) := by decide +kernel
theorem dL_hangs_7 : decode cL_hangs 7 = .ok (.istore 4, 2) := by decide +kernel
theorem dL_hangs_9 : decode cL_hangs 9 = .ok (.iconst 0, 1) := by decide +kernel
theorem dL_hangs_10 : decode cL_hangs 10 = .ok (.istore 5, 2) := by decide +kernel
theorem dL_hangs_12 : decode cL_hangs 12 = .ok (.iload 5, 2) := by decide +kernel
theorem dL_hangs_14 : decode cL_hangs 14 = .ok (.bipush 6, 2) := by decide +kernel
theorem dL_hangs_16 : decode cL_hangs 16 = .ok (.if_icmp .ge 363, 3) := by decide +kernel
theorem dL_hangs_19 : decode cL_hangs 19 = .ok (.iload 4, 2) := by decide +kernel
theorem dL_hangs_21 : decode cL_hangs 21 = .ok (.ifCond .eq 358, 3) := by decide +kernel
theorem dL_hangs_24 : decode cL_hangs 24 = .ok (.iconst 0, 1) := by decide +kernel
theorem dL_hangs_25 : decode cL_hangs 25 = .ok (.istore 6, 2) := by decide +kernel
theorem dL_hangs_27 : decode cL_hangs 27 = .ok (.iconst 0, 1) := by decide +kernel
theorem dL_hangs_28 : decode cL_hangs 28 = .ok (.istore 7, 2) := by decide +kernel
theorem dL_hangs_30 : decode cL_hangs 30 = .ok (.iconst 0, 1) := by decide +kernel
theorem dL_hangs_31 : decode cL_hangs 31 = .ok (.istore 8, 2) := by decide +kernel
theorem dL_hangs_33 : decode cL_hangs 33 = .ok (.iload 8, 2) := by decide +kernel
theorem dL_hangs_35 : decode cL_hangs 35 = .ok (.bipush 30, 2) := by decide +kernel
theorem dL_hangs_37 : decode cL_hangs 37 = .ok (.if_icmp .ge 194, 3) := by decide +kernel
theorem dL_hangs_40 : decode cL_hangs 40 = .ok (.iload 4, 2) := by decide +kernel
theorem dL_hangs_42 : decode cL_hangs 42 = .ok (.ifCond .eq 189, 3) := by decide +kernel
theorem dL_hangs_45 : decode cL_hangs 45 = .ok (.aload_n 0, 1) := by decide +kernel
theorem dL_hangs_46 : decode cL_hangs 46 = .ok (.iload 5, 2) := by decide +kernel
theorem dL_hangs_48 : decode cL_hangs 48 = .ok (.iload 8, 2) := by decide +kernel
theorem dL_hangs_50 : decode cL_hangs 50 = .ok (.iconst 0, 1) := by decide +kernel
theorem dL_hangs_51 : decode cL_hangs 51 = .ok (.invokestatic 116, 3) := by decide +kernel
theorem dL_hangs_54 : decode cL_hangs 54 = .ok (.istore 9, 2) := by decide +kernel
theorem dL_hangs_56 : decode cL_hangs 56 = .ok (.aload_n 0, 1) := by decide +kernel
theorem dL_hangs_57 : decode cL_hangs 57 = .ok (.iload 5, 2) := by decide +kernel
theorem dL_hangs_59 : decode cL_hangs 59 = .ok (.iload 8, 2) := by decide +kernel
theorem dL_hangs_61 : decode cL_hangs 61 = .ok (.iconst 1, 1) := by decide +kernel
theorem dL_hangs_62 : decode cL_hangs 62 = .ok (.invokestatic 116, 3) := by decide +kernel
theorem dL_hangs_65 : decode cL_hangs 65 = .ok (.istore 10, 2) := by decide +kernel
theorem dL_hangs_67 : decode cL_hangs 67 = .ok (.aload_n 0, 1) := by decide +kernel
theorem dL_hangs_68 : decode cL_hangs 68 = .ok (.iload 5, 2) := by decide +kernel
theorem dL_hangs_70 : decode cL_hangs 70 = .ok (.iload 8, 2) := by decide +kernel
theorem dL_hangs_72 : decode cL_hangs 72 = .ok (.iconst 2, 1) := by decide +kernel
theorem dL_hangs_73 : decode cL_hangs 73 = .ok (.invokestatic 116, 3) := by decide +kernel
theorem dL_hangs_76 : decode cL_hangs 76 = .ok (.istore 11, 2) := by decide +kernel
theorem dL_hangs_78 : decode cL_hangs 78 = .ok (.iload 9, 2) := by decide +kernel
theorem dL_hangs_80 : decode cL_hangs 80 = .ok (.iconst (-1), 1) := by decide +kernel
theorem dL_hangs_81 : decode cL_hangs 81 = .ok (.if_icmp .lt 103, 3) := by decide +kernel
theorem dL_hangs_84 : decode cL_hangs 84 = .ok (.iload 9, 2) := by decide +kernel
theorem dL_hangs_86 : decode cL_hangs 86 = .ok (.bipush 30, 2) := by decide +kernel
theorem dL_hangs_88 : decode cL_hangs 88 = .ok (.if_icmp .ge 96, 3) := by decide +kernel
theorem dL_hangs_91 : decode cL_hangs 91 = .ok (.iload 9, 2) := by decide +kernel
theorem dL_hangs_93 : decode cL_hangs 93 = .ok (.iconst (-1), 1) := by decide +kernel
theorem dL_hangs_94 : decode cL_hangs 94 = .ok (.if_icmp .ne 13, 3) := by decide +kernel
theorem dL_hangs_97 : decode cL_hangs 97 = .ok (.iload 10, 2) := by decide +kernel
theorem dL_hangs_99 : decode cL_hangs 99 = .ok (.bipush 30, 2) := by decide +kernel
theorem dL_hangs_101 : decode cL_hangs 101 = .ok (.if_icmp .ne 83, 3) := by decide +kernel
theorem dL_hangs_104 : decode cL_hangs 104 = .ok (.goto 43, 3) := by decide +kernel
theorem dL_hangs_107 : decode cL_hangs 107 = .ok (.iload 10, 2) := by decide +kernel
theorem dL_hangs_109 : decode cL_hangs 109 = .ok (.ifCond .lt 75, 3) := by decide +kernel
theorem dL_hangs_112 : decode cL_hangs 112 = .ok (.iload 10, 2) := by decide +kernel
theorem dL_hangs_114 : decode cL_hangs 114 = .ok (.iload 8, 2) := by decide +kernel
theorem dL_hangs_116 : decode cL_hangs 116 = .ok (.if_icmp .gt 68, 3) := by decide +kernel
theorem dL_hangs_119 : decode cL_hangs 119 = .ok (.aload_n 0, 1) := by decide +kernel
theorem dL_hangs_120 : decode cL_hangs 120 = .ok (.iload 5, 2) := by decide +kernel
theorem dL_hangs_122 : decode cL_hangs 122 = .ok (.iload 10, 2) := by decide +kernel
theorem dL_hangs_124 : decode cL_hangs 124 = .ok (.iconst 0, 1) := by decide +kernel
theorem dL_hangs_125 : decode cL_hangs 125 = .ok (.invokestatic 116, 3) := by decide +kernel
theorem dL_hangs_128 : decode cL_hangs 128 = .ok (.iload 9, 2) := by decide +kernel
theorem dL_hangs_130 : decode cL_hangs 130 = .ok (.if_icmp .ne 54, 3) := by decide +kernel
theorem dL_hangs_133 : decode cL_hangs 133 = .ok (.aload_n 0, 1) := by decide +kernel
theorem dL_hangs_134 : decode cL_hangs 134 = .ok (.iload 5, 2) := by decide +kernel
theorem dL_hangs_136 : decode cL_hangs 136 = .ok (.iload 9, 2) := by decide +kernel
theorem dL_hangs_138 : decode cL_hangs 138 = .ok (.iconst 2, 1) := by decide +kernel
theorem dL_hangs_139 : decode cL_hangs 139 = .ok (.invokestatic 116, 3) := by decide +kernel
theorem dL_hangs_142 : decode cL_hangs 142 = .ok (.iload 10, 2) := by decide +kernel
theorem dL_hangs_144 : decode cL_hangs 144 = .ok (.if_icmp .ne 40, 3) := by decide +kernel
theorem dL_hangs_147 : decode cL_hangs 147 = .ok (.iload 11, 2) := by decide +kernel
theorem dL_hangs_149 : decode cL_hangs 149 = .ok (.ifCond .lt 35, 3) := by decide +kernel
theorem dL_hangs_152 : decode cL_hangs 152 = .ok (.iload 11, 2) := by decide +kernel
theorem dL_hangs_154 : decode cL_hangs 154 = .ok (.bipush 30, 2) := by decide +kernel
theorem dL_hangs_156 : decode cL_hangs 156 = .ok (.if_icmp .gt 28, 3) := by decide +kernel
theorem dL_hangs_159 : decode cL_hangs 159 = .ok (.iload 11, 2) := by decide +kernel
theorem dL_hangs_161 : decode cL_hangs 161 = .ok (.bipush 30, 2) := by decide +kernel
theorem dL_hangs_163 : decode cL_hangs 163 = .ok (.if_icmp .eq 17, 3) := by decide +kernel
theorem dL_hangs_166 : decode cL_hangs 166 = .ok (.aload_n 0, 1) := by decide +kernel
theorem dL_hangs_167 : decode cL_hangs 167 = .ok (.iload 5, 2) := by decide +kernel
theorem dL_hangs_169 : decode cL_hangs 169 = .ok (.iload 11, 2) := by decide +kernel
theorem dL_hangs_171 : decode cL_hangs 171 = .ok (.iconst 0, 1) := by decide +kernel
theorem dL_hangs_172 : decode cL_hangs 172 = .ok (.invokestatic 116, 3) := by decide +kernel
theorem dL_hangs_175 : decode cL_hangs 175 = .ok (.iload 8, 2) := by decide +kernel
theorem dL_hangs_177 : decode cL_hangs 177 = .ok (.if_icmp .ne 7, 3) := by decide +kernel
theorem dL_hangs_180 : decode cL_hangs 180 = .ok (.iconst 1, 1) := by decide +kernel
theorem dL_hangs_181 : decode cL_hangs 181 = .ok (.goto 4, 3) := by decide +kernel
theorem dL_hangs_184 : decode cL_hangs 184 = .ok (.iconst 0, 1) := by decide +kernel
theorem dL_hangs_185 : decode cL_hangs 185 = .ok (.istore 4, 2) := by decide +kernel
theorem dL_hangs_187 : decode cL_hangs 187 = .ok (.iload 6, 2) := by decide +kernel
theorem dL_hangs_189 : decode cL_hangs 189 = .ok (.iload 9, 2) := by decide +kernel
theorem dL_hangs_191 : decode cL_hangs 191 = .ok (.iconst (-1), 1) := by decide +kernel
theorem dL_hangs_192 : decode cL_hangs 192 = .ok (.if_icmp .ne 7, 3) := by decide +kernel
theorem dL_hangs_195 : decode cL_hangs 195 = .ok (.iconst 1, 1) := by decide +kernel
theorem dL_hangs_196 : decode cL_hangs 196 = .ok (.goto 4, 3) := by decide +kernel
theorem dL_hangs_199 : decode cL_hangs 199 = .ok (.iconst 0, 1) := by decide +kernel
theorem dL_hangs_200 : decode cL_hangs 200 = .ok (.iadd, 1) := by decide +kernel
theorem dL_hangs_201 : decode cL_hangs 201 = .ok (.istore 6, 2) := by decide +kernel
theorem dL_hangs_203 : decode cL_hangs 203 = .ok (.iload 7, 2) := by decide +kernel
theorem dL_hangs_205 : decode cL_hangs 205 = .ok (.iload 9, 2) := by decide +kernel
theorem dL_hangs_207 : decode cL_hangs 207 = .ok (.ifCond .lt 14, 3) := by decide +kernel
theorem dL_hangs_210 : decode cL_hangs 210 = .ok (.iload 10, 2) := by decide +kernel
theorem dL_hangs_212 : decode cL_hangs 212 = .ok (.iload 8, 2) := by decide +kernel
theorem dL_hangs_214 : decode cL_hangs 214 = .ok (.if_icmp .ge 7, 3) := by decide +kernel
theorem dL_hangs_217 : decode cL_hangs 217 = .ok (.iconst 1, 1) := by decide +kernel
theorem dL_hangs_218 : decode cL_hangs 218 = .ok (.goto 4, 3) := by decide +kernel
theorem dL_hangs_221 : decode cL_hangs 221 = .ok (.iconst 0, 1) := by decide +kernel
theorem dL_hangs_222 : decode cL_hangs 222 = .ok (.iadd, 1) := by decide +kernel
theorem dL_hangs_223 : decode cL_hangs 223 = .ok (.istore 7, 2) := by decide +kernel
theorem dL_hangs_225 : decode cL_hangs 225 = .ok (.iinc 8 1, 3) := by decide +kernel
theorem dL_hangs_228 : decode cL_hangs 228 = .ok (.goto (-195), 3) := by decide +kernel
theorem dL_hangs_231 : decode cL_hangs 231 = .ok (.iload 4, 2) := by decide +kernel
theorem dL_hangs_233 : decode cL_hangs 233 = .ok (.ifCond .eq 106, 3) := by decide +kernel
theorem dL_hangs_236 : decode cL_hangs 236 = .ok (.aload_n 0, 1) := by decide +kernel
theorem dL_hangs_237 : decode cL_hangs 237 = .ok (.iload 5, 2) := by decide +kernel
theorem dL_hangs_239 : decode cL_hangs 239 = .ok (.iconst 2, 1) := by decide +kernel
theorem dL_hangs_240 : decode cL_hangs 240 = .ok (.invokestatic 118, 3) := by decide +kernel
theorem dL_hangs_243 : decode cL_hangs 243 = .ok (.iload 6, 2) := by decide +kernel
theorem dL_hangs_245 : decode cL_hangs 245 = .ok (.if_icmp .ne 94, 3) := by decide +kernel
theorem dL_hangs_248 : decode cL_hangs 248 = .ok (.aload_n 0, 1) := by decide +kernel
theorem dL_hangs_249 : decode cL_hangs 249 = .ok (.iload 5, 2) := by decide +kernel
theorem dL_hangs_251 : decode cL_hangs 251 = .ok (.iconst 3, 1) := by decide +kernel
theorem dL_hangs_252 : decode cL_hangs 252 = .ok (.invokestatic 118, 3) := by decide +kernel
theorem dL_hangs_255 : decode cL_hangs 255 = .ok (.iload 7, 2) := by decide +kernel
theorem dL_hangs_257 : decode cL_hangs 257 = .ok (.if_icmp .ne 82, 3) := by decide +kernel
theorem dL_hangs_260 : decode cL_hangs 260 = .ok (.aload_n 0, 1) := by decide +kernel
theorem dL_hangs_261 : decode cL_hangs 261 = .ok (.iload 5, 2) := by decide +kernel
theorem dL_hangs_263 : decode cL_hangs 263 = .ok (.iconst 0, 1) := by decide +kernel
theorem dL_hangs_264 : decode cL_hangs 264 = .ok (.invokestatic 118, 3) := by decide +kernel
theorem dL_hangs_267 : decode cL_hangs 267 = .ok (.ifCond .lt 72, 3) := by decide +kernel
theorem dL_hangs_270 : decode cL_hangs 270 = .ok (.aload_n 0, 1) := by decide +kernel
theorem dL_hangs_271 : decode cL_hangs 271 = .ok (.iload 5, 2) := by decide +kernel
theorem dL_hangs_273 : decode cL_hangs 273 = .ok (.iconst 0, 1) := by decide +kernel
theorem dL_hangs_274 : decode cL_hangs 274 = .ok (.invokestatic 118, 3) := by decide +kernel
theorem dL_hangs_277 : decode cL_hangs 277 = .ok (.bipush 10, 2) := by decide +kernel
theorem dL_hangs_279 : decode cL_hangs 279 = .ok (.if_icmp .ge 60, 3) := by decide +kernel
theorem dL_hangs_282 : decode cL_hangs 282 = .ok (.aload_n 0, 1) := by decide +kernel
theorem dL_hangs_283 : decode cL_hangs 283 = .ok (.iload 5, 2) := by decide +kernel
theorem dL_hangs_285 : decode cL_hangs 285 = .ok (.iconst 1, 1) := by decide +kernel
theorem dL_hangs_286 : decode cL_hangs 286 = .ok (.invokestatic 118, 3) := by decide +kernel
theorem dL_hangs_289 : decode cL_hangs 289 = .ok (.ifCond .lt 50, 3) := by decide +kernel
theorem dL_hangs_292 : decode cL_hangs 292 = .ok (.aload_n 0, 1) := by decide +kernel
theorem dL_hangs_293 : decode cL_hangs 293 = .ok (.iload 5, 2) := by decide +kernel
theorem dL_hangs_295 : decode cL_hangs 295 = .ok (.iconst 1, 1) := by decide +kernel
theorem dL_hangs_296 : decode cL_hangs 296 = .ok (.invokestatic 118, 3) := by decide +kernel
theorem dL_hangs_299 : decode cL_hangs 299 = .ok (.bipush 10, 2) := by decide +kernel
theorem dL_hangs_301 : decode cL_hangs 301 = .ok (.if_icmp .ge 38, 3) := by decide +kernel
theorem dL_hangs_304 : decode cL_hangs 304 = .ok (.aload_n 0, 1) := by decide +kernel
theorem dL_hangs_305 : decode cL_hangs 305 = .ok (.iload 5, 2) := by decide +kernel
theorem dL_hangs_307 : decode cL_hangs 307 = .ok (.iconst 4, 1) := by decide +kernel
theorem dL_hangs_308 : decode cL_hangs 308 = .ok (.invokestatic 118, 3) := by decide +kernel
theorem dL_hangs_311 : decode cL_hangs 311 = .ok (.ifCond .lt 28, 3) := by decide +kernel
theorem dL_hangs_314 : decode cL_hangs 314 = .ok (.aload_n 0, 1) := by decide +kernel
theorem dL_hangs_315 : decode cL_hangs 315 = .ok (.iload 5, 2) := by decide +kernel
theorem dL_hangs_317 : decode cL_hangs 317 = .ok (.iconst 5, 1) := by decide +kernel
theorem dL_hangs_318 : decode cL_hangs 318 = .ok (.invokestatic 118, 3) := by decide +kernel
theorem dL_hangs_321 : decode cL_hangs 321 = .ok (.ifCond .lt 18, 3) := by decide +kernel
theorem dL_hangs_324 : decode cL_hangs 324 = .ok (.aload_n 0, 1) := by decide +kernel
theorem dL_hangs_325 : decode cL_hangs 325 = .ok (.iload 5, 2) := by decide +kernel
theorem dL_hangs_327 : decode cL_hangs 327 = .ok (.bipush 6, 2) := by decide +kernel
theorem dL_hangs_329 : decode cL_hangs 329 = .ok (.invokestatic 118, 3) := by decide +kernel
theorem dL_hangs_332 : decode cL_hangs 332 = .ok (.ifCond .lt 7, 3) := by decide +kernel
theorem dL_hangs_335 : decode cL_hangs 335 = .ok (.iconst 1, 1) := by decide +kernel
theorem dL_hangs_336 : decode cL_hangs 336 = .ok (.goto 4, 3) := by decide +kernel
theorem dL_hangs_339 : decode cL_hangs 339 = .ok (.iconst 0, 1) := by decide +kernel
theorem dL_hangs_340 : decode cL_hangs 340 = .ok (.istore 4, 2) := by decide +kernel
theorem dL_hangs_342 : decode cL_hangs 342 = .ok (.iload_n 2, 1) := by decide +kernel
theorem dL_hangs_343 : decode cL_hangs 343 = .ok (.aload_n 0, 1) := by decide +kernel
theorem dL_hangs_344 : decode cL_hangs 344 = .ok (.iload 5, 2) := by decide +kernel
theorem dL_hangs_346 : decode cL_hangs 346 = .ok (.iconst 4, 1) := by decide +kernel
theorem dL_hangs_347 : decode cL_hangs 347 = .ok (.invokestatic 118, 3) := by decide +kernel
theorem dL_hangs_350 : decode cL_hangs 350 = .ok (.iadd, 1) := by decide +kernel
theorem dL_hangs_351 : decode cL_hangs 351 = .ok (.istore_n 2, 1) := by decide +kernel
theorem dL_hangs_352 : decode cL_hangs 352 = .ok (.iload_n 1, 1) := by decide +kernel
theorem dL_hangs_353 : decode cL_hangs 353 = .ok (.aload_n 0, 1) := by decide +kernel
theorem dL_hangs_354 : decode cL_hangs 354 = .ok (.iload 5, 2) := by decide +kernel
theorem dL_hangs_356 : decode cL_hangs 356 = .ok (.iconst 5, 1) := by decide +kernel
theorem dL_hangs_357 : decode cL_hangs 357 = .ok (.invokestatic 118, 3) := by decide +kernel
theorem dL_hangs_360 : decode cL_hangs 360 = .ok (.iadd, 1) := by decide +kernel
theorem dL_hangs_361 : decode cL_hangs 361 = .ok (.istore_n 1, 1) := by decide +kernel
theorem dL_hangs_362 : decode cL_hangs 362 = .ok (.iload_n 3, 1) := by decide +kernel
theorem dL_hangs_363 : decode cL_hangs 363 = .ok (.aload_n 0, 1) := by decide +kernel
theorem dL_hangs_364 : decode cL_hangs 364 = .ok (.iload 5, 2) := by decide +kernel
theorem dL_hangs_366 : decode cL_hangs 366 = .ok (.bipush 6, 2) := by decide +kernel
theorem dL_hangs_368 : decode cL_hangs 368 = .ok (.invokestatic 118, 3) := by decide +kernel
theorem dL_hangs_371 : decode cL_hangs 371 = .ok (.iadd, 1) := by decide +kernel
theorem dL_hangs_372 : decode cL_hangs 372 = .ok (.istore_n 3, 1) := by decide +kernel
theorem dL_hangs_373 : decode cL_hangs 373 = .ok (.iinc 5 1, 3) := by decide +kernel
theorem dL_hangs_376 : decode cL_hangs 376 = .ok (.goto (-364), 3) := by decide +kernel
theorem dL_hangs_379 : decode cL_hangs 379 = .ok (.aload_n 0, 1) := by decide +kernel
theorem dL_hangs_380 : decode cL_hangs 380 = .ok (.iconst 0, 1) := by decide +kernel
theorem dL_hangs_381 : decode cL_hangs 381 = .ok (.invokestatic 120, 3) := by decide +kernel
theorem dL_hangs_384 : decode cL_hangs 384 = .ok (.istore 5, 2) := by decide +kernel
theorem dL_hangs_386 : decode cL_hangs 386 = .ok (.bipush 10, 2) := by decide +kernel
theorem dL_hangs_388 : decode cL_hangs 388 = .ok (.istore 6, 2) := by decide +kernel
theorem dL_hangs_390 : decode cL_hangs 390 = .ok (.iconst 0, 1) := by decide +kernel
theorem dL_hangs_391 : decode cL_hangs 391 = .ok (.istore 7, 2) := by decide +kernel
theorem dL_hangs_393 : decode cL_hangs 393 = .ok (.iload 7, 2) := by decide +kernel
theorem dL_hangs_395 : decode cL_hangs 395 = .ok (.iload 5, 2) := by decide +kernel
theorem dL_hangs_397 : decode cL_hangs 397 = .ok (.if_icmp .ge 103, 3) := by decide +kernel
theorem dL_hangs_400 : decode cL_hangs 400 = .ok (.iload 7, 2) := by decide +kernel
theorem dL_hangs_402 : decode cL_hangs 402 = .ok (.bipush 8, 2) := by decide +kernel
theorem dL_hangs_404 : decode cL_hangs 404 = .ok (.if_icmp .ge 96, 3) := by decide +kernel
theorem dL_hangs_407 : decode cL_hangs 407 = .ok (.iload 4, 2) := by decide +kernel
theorem dL_hangs_409 : decode cL_hangs 409 = .ok (.ifCond .eq 91, 3) := by decide +kernel
theorem dL_hangs_412 : decode cL_hangs 412 = .ok (.aload_n 0, 1) := by decide +kernel
theorem dL_hangs_413 : decode cL_hangs 413 = .ok (.iload 7, 2) := by decide +kernel
theorem dL_hangs_415 : decode cL_hangs 415 = .ok (.iconst 0, 1) := by decide +kernel
theorem dL_hangs_416 : decode cL_hangs 416 = .ok (.invokestatic 122, 3) := by decide +kernel
theorem dL_hangs_419 : decode cL_hangs 419 = .ok (.ifCond .le 63, 3) := by decide +kernel
theorem dL_hangs_422 : decode cL_hangs 422 = .ok (.aload_n 0, 1) := by decide +kernel
theorem dL_hangs_423 : decode cL_hangs 423 = .ok (.iload 7, 2) := by decide +kernel
theorem dL_hangs_425 : decode cL_hangs 425 = .ok (.iconst 0, 1) := by decide +kernel
theorem dL_hangs_426 : decode cL_hangs 426 = .ok (.invokestatic 122, 3) := by decide +kernel
theorem dL_hangs_429 : decode cL_hangs 429 = .ok (.bipush 13, 2) := by decide +kernel
theorem dL_hangs_431 : decode cL_hangs 431 = .ok (.if_icmp .ge 51, 3) := by decide +kernel
theorem dL_hangs_434 : decode cL_hangs 434 = .ok (.aload_n 0, 1) := by decide +kernel
theorem dL_hangs_435 : decode cL_hangs 435 = .ok (.iload 7, 2) := by decide +kernel
theorem dL_hangs_437 : decode cL_hangs 437 = .ok (.iconst 1, 1) := by decide +kernel
theorem dL_hangs_438 : decode cL_hangs 438 = .ok (.invokestatic 122, 3) := by decide +kernel
theorem dL_hangs_441 : decode cL_hangs 441 = .ok (.ifCond .le 41, 3) := by decide +kernel
theorem dL_hangs_444 : decode cL_hangs 444 = .ok (.aload_n 0, 1) := by decide +kernel
theorem dL_hangs_445 : decode cL_hangs 445 = .ok (.iload 7, 2) := by decide +kernel
theorem dL_hangs_447 : decode cL_hangs 447 = .ok (.iconst 1, 1) := by decide +kernel
theorem dL_hangs_448 : decode cL_hangs 448 = .ok (.invokestatic 122, 3) := by decide +kernel
theorem dL_hangs_451 : decode cL_hangs 451 = .ok (.iload 6, 2) := by decide +kernel
theorem dL_hangs_453 : decode cL_hangs 453 = .ok (.if_icmp .gt 29, 3) := by decide +kernel
theorem dL_hangs_456 : decode cL_hangs 456 = .ok (.aload_n 0, 1) := by decide +kernel
theorem dL_hangs_457 : decode cL_hangs 457 = .ok (.iload 7, 2) := by decide +kernel
theorem dL_hangs_459 : decode cL_hangs 459 = .ok (.iconst 2, 1) := by decide +kernel
theorem dL_hangs_460 : decode cL_hangs 460 = .ok (.invokestatic 122, 3) := by decide +kernel
theorem dL_hangs_463 : decode cL_hangs 463 = .ok (.ifCond .lt 19, 3) := by decide +kernel
theorem dL_hangs_466 : decode cL_hangs 466 = .ok (.aload_n 0, 1) := by decide +kernel
theorem dL_hangs_467 : decode cL_hangs 467 = .ok (.iload 7, 2) := by decide +kernel
theorem dL_hangs_469 : decode cL_hangs 469 = .ok (.iconst 2, 1) := by decide +kernel
theorem dL_hangs_470 : decode cL_hangs 470 = .ok (.invokestatic 122, 3) := by decide +kernel
theorem dL_hangs_473 : decode cL_hangs 473 = .ok (.bipush 30, 2) := by decide +kernel
theorem dL_hangs_475 : decode cL_hangs 475 = .ok (.if_icmp .ge 7, 3) := by decide +kernel
theorem dL_hangs_478 : decode cL_hangs 478 = .ok (.iconst 1, 1) := by decide +kernel
theorem dL_hangs_479 : decode cL_hangs 479 = .ok (.goto 4, 3) := by decide +kernel
theorem dL_hangs_482 : decode cL_hangs 482 = .ok (.iconst 0, 1) := by decide +kernel
theorem dL_hangs_483 : decode cL_hangs 483 = .ok (.istore 4, 2) := by decide +kernel
theorem dL_hangs_485 : decode cL_hangs 485 = .ok (.aload_n 0, 1) := by decide +kernel
theorem dL_hangs_486 : decode cL_hangs 486 = .ok (.iload 7, 2) := by decide +kernel
theorem dL_hangs_488 : decode cL_hangs 488 = .ok (.iconst 1, 1) := by decide +kernel
theorem dL_hangs_489 : decode cL_hangs 489 = .ok (.invokestatic 122, 3) := by decide +kernel
theorem dL_hangs_492 : decode cL_hangs 492 = .ok (.istore 6, 2) := by decide +kernel
theorem dL_hangs_494 : decode cL_hangs 494 = .ok (.iinc 7 1, 3) := by decide +kernel
theorem dL_hangs_497 : decode cL_hangs 497 = .ok (.goto (-104), 3) := by decide +kernel
theorem dL_hangs_500 : decode cL_hangs 500 = .ok (.aload_n 0, 1) := by decide +kernel
theorem dL_hangs_501 : decode cL_hangs 501 = .ok (.iconst 2, 1) := by decide +kernel
theorem dL_hangs_502 : decode cL_hangs 502 = .ok (.invokestatic 120, 3) := by decide +kernel
theorem dL_hangs_505 : decode cL_hangs 505 = .ok (.istore 7, 2) := by decide +kernel
theorem dL_hangs_507 : decode cL_hangs 507 = .ok (.iconst 0, 1) := by decide +kernel
theorem dL_hangs_508 : decode cL_hangs 508 = .ok (.istore 8, 2) := by decide +kernel
theorem dL_hangs_510 : decode cL_hangs 510 = .ok (.iload 8, 2) := by decide +kernel
theorem dL_hangs_512 : decode cL_hangs 512 = .ok (.bipush 6, 2) := by decide +kernel
theorem dL_hangs_514 : decode cL_hangs 514 = .ok (.if_icmp .ge 276, 3) := by decide +kernel
theorem dL_hangs_517 : decode cL_hangs 517 = .ok (.iload 4, 2) := by decide +kernel
theorem dL_hangs_519 : decode cL_hangs 519 = .ok (.ifCond .eq 271, 3) := by decide +kernel
theorem dL_hangs_522 : decode cL_hangs 522 = .ok (.aload_n 0, 1) := by decide +kernel
theorem dL_hangs_523 : decode cL_hangs 523 = .ok (.iload 8, 2) := by decide +kernel
theorem dL_hangs_525 : decode cL_hangs 525 = .ok (.iconst 0, 1) := by decide +kernel
theorem dL_hangs_526 : decode cL_hangs 526 = .ok (.invokestatic 124, 3) := by decide +kernel
theorem dL_hangs_529 : decode cL_hangs 529 = .ok (.istore 9, 2) := by decide +kernel
theorem dL_hangs_531 : decode cL_hangs 531 = .ok (.iconst 0, 1) := by decide +kernel
theorem dL_hangs_532 : decode cL_hangs 532 = .ok (.istore 10, 2) := by decide +kernel
theorem dL_hangs_534 : decode cL_hangs 534 = .ok (.iconst 0, 1) := by decide +kernel
theorem dL_hangs_535 : decode cL_hangs 535 = .ok (.istore 11, 2) := by decide +kernel
theorem dL_hangs_537 : decode cL_hangs 537 = .ok (.iconst 0, 1) := by decide +kernel
theorem dL_hangs_538 : decode cL_hangs 538 = .ok (.istore 12, 2) := by decide +kernel
theorem dL_hangs_540 : decode cL_hangs 540 = .ok (.iload 12, 2) := by decide +kernel
theorem dL_hangs_542 : decode cL_hangs 542 = .ok (.bipush 40, 2) := by decide +kernel
theorem dL_hangs_544 : decode cL_hangs 544 = .ok (.if_icmp .ge 71, 3) := by decide +kernel
theorem dL_hangs_547 : decode cL_hangs 547 = .ok (.aload_n 0, 1) := by decide +kernel
theorem dL_hangs_548 : decode cL_hangs 548 = .ok (.iload 8, 2) := by decide +kernel
theorem dL_hangs_550 : decode cL_hangs 550 = .ok (.iload 12, 2) := by decide +kernel
theorem dL_hangs_552 : decode cL_hangs 552 = .ok (.invokestatic 126, 3) := by decide +kernel
theorem dL_hangs_555 : decode cL_hangs 555 = .ok (.ifCond .lt 60, 3) := by decide +kernel
theorem dL_hangs_558 : decode cL_hangs 558 = .ok (.iload 10, 2) := by decide +kernel
theorem dL_hangs_560 : decode cL_hangs 560 = .ok (.aload_n 0, 1) := by decide +kernel
theorem dL_hangs_561 : decode cL_hangs 561 = .ok (.iload 8, 2) := by decide +kernel
theorem dL_hangs_563 : decode cL_hangs 563 = .ok (.iload 12, 2) := by decide +kernel
theorem dL_hangs_565 : decode cL_hangs 565 = .ok (.invokestatic 126, 3) := by decide +kernel
theorem dL_hangs_568 : decode cL_hangs 568 = .ok (.bipush 63, 2) := by decide +kernel
theorem dL_hangs_570 : decode cL_hangs 570 = .ok (.if_icmp .ne 7, 3) := by decide +kernel
theorem dL_hangs_573 : decode cL_hangs 573 = .ok (.iconst 1, 1) := by decide +kernel
theorem dL_hangs_574 : decode cL_hangs 574 = .ok (.goto 4, 3) := by decide +kernel
theorem dL_hangs_577 : decode cL_hangs 577 = .ok (.iconst 0, 1) := by decide +kernel
theorem dL_hangs_578 : decode cL_hangs 578 = .ok (.iadd, 1) := by decide +kernel
theorem dL_hangs_579 : decode cL_hangs 579 = .ok (.istore 10, 2) := by decide +kernel
theorem dL_hangs_581 : decode cL_hangs 581 = .ok (.iload 11, 2) := by decide +kernel
theorem dL_hangs_583 : decode cL_hangs 583 = .ok (.iload 12, 2) := by decide +kernel
theorem dL_hangs_585 : decode cL_hangs 585 = .ok (.ifCond .eq 16, 3) := by decide +kernel
theorem dL_hangs_588 : decode cL_hangs 588 = .ok (.aload_n 0, 1) := by decide +kernel
theorem dL_hangs_589 : decode cL_hangs 589 = .ok (.iload 8, 2) := by decide +kernel
theorem dL_hangs_591 : decode cL_hangs 591 = .ok (.iload 12, 2) := by decide +kernel
theorem dL_hangs_593 : decode cL_hangs 593 = .ok (.invokestatic 126, 3) := by decide +kernel
theorem dL_hangs_596 : decode cL_hangs 596 = .ok (.bipush 44, 2) := by decide +kernel
theorem dL_hangs_598 : decode cL_hangs 598 = .ok (.if_icmp .ne 7, 3) := by decide +kernel
theorem dL_hangs_601 : decode cL_hangs 601 = .ok (.iconst 1, 1) := by decide +kernel
theorem dL_hangs_602 : decode cL_hangs 602 = .ok (.goto 4, 3) := by decide +kernel
theorem dL_hangs_605 : decode cL_hangs 605 = .ok (.iconst 0, 1) := by decide +kernel
theorem dL_hangs_606 : decode cL_hangs 606 = .ok (.iadd, 1) := by decide +kernel
theorem dL_hangs_607 : decode cL_hangs 607 = .ok (.istore 11, 2) := by decide +kernel
theorem dL_hangs_609 : decode cL_hangs 609 = .ok (.iinc 12 1, 3) := by decide +kernel
theorem dL_hangs_612 : decode cL_hangs 612 = .ok (.goto (-72), 3) := by decide +kernel
theorem dL_hangs_615 : decode cL_hangs 615 = .ok (.iload 8, 2) := by decide +kernel
theorem dL_hangs_617 : decode cL_hangs 617 = .ok (.iload 7, 2) := by decide +kernel
theorem dL_hangs_619 : decode cL_hangs 619 = .ok (.if_icmp .ge 136, 3) := by decide +kernel
theorem dL_hangs_622 : decode cL_hangs 622 = .ok (.iload 9, 2) := by decide +kernel
theorem dL_hangs_624 : decode cL_hangs 624 = .ok (.ifCond .lt 127, 3) := by decide +kernel
theorem dL_hangs_627 : decode cL_hangs 627 = .ok (.iload 9, 2) := by decide +kernel
theorem dL_hangs_629 : decode cL_hangs 629 = .ok (.aload_n 0, 1) := by decide +kernel
theorem dL_hangs_630 : decode cL_hangs 630 = .ok (.iload 8, 2) := by decide +kernel
theorem dL_hangs_632 : decode cL_hangs 632 = .ok (.iconst 5, 1) := by decide +kernel
theorem dL_hangs_633 : decode cL_hangs 633 = .ok (.invokestatic 124, 3) := by decide +kernel
theorem dL_hangs_636 : decode cL_hangs 636 = .ok (.if_icmp .gt 115, 3) := by decide +kernel
theorem dL_hangs_639 : decode cL_hangs 639 = .ok (.aload_n 0, 1) := by decide +kernel
theorem dL_hangs_640 : decode cL_hangs 640 = .ok (.iload 8, 2) := by decide +kernel
theorem dL_hangs_642 : decode cL_hangs 642 = .ok (.iconst 5, 1) := by decide +kernel
theorem dL_hangs_643 : decode cL_hangs 643 = .ok (.invokestatic 124, 3) := by decide +kernel
theorem dL_hangs_646 : decode cL_hangs 646 = .ok (.bipush 13, 2) := by decide +kernel
theorem dL_hangs_648 : decode cL_hangs 648 = .ok (.if_icmp .ge 103, 3) := by decide +kernel
theorem dL_hangs_651 : decode cL_hangs 651 = .ok (.iload 11, 2) := by decide +kernel
theorem dL_hangs_653 : decode cL_hangs 653 = .ok (.iload 9, 2) := by decide +kernel
theorem dL_hangs_655 : decode cL_hangs 655 = .ok (.if_icmp .ne 96, 3) := by decide +kernel
theorem dL_hangs_658 : decode cL_hangs 658 = .ok (.iload 10, 2) := by decide +kernel
theorem dL_hangs_660 : decode cL_hangs 660 = .ok (.aload_n 0, 1) := by decide +kernel
theorem dL_hangs_661 : decode cL_hangs 661 = .ok (.iload 8, 2) := by decide +kernel
theorem dL_hangs_663 : decode cL_hangs 663 = .ok (.iconst 1, 1) := by decide +kernel
theorem dL_hangs_664 : decode cL_hangs 664 = .ok (.invokestatic 124, 3) := by decide +kernel
theorem dL_hangs_667 : decode cL_hangs 667 = .ok (.if_icmp .ne 84, 3) := by decide +kernel
theorem dL_hangs_670 : decode cL_hangs 670 = .ok (.aload_n 0, 1) := by decide +kernel
theorem dL_hangs_671 : decode cL_hangs 671 = .ok (.iload 8, 2) := by decide +kernel
theorem dL_hangs_673 : decode cL_hangs 673 = .ok (.iconst 2, 1) := by decide +kernel
theorem dL_hangs_674 : decode cL_hangs 674 = .ok (.invokestatic 124, 3) := by decide +kernel
theorem dL_hangs_677 : decode cL_hangs 677 = .ok (.ifCond .lt 74, 3) := by decide +kernel
theorem dL_hangs_680 : decode cL_hangs 680 = .ok (.aload_n 0, 1) := by decide +kernel
theorem dL_hangs_681 : decode cL_hangs 681 = .ok (.iload 8, 2) := by decide +kernel
theorem dL_hangs_683 : decode cL_hangs 683 = .ok (.iconst 3, 1) := by decide +kernel
theorem dL_hangs_684 : decode cL_hangs 684 = .ok (.invokestatic 124, 3) := by decide +kernel
theorem dL_hangs_687 : decode cL_hangs 687 = .ok (.aload_n 0, 1) := by decide +kernel
theorem dL_hangs_688 : decode cL_hangs 688 = .ok (.iload 8, 2) := by decide +kernel
theorem dL_hangs_690 : decode cL_hangs 690 = .ok (.iconst 4, 1) := by decide +kernel
theorem dL_hangs_691 : decode cL_hangs 691 = .ok (.invokestatic 124, 3) := by decide +kernel
theorem dL_hangs_694 : decode cL_hangs 694 = .ok (.if_icmp .ne 57, 3) := by decide +kernel
theorem dL_hangs_697 : decode cL_hangs 697 = .ok (.aload_n 0, 1) := by decide +kernel
theorem dL_hangs_698 : decode cL_hangs 698 = .ok (.iload 8, 2) := by decide +kernel
theorem dL_hangs_700 : decode cL_hangs 700 = .ok (.iconst 3, 1) := by decide +kernel
theorem dL_hangs_701 : decode cL_hangs 701 = .ok (.invokestatic 124, 3) := by decide +kernel
theorem dL_hangs_704 : decode cL_hangs 704 = .ok (.iconst (-1), 1) := by decide +kernel
theorem dL_hangs_705 : decode cL_hangs 705 = .ok (.if_icmp .lt 46, 3) := by decide +kernel
theorem dL_hangs_708 : decode cL_hangs 708 = .ok (.aload_n 0, 1) := by decide +kernel
theorem dL_hangs_709 : decode cL_hangs 709 = .ok (.iload 8, 2) := by decide +kernel
theorem dL_hangs_711 : decode cL_hangs 711 = .ok (.iconst 3, 1) := by decide +kernel
theorem dL_hangs_712 : decode cL_hangs 712 = .ok (.invokestatic 124, 3) := by decide +kernel
theorem dL_hangs_715 : decode cL_hangs 715 = .ok (.bipush 6, 2) := by decide +kernel
theorem dL_hangs_717 : decode cL_hangs 717 = .ok (.if_icmp .ge 34, 3) := by decide +kernel
theorem dL_hangs_720 : decode cL_hangs 720 = .ok (.aload_n 0, 1) := by decide +kernel
theorem dL_hangs_721 : decode cL_hangs 721 = .ok (.iload 8, 2) := by decide +kernel
theorem dL_hangs_723 : decode cL_hangs 723 = .ok (.iconst 3, 1) := by decide +kernel
theorem dL_hangs_724 : decode cL_hangs 724 = .ok (.invokestatic 124, 3) := by decide +kernel
theorem dL_hangs_727 : decode cL_hangs 727 = .ok (.ifCond .ge 20, 3) := by decide +kernel
theorem dL_hangs_730 : decode cL_hangs 730 = .ok (.iload 9, 2) := by decide +kernel
theorem dL_hangs_732 : decode cL_hangs 732 = .ok (.aload_n 0, 1) := by decide +kernel
theorem dL_hangs_733 : decode cL_hangs 733 = .ok (.iload 8, 2) := by decide +kernel
theorem dL_hangs_735 : decode cL_hangs 735 = .ok (.iconst 5, 1) := by decide +kernel
theorem dL_hangs_736 : decode cL_hangs 736 = .ok (.invokestatic 124, 3) := by decide +kernel
theorem dL_hangs_739 : decode cL_hangs 739 = .ok (.if_icmp .ne 12, 3) := by decide +kernel
theorem dL_hangs_742 : decode cL_hangs 742 = .ok (.iload 10, 2) := by decide +kernel
theorem dL_hangs_744 : decode cL_hangs 744 = .ok (.ifCond .ne 7, 3) := by decide +kernel
theorem dL_hangs_747 : decode cL_hangs 747 = .ok (.iconst 1, 1) := by decide +kernel
theorem dL_hangs_748 : decode cL_hangs 748 = .ok (.goto 34, 3) := by decide +kernel
theorem dL_hangs_751 : decode cL_hangs 751 = .ok (.iconst 0, 1) := by decide +kernel
theorem dL_hangs_752 : decode cL_hangs 752 = .ok (.goto 30, 3) := by decide +kernel
theorem dL_hangs_755 : decode cL_hangs 755 = .ok (.iload 9, 2) := by decide +kernel
theorem dL_hangs_757 : decode cL_hangs 757 = .ok (.iconst (-1), 1) := by decide +kernel
theorem dL_hangs_758 : decode cL_hangs 758 = .ok (.if_icmp .ne 23, 3) := by decide +kernel
theorem dL_hangs_761 : decode cL_hangs 761 = .ok (.iload 12, 2) := by decide +kernel
theorem dL_hangs_763 : decode cL_hangs 763 = .ok (.ifCond .ne 18, 3) := by decide +kernel
theorem dL_hangs_766 : decode cL_hangs 766 = .ok (.aload_n 0, 1) := by decide +kernel
theorem dL_hangs_767 : decode cL_hangs 767 = .ok (.iload 8, 2) := by decide +kernel
theorem dL_hangs_769 : decode cL_hangs 769 = .ok (.iconst 4, 1) := by decide +kernel
theorem dL_hangs_770 : decode cL_hangs 770 = .ok (.invokestatic 124, 3) := by decide +kernel
theorem dL_hangs_773 : decode cL_hangs 773 = .ok (.iconst (-1), 1) := by decide +kernel
theorem dL_hangs_774 : decode cL_hangs 774 = .ok (.if_icmp .ne 7, 3) := by decide +kernel
theorem dL_hangs_777 : decode cL_hangs 777 = .ok (.iconst 1, 1) := by decide +kernel
theorem dL_hangs_778 : decode cL_hangs 778 = .ok (.goto 4, 3) := by decide +kernel
theorem dL_hangs_781 : decode cL_hangs 781 = .ok (.iconst 0, 1) := by decide +kernel
theorem dL_hangs_782 : decode cL_hangs 782 = .ok (.istore 4, 2) := by decide +kernel
theorem dL_hangs_784 : decode cL_hangs 784 = .ok (.iinc 8 1, 3) := by decide +kernel
theorem dL_hangs_787 : decode cL_hangs 787 = .ok (.goto (-277), 3) := by decide +kernel
theorem dL_hangs_790 : decode cL_hangs 790 = .ok (.iconst 0, 1) := by decide +kernel
theorem dL_hangs_791 : decode cL_hangs 791 = .ok (.istore 8, 2) := by decide +kernel
theorem dL_hangs_793 : decode cL_hangs 793 = .ok (.iconst 0, 1) := by decide +kernel
theorem dL_hangs_794 : decode cL_hangs 794 = .ok (.istore 9, 2) := by decide +kernel
theorem dL_hangs_796 : decode cL_hangs 796 = .ok (.ldc 128, 2) := by decide +kernel
theorem dL_hangs_798 : decode cL_hangs 798 = .ok (.istore 10, 2) := by decide +kernel
theorem dL_hangs_800 : decode cL_hangs 800 = .ok (.iconst 0, 1) := by decide +kernel
theorem dL_hangs_801 : decode cL_hangs 801 = .ok (.istore 11, 2) := by decide +kernel
theorem dL_hangs_803 : decode cL_hangs 803 = .ok (.iload 11, 2) := by decide +kernel
theorem dL_hangs_805 : decode cL_hangs 805 = .ok (.bipush 30, 2) := by decide +kernel
theorem dL_hangs_807 : decode cL_hangs 807 = .ok (.if_icmp .ge 119, 3) := by decide +kernel
theorem dL_hangs_810 : decode cL_hangs 810 = .ok (.iload 4, 2) := by decide +kernel
theorem dL_hangs_812 : decode cL_hangs 812 = .ok (.ifCond .eq 114, 3) := by decide +kernel
theorem dL_hangs_815 : decode cL_hangs 815 = .ok (.aload_n 0, 1) := by decide +kernel
theorem dL_hangs_816 : decode cL_hangs 816 = .ok (.iload 11, 2) := by decide +kernel
theorem dL_hangs_818 : decode cL_hangs 818 = .ok (.iconst 0, 1) := by decide +kernel
theorem dL_hangs_819 : decode cL_hangs 819 = .ok (.invokestatic 129, 3) := by decide +kernel
theorem dL_hangs_822 : decode cL_hangs 822 = .ok (.istore 12, 2) := by decide +kernel
theorem dL_hangs_824 : decode cL_hangs 824 = .ok (.iload 12, 2) := by decide +kernel
theorem dL_hangs_826 : decode cL_hangs 826 = .ok (.ifCond .lt 57, 3) := by decide +kernel
theorem dL_hangs_829 : decode cL_hangs 829 = .ok (.iload 12, 2) := by decide +kernel
theorem dL_hangs_831 : decode cL_hangs 831 = .ok (.bipush 30, 2) := by decide +kernel
theorem dL_hangs_833 : decode cL_hangs 833 = .ok (.if_icmp .ge 50, 3) := by decide +kernel
theorem dL_hangs_836 : decode cL_hangs 836 = .ok (.iload 9, 2) := by decide +kernel
theorem dL_hangs_838 : decode cL_hangs 838 = .ok (.iload 12, 2) := by decide +kernel
theorem dL_hangs_840 : decode cL_hangs 840 = .ok (.ishr, 1) := by decide +kernel
theorem dL_hangs_841 : decode cL_hangs 841 = .ok (.iconst 1, 1) := by decide +kernel
theorem dL_hangs_842 : decode cL_hangs 842 = .ok (.iand, 1) := by decide +kernel
theorem dL_hangs_843 : decode cL_hangs 843 = .ok (.ifCond .ne 40, 3) := by decide +kernel
theorem dL_hangs_846 : decode cL_hangs 846 = .ok (.aload_n 0, 1) := by decide +kernel
theorem dL_hangs_847 : decode cL_hangs 847 = .ok (.iload 11, 2) := by decide +kernel
theorem dL_hangs_849 : decode cL_hangs 849 = .ok (.iconst 1, 1) := by decide +kernel
theorem dL_hangs_850 : decode cL_hangs 850 = .ok (.invokestatic 129, 3) := by decide +kernel
theorem dL_hangs_853 : decode cL_hangs 853 = .ok (.ifCond .lt 30, 3) := by decide +kernel
theorem dL_hangs_856 : decode cL_hangs 856 = .ok (.aload_n 0, 1) := by decide +kernel
theorem dL_hangs_857 : decode cL_hangs 857 = .ok (.iload 11, 2) := by decide +kernel
theorem dL_hangs_859 : decode cL_hangs 859 = .ok (.iconst 1, 1) := by decide +kernel
theorem dL_hangs_860 : decode cL_hangs 860 = .ok (.invokestatic 129, 3) := by decide +kernel
theorem dL_hangs_863 : decode cL_hangs 863 = .ok (.iload 10, 2) := by decide +kernel
theorem dL_hangs_865 : decode cL_hangs 865 = .ok (.if_icmp .gt 18, 3) := by decide +kernel
theorem dL_hangs_868 : decode cL_hangs 868 = .ok (.aload_n 0, 1) := by decide +kernel
theorem dL_hangs_869 : decode cL_hangs 869 = .ok (.iload 11, 2) := by decide +kernel
theorem dL_hangs_871 : decode cL_hangs 871 = .ok (.iconst 1, 1) := by decide +kernel
theorem dL_hangs_872 : decode cL_hangs 872 = .ok (.invokestatic 129, 3) := by decide +kernel
theorem dL_hangs_875 : decode cL_hangs 875 = .ok (.iload_n 3, 1) := by decide +kernel
theorem dL_hangs_876 : decode cL_hangs 876 = .ok (.if_icmp .gt 7, 3) := by decide +kernel
theorem dL_hangs_879 : decode cL_hangs 879 = .ok (.iconst 1, 1) := by decide +kernel
theorem dL_hangs_880 : decode cL_hangs 880 = .ok (.goto 4, 3) := by decide +kernel
theorem dL_hangs_883 : decode cL_hangs 883 = .ok (.iconst 0, 1) := by decide +kernel
theorem dL_hangs_884 : decode cL_hangs 884 = .ok (.istore 4, 2) := by decide +kernel
theorem dL_hangs_886 : decode cL_hangs 886 = .ok (.iload 9, 2) := by decide +kernel
theorem dL_hangs_888 : decode cL_hangs 888 = .ok (.iload 4, 2) := by decide +kernel
theorem dL_hangs_890 : decode cL_hangs 890 = .ok (.ifCond .eq 10, 3) := by decide +kernel
theorem dL_hangs_893 : decode cL_hangs 893 = .ok (.iconst 1, 1) := by decide +kernel
theorem dL_hangs_894 : decode cL_hangs 894 = .ok (.iload 12, 2) := by decide +kernel
theorem dL_hangs_896 : decode cL_hangs 896 = .ok (.ishl, 1) := by decide +kernel
theorem dL_hangs_897 : decode cL_hangs 897 = .ok (.goto 4, 3) := by decide +kernel
theorem dL_hangs_900 : decode cL_hangs 900 = .ok (.iconst 0, 1) := by decide +kernel
theorem dL_hangs_901 : decode cL_hangs 901 = .ok (.ior, 1) := by decide +kernel
theorem dL_hangs_902 : decode cL_hangs 902 = .ok (.istore 9, 2) := by decide +kernel
theorem dL_hangs_904 : decode cL_hangs 904 = .ok (.aload_n 0, 1) := by decide +kernel
theorem dL_hangs_905 : decode cL_hangs 905 = .ok (.iload 11, 2) := by decide +kernel
theorem dL_hangs_907 : decode cL_hangs 907 = .ok (.iconst 1, 1) := by decide +kernel
theorem dL_hangs_908 : decode cL_hangs 908 = .ok (.invokestatic 129, 3) := by decide +kernel
theorem dL_hangs_911 : decode cL_hangs 911 = .ok (.istore 10, 2) := by decide +kernel
theorem dL_hangs_913 : decode cL_hangs 913 = .ok (.iload 8, 2) := by decide +kernel
theorem dL_hangs_915 : decode cL_hangs 915 = .ok (.iload 10, 2) := by decide +kernel
theorem dL_hangs_917 : decode cL_hangs 917 = .ok (.iadd, 1) := by decide +kernel
theorem dL_hangs_918 : decode cL_hangs 918 = .ok (.istore 8, 2) := by decide +kernel
theorem dL_hangs_920 : decode cL_hangs 920 = .ok (.iinc 11 1, 3) := by decide +kernel
theorem dL_hangs_923 : decode cL_hangs 923 = .ok (.goto (-120), 3) := by decide +kernel
theorem dL_hangs_926 : decode cL_hangs 926 = .ok (.aload_n 0, 1) := by decide +kernel
theorem dL_hangs_927 : decode cL_hangs 927 = .ok (.iconst 0, 1) := by decide +kernel
theorem dL_hangs_928 : decode cL_hangs 928 = .ok (.invokestatic 131, 3) := by decide +kernel
theorem dL_hangs_931 : decode cL_hangs 931 = .ok (.istore 11, 2) := by decide +kernel
theorem dL_hangs_933 : decode cL_hangs 933 = .ok (.aload_n 0, 1) := by decide +kernel
theorem dL_hangs_934 : decode cL_hangs 934 = .ok (.iconst 1, 1) := by decide +kernel
theorem dL_hangs_935 : decode cL_hangs 935 = .ok (.invokestatic 131, 3) := by decide +kernel
theorem dL_hangs_938 : decode cL_hangs 938 = .ok (.istore 12, 2) := by decide +kernel
theorem dL_hangs_940 : decode cL_hangs 940 = .ok (.aload_n 0, 1) := by decide +kernel
theorem dL_hangs_941 : decode cL_hangs 941 = .ok (.iconst 1, 1) := by decide +kernel
theorem dL_hangs_942 : decode cL_hangs 942 = .ok (.invokestatic 120, 3) := by decide +kernel
theorem dL_hangs_945 : decode cL_hangs 945 = .ok (.istore 13, 2) := by decide +kernel
theorem dL_hangs_947 : decode cL_hangs 947 = .ok (.iload 4, 2) := by decide +kernel
theorem dL_hangs_949 : decode cL_hangs 949 = .ok (.ifCond .eq 223, 3) := by decide +kernel
theorem dL_hangs_952 : decode cL_hangs 952 = .ok (.iload_n 1, 1) := by decide +kernel
theorem dL_hangs_953 : decode cL_hangs 953 = .ok (.aload_n 0, 1) := by decide +kernel
theorem dL_hangs_954 : decode cL_hangs 954 = .ok (.iconst 4, 1) := by decide +kernel
theorem dL_hangs_955 : decode cL_hangs 955 = .ok (.invokestatic 120, 3) := by decide +kernel
theorem dL_hangs_958 : decode cL_hangs 958 = .ok (.if_icmp .ne 214, 3) := by decide +kernel
theorem dL_hangs_961 : decode cL_hangs 961 = .ok (.iload_n 2, 1) := by decide +kernel
theorem dL_hangs_962 : decode cL_hangs 962 = .ok (.aload_n 0, 1) := by decide +kernel
theorem dL_hangs_963 : decode cL_hangs 963 = .ok (.iconst 5, 1) := by decide +kernel
theorem dL_hangs_964 : decode cL_hangs 964 = .ok (.invokestatic 120, 3) := by decide +kernel
theorem dL_hangs_967 : decode cL_hangs 967 = .ok (.if_icmp .ne 205, 3) := by decide +kernel
theorem dL_hangs_970 : decode cL_hangs 970 = .ok (.iload_n 3, 1) := by decide +kernel
theorem dL_hangs_971 : decode cL_hangs 971 = .ok (.aload_n 0, 1) := by decide +kernel
theorem dL_hangs_972 : decode cL_hangs 972 = .ok (.iconst 3, 1) := by decide +kernel
theorem dL_hangs_973 : decode cL_hangs 973 = .ok (.invokestatic 120, 3) := by decide +kernel
theorem dL_hangs_976 : decode cL_hangs 976 = .ok (.if_icmp .ne 196, 3) := by decide +kernel
theorem dL_hangs_979 : decode cL_hangs 979 = .ok (.iload 8, 2) := by decide +kernel
theorem dL_hangs_981 : decode cL_hangs 981 = .ok (.bipush 12, 2) := by decide +kernel
theorem dL_hangs_983 : decode cL_hangs 983 = .ok (.iload_n 3, 1) := by decide +kernel
theorem dL_hangs_984 : decode cL_hangs 984 = .ok (.imul, 1) := by decide +kernel
theorem dL_hangs_985 : decode cL_hangs 985 = .ok (.if_icmp .gt 187, 3) := by decide +kernel
theorem dL_hangs_988 : decode cL_hangs 988 = .ok (.iload 5, 2) := by decide +kernel
theorem dL_hangs_990 : decode cL_hangs 990 = .ok (.ifCond .lt 182, 3) := by decide +kernel
theorem dL_hangs_993 : decode cL_hangs 993 = .ok (.iload 5, 2) := by decide +kernel
theorem dL_hangs_995 : decode cL_hangs 995 = .ok (.bipush 8, 2) := by decide +kernel
theorem dL_hangs_997 : decode cL_hangs 997 = .ok (.if_icmp .gt 175, 3) := by decide +kernel
theorem dL_hangs_1000 : decode cL_hangs 1000 = .ok (.aload_n 0, 1) := by decide +kernel
theorem dL_hangs_1001 : decode cL_hangs 1001 = .ok (.iload 5, 2) := by decide +kernel
theorem dL_hangs_1003 : decode cL_hangs 1003 = .ok (.iconst 0, 1) := by decide +kernel
theorem dL_hangs_1004 : decode cL_hangs 1004 = .ok (.invokestatic 122, 3) := by decide +kernel
theorem dL_hangs_1007 : decode cL_hangs 1007 = .ok (.iconst (-1), 1) := by decide +kernel
theorem dL_hangs_1008 : decode cL_hangs 1008 = .ok (.if_icmp .ne 164, 3) := by decide +kernel
theorem dL_hangs_1011 : decode cL_hangs 1011 = .ok (.iload 7, 2) := by decide +kernel
theorem dL_hangs_1013 : decode cL_hangs 1013 = .ok (.iload 13, 2) := by decide +kernel
theorem dL_hangs_1015 : decode cL_hangs 1015 = .ok (.bipush 6, 2) := by decide +kernel
theorem dL_hangs_1017 : decode cL_hangs 1017 = .ok (.if_icmp .ge 8, 3) := by decide +kernel
theorem dL_hangs_1020 : decode cL_hangs 1020 = .ok (.iload 13, 2) := by decide +kernel
theorem dL_hangs_1022 : decode cL_hangs 1022 = .ok (.goto 5, 3) := by decide +kernel
theorem dL_hangs_1025 : decode cL_hangs 1025 = .ok (.bipush 6, 2) := by decide +kernel
theorem dL_hangs_1027 : decode cL_hangs 1027 = .ok (.if_icmp .ne 145, 3) := by decide +kernel
theorem dL_hangs_1030 : decode cL_hangs 1030 = .ok (.iload_n 3, 1) := by decide +kernel
theorem dL_hangs_1031 : decode cL_hangs 1031 = .ok (.iload 13, 2) := by decide +kernel
theorem dL_hangs_1033 : decode cL_hangs 1033 = .ok (.if_icmp .gt 139, 3) := by decide +kernel
theorem dL_hangs_1036 : decode cL_hangs 1036 = .ok (.iload 11, 2) := by decide +kernel
theorem dL_hangs_1038 : decode cL_hangs 1038 = .ok (.iconst (-1), 1) := by decide +kernel
theorem dL_hangs_1039 : decode cL_hangs 1039 = .ok (.if_icmp .ne 7, 3) := by decide +kernel
theorem dL_hangs_1042 : decode cL_hangs 1042 = .ok (.iconst 1, 1) := by decide +kernel
theorem dL_hangs_1043 : decode cL_hangs 1043 = .ok (.goto 4, 3) := by decide +kernel
theorem dL_hangs_1046 : decode cL_hangs 1046 = .ok (.iconst 0, 1) := by decide +kernel
theorem dL_hangs_1047 : decode cL_hangs 1047 = .ok (.iload 12, 2) := by decide +kernel
theorem dL_hangs_1049 : decode cL_hangs 1049 = .ok (.iconst (-1), 1) := by decide +kernel
theorem dL_hangs_1050 : decode cL_hangs 1050 = .ok (.if_icmp .ne 7, 3) := by decide +kernel
theorem dL_hangs_1053 : decode cL_hangs 1053 = .ok (.iconst 1, 1) := by decide +kernel
theorem dL_hangs_1054 : decode cL_hangs 1054 = .ok (.goto 4, 3) := by decide +kernel
theorem dL_hangs_1057 : decode cL_hangs 1057 = .ok (.iconst 0, 1) := by decide +kernel
theorem dL_hangs_1058 : decode cL_hangs 1058 = .ok (.if_icmp .ne 114, 3) := by decide +kernel
theorem dL_hangs_1061 : decode cL_hangs 1061 = .ok (.iload 12, 2) := by decide +kernel
theorem dL_hangs_1063 : decode cL_hangs 1063 = .ok (.iconst 3, 1) := by decide +kernel
theorem dL_hangs_1064 : decode cL_hangs 1064 = .ok (.if_icmp .ge 108, 3) := by decide +kernel
theorem dL_hangs_1067 : decode cL_hangs 1067 = .ok (.iload 12, 2) := by decide +kernel
theorem dL_hangs_1069 : decode cL_hangs 1069 = .ok (.ifCond .eq 103, 3) := by decide +kernel
theorem dL_hangs_1072 : decode cL_hangs 1072 = .ok (.aload_n 0, 1) := by decide +kernel
theorem dL_hangs_1073 : decode cL_hangs 1073 = .ok (.invokevirtual 133, 3) := by decide +kernel
theorem dL_hangs_1076 : decode cL_hangs 1076 = .ok (.iload 13, 2) := by decide +kernel
theorem dL_hangs_1078 : decode cL_hangs 1078 = .ok (.ifCond .ne 7, 3) := by decide +kernel
theorem dL_hangs_1081 : decode cL_hangs 1081 = .ok (.dconst 1, 1) := by decide +kernel
theorem dL_hangs_1082 : decode cL_hangs 1082 = .ok (.goto 12, 3) := by decide +kernel
theorem dL_hangs_1085 : decode cL_hangs 1085 = .ok (.iload 13, 2) := by decide +kernel
theorem dL_hangs_1087 : decode cL_hangs 1087 = .ok (.iload_n 3, 1) := by decide +kernel
theorem dL_hangs_1088 : decode cL_hangs 1088 = .ok (.isub, 1) := by decide +kernel
theorem dL_hangs_1089 : decode cL_hangs 1089 = .ok (.i2d, 1) := by decide +kernel
theorem dL_hangs_1090 : decode cL_hangs 1090 = .ok (.iload 13, 2) := by decide +kernel
theorem dL_hangs_1092 : decode cL_hangs 1092 = .ok (.i2d, 1) := by decide +kernel
theorem dL_hangs_1093 : decode cL_hangs 1093 = .ok (.ddiv, 1) := by decide +kernel
theorem dL_hangs_1094 : decode cL_hangs 1094 = .ok (.dcmp .l, 1) := by decide +kernel
theorem dL_hangs_1095 : decode cL_hangs 1095 = .ok (.ifCond .ne 77, 3) := by decide +kernel
theorem dL_hangs_1098 : decode cL_hangs 1098 = .ok (.iload 5, 2) := by decide +kernel
theorem dL_hangs_1100 : decode cL_hangs 1100 = .ok (.ifCond .le 43, 3) := by decide +kernel
theorem dL_hangs_1103 : decode cL_hangs 1103 = .ok (.aload_n 0, 1) := by decide +kernel
theorem dL_hangs_1104 : decode cL_hangs 1104 = .ok (.iconst 5, 1) := by decide +kernel
theorem dL_hangs_1105 : decode cL_hangs 1105 = .ok (.iconst 0, 1) := by decide +kernel
theorem dL_hangs_1106 : decode cL_hangs 1106 = .ok (.invokestatic 137, 3) := by decide +kernel
theorem dL_hangs_1109 : decode cL_hangs 1109 = .ok (.ifCond .lt 63, 3) := by decide +kernel
theorem dL_hangs_1112 : decode cL_hangs 1112 = .ok (.aload_n 0, 1) := by decide +kernel
theorem dL_hangs_1113 : decode cL_hangs 1113 = .ok (.iconst 5, 1) := by decide +kernel
theorem dL_hangs_1114 : decode cL_hangs 1114 = .ok (.iconst 0, 1) := by decide +kernel
theorem dL_hangs_1115 : decode cL_hangs 1115 = .ok (.invokestatic 137, 3) := by decide +kernel
theorem dL_hangs_1118 : decode cL_hangs 1118 = .ok (.aload_n 0, 1) := by decide +kernel
theorem dL_hangs_1119 : decode cL_hangs 1119 = .ok (.iconst 0, 1) := by decide +kernel
theorem dL_hangs_1120 : decode cL_hangs 1120 = .ok (.iconst 0, 1) := by decide +kernel
theorem dL_hangs_1121 : decode cL_hangs 1121 = .ok (.invokestatic 122, 3) := by decide +kernel
theorem dL_hangs_1124 : decode cL_hangs 1124 = .ok (.if_icmp .gt 48, 3) := by decide +kernel
theorem dL_hangs_1127 : decode cL_hangs 1127 = .ok (.aload_n 0, 1) := by decide +kernel
theorem dL_hangs_1128 : decode cL_hangs 1128 = .ok (.invokevirtual 139, 3) := by decide +kernel
theorem dL_hangs_1131 : decode cL_hangs 1131 = .ok (.aload_n 0, 1) := by decide +kernel
theorem dL_hangs_1132 : decode cL_hangs 1132 = .ok (.iconst 0, 1) := by decide +kernel
theorem dL_hangs_1133 : decode cL_hangs 1133 = .ok (.iconst 2, 1) := by decide +kernel
theorem dL_hangs_1134 : decode cL_hangs 1134 = .ok (.invokestatic 137, 3) := by decide +kernel
theorem dL_hangs_1137 : decode cL_hangs 1137 = .ok (.if_icmp .lt 35, 3) := by decide +kernel
theorem dL_hangs_1140 : decode cL_hangs 1140 = .ok (.goto 28, 3) := by decide +kernel
theorem dL_hangs_1143 : decode cL_hangs 1143 = .ok (.aload_n 0, 1) := by decide +kernel
theorem dL_hangs_1144 : decode cL_hangs 1144 = .ok (.iconst 3, 1) := by decide +kernel
theorem dL_hangs_1145 : decode cL_hangs 1145 = .ok (.iconst 1, 1) := by decide +kernel
theorem dL_hangs_1146 : decode cL_hangs 1146 = .ok (.invokestatic 137, 3) := by decide +kernel
theorem dL_hangs_1149 : decode cL_hangs 1149 = .ok (.iconst (-1), 1) := by decide +kernel
theorem dL_hangs_1150 : decode cL_hangs 1150 = .ok (.if_icmp .ne 22, 3) := by decide +kernel
theorem dL_hangs_1153 : decode cL_hangs 1153 = .ok (.aload_n 0, 1) := by decide +kernel
theorem dL_hangs_1154 : decode cL_hangs 1154 = .ok (.invokevirtual 139, 3) := by decide +kernel
theorem dL_hangs_1157 : decode cL_hangs 1157 = .ok (.ifCond .ne 15, 3) := by decide +kernel
theorem dL_hangs_1160 : decode cL_hangs 1160 = .ok (.aload_n 0, 1) := by decide +kernel
theorem dL_hangs_1161 : decode cL_hangs 1161 = .ok (.invokevirtual 142, 3) := by decide +kernel
theorem dL_hangs_1164 : decode cL_hangs 1164 = .ok (.iconst (-1), 1) := by decide +kernel
theorem dL_hangs_1165 : decode cL_hangs 1165 = .ok (.if_icmp .ne 7, 3) := by decide +kernel
theorem dL_hangs_1168 : decode cL_hangs 1168 = .ok (.iconst 1, 1) := by decide +kernel
theorem dL_hangs_1169 : decode cL_hangs 1169 = .ok (.goto 4, 3) := by decide +kernel
theorem dL_hangs_1172 : decode cL_hangs 1172 = .ok (.iconst 0, 1) := by decide +kernel
theorem dL_hangs_1173 : decode cL_hangs 1173 = .ok (.ireturn, 1) := by decide +kernel
