theorem dL_acts_0 : decode cL_acts 0 = .ok (.aload_n 1, 1) := by decide +kernel
theorem dL_acts_1 : decode cL_acts 1 = .ok (.iload_n 2, 1) := by decide +kernel
theorem dL_acts_2 : decode cL_acts 2 = .ok (.invokestatic 82, 3) := by decide +kernel
theorem dL_acts_5 : decode cL_acts 5 = .ok (.istore_n 3, 1) := by decide +kernel
theorem dL_acts_6 : decode cL_acts 6 = .ok (.iload_n 3, 1) := by decide +kernel
theorem dL_acts_7 : decode cL_acts 7 = .ok (.bipush 32, 2) := by decide +kernel
theorem dL_acts_9 : decode cL_acts 9 = .ok (.idiv, 1) := by decide +kernel
theorem dL_acts_10 : decode cL_acts 10 = .ok (.istore 4, 2) := by decide +kernel
theorem dL_acts_12 : decode cL_acts 12 = .ok (.iload_n 3, 1) := by decide +kernel
theorem dL_acts_13 : decode cL_acts 13 = .ok (.bipush 32, 2) := by decide +kernel
theorem dL_acts_15 : decode cL_acts 15 = .ok (.irem, 1) := by decide +kernel
theorem dL_acts_16 : decode cL_acts 16 = .ok (.tableswitch 334 0 18 #[92, 92, 92, 110, 128, 128, 128, 128, 157, 157, 157, 157, 157, 162, 162, 167, 172, 177, 177], 92) := by decide +kernel
theorem dL_acts_108 : decode cL_acts 108 = .ok (.aload_n 0, 1) := by decide +kernel
theorem dL_acts_109 : decode cL_acts 109 = .ok (.iload 4, 2) := by decide +kernel
theorem dL_acts_111 : decode cL_acts 111 = .ok (.bipush 6, 2) := by decide +kernel
theorem dL_acts_113 : decode cL_acts 113 = .ok (.irem, 1) := by decide +kernel
theorem dL_acts_114 : decode cL_acts 114 = .ok (.iload 4, 2) := by decide +kernel
theorem dL_acts_116 : decode cL_acts 116 = .ok (.bipush 6, 2) := by decide +kernel
theorem dL_acts_118 : decode cL_acts 118 = .ok (.idiv, 1) := by decide +kernel
theorem dL_acts_119 : decode cL_acts 119 = .ok (.bipush 10, 2) := by decide +kernel
theorem dL_acts_121 : decode cL_acts 121 = .ok (.irem, 1) := by decide +kernel
theorem dL_acts_122 : decode cL_acts 122 = .ok (.invokestatic 86, 3) := by decide +kernel
theorem dL_acts_125 : decode cL_acts 125 = .ok (.ireturn, 1) := by decide +kernel
theorem dL_acts_126 : decode cL_acts 126 = .ok (.aload_n 0, 1) := by decide +kernel
theorem dL_acts_127 : decode cL_acts 127 = .ok (.iload 4, 2) := by decide +kernel
theorem dL_acts_129 : decode cL_acts 129 = .ok (.bipush 6, 2) := by decide +kernel
theorem dL_acts_131 : decode cL_acts 131 = .ok (.irem, 1) := by decide +kernel
theorem dL_acts_132 : decode cL_acts 132 = .ok (.iload 4, 2) := by decide +kernel
theorem dL_acts_134 : decode cL_acts 134 = .ok (.bipush 6, 2) := by decide +kernel
theorem dL_acts_136 : decode cL_acts 136 = .ok (.idiv, 1) := by decide +kernel
theorem dL_acts_137 : decode cL_acts 137 = .ok (.bipush 10, 2) := by decide +kernel
theorem dL_acts_139 : decode cL_acts 139 = .ok (.irem, 1) := by decide +kernel
theorem dL_acts_140 : decode cL_acts 140 = .ok (.invokestatic 89, 3) := by decide +kernel
theorem dL_acts_143 : decode cL_acts 143 = .ok (.ireturn, 1) := by decide +kernel
theorem dL_acts_144 : decode cL_acts 144 = .ok (.aload_n 0, 1) := by decide +kernel
theorem dL_acts_145 : decode cL_acts 145 = .ok (.iload 4, 2) := by decide +kernel
theorem dL_acts_147 : decode cL_acts 147 = .ok (.bipush 6, 2) := by decide +kernel
theorem dL_acts_149 : decode cL_acts 149 = .ok (.irem, 1) := by decide +kernel
theorem dL_acts_150 : decode cL_acts 150 = .ok (.iload 4, 2) := by decide +kernel
theorem dL_acts_152 : decode cL_acts 152 = .ok (.bipush 6, 2) := by decide +kernel
theorem dL_acts_154 : decode cL_acts 154 = .ok (.idiv, 1) := by decide +kernel
theorem dL_acts_155 : decode cL_acts 155 = .ok (.bipush 30, 2) := by decide +kernel
theorem dL_acts_157 : decode cL_acts 157 = .ok (.irem, 1) := by decide +kernel
theorem dL_acts_158 : decode cL_acts 158 = .ok (.iload 4, 2) := by decide +kernel
theorem dL_acts_160 : decode cL_acts 160 = .ok (.sipush 256, 3) := by decide +kernel
theorem dL_acts_163 : decode cL_acts 163 = .ok (.idiv, 1) := by decide +kernel
theorem dL_acts_164 : decode cL_acts 164 = .ok (.bipush 31, 2) := by decide +kernel
theorem dL_acts_166 : decode cL_acts 166 = .ok (.irem, 1) := by decide +kernel
theorem dL_acts_167 : decode cL_acts 167 = .ok (.iconst 1, 1) := by decide +kernel
theorem dL_acts_168 : decode cL_acts 168 = .ok (.isub, 1) := by decide +kernel
theorem dL_acts_169 : decode cL_acts 169 = .ok (.invokestatic 91, 3) := by decide +kernel
theorem dL_acts_172 : decode cL_acts 172 = .ok (.ireturn, 1) := by decide +kernel
theorem dL_acts_173 : decode cL_acts 173 = .ok (.aload_n 0, 1) := by decide +kernel
theorem dL_acts_174 : decode cL_acts 174 = .ok (.invokestatic 94, 3) := by decide +kernel
theorem dL_acts_177 : decode cL_acts 177 = .ok (.ireturn, 1) := by decide +kernel
theorem dL_acts_178 : decode cL_acts 178 = .ok (.aload_n 0, 1) := by decide +kernel
theorem dL_acts_179 : decode cL_acts 179 = .ok (.invokestatic 97, 3) := by decide +kernel
theorem dL_acts_182 : decode cL_acts 182 = .ok (.ireturn, 1) := by decide +kernel
theorem dL_acts_183 : decode cL_acts 183 = .ok (.aload_n 0, 1) := by decide +kernel
theorem dL_acts_184 : decode cL_acts 184 = .ok (.invokevirtual 99, 3) := by decide +kernel
theorem dL_acts_187 : decode cL_acts 187 = .ok (.ireturn, 1) := by decide +kernel
theorem dL_acts_188 : decode cL_acts 188 = .ok (.aload_n 0, 1) := by decide +kernel
theorem dL_acts_189 : decode cL_acts 189 = .ok (.invokestatic 102, 3) := by decide +kernel
theorem dL_acts_192 : decode cL_acts 192 = .ok (.ireturn, 1) := by decide +kernel
theorem dL_acts_193 : decode cL_acts 193 = .ok (.aload_n 0, 1) := by decide +kernel
theorem dL_acts_194 : decode cL_acts 194 = .ok (.invokevirtual 104, 3) := by decide +kernel
theorem dL_acts_197 : decode cL_acts 197 = .ok (.istore 5, 2) := by decide +kernel
theorem dL_acts_199 : decode cL_acts 199 = .ok (.aload_n 0, 1) := by decide +kernel
theorem dL_acts_200 : decode cL_acts 200 = .ok (.bipush 103, 2) := by decide +kernel
theorem dL_acts_202 : decode cL_acts 202 = .ok (.invokestatic 66, 3) := by decide +kernel
theorem dL_acts_205 : decode cL_acts 205 = .ok (.istore 5, 2) := by decide +kernel
theorem dL_acts_207 : decode cL_acts 207 = .ok (.aload_n 0, 1) := by decide +kernel
theorem dL_acts_208 : decode cL_acts 208 = .ok (.bipush 111, 2) := by decide +kernel
theorem dL_acts_210 : decode cL_acts 210 = .ok (.invokestatic 66, 3) := by decide +kernel
theorem dL_acts_213 : decode cL_acts 213 = .ok (.istore 5, 2) := by decide +kernel
theorem dL_acts_215 : decode cL_acts 215 = .ok (.aload_n 0, 1) := by decide +kernel
theorem dL_acts_216 : decode cL_acts 216 = .ok (.bipush 59, 2) := by decide +kernel
theorem dL_acts_218 : decode cL_acts 218 = .ok (.invokestatic 66, 3) := by decide +kernel
theorem dL_acts_221 : decode cL_acts 221 = .ok (.istore 5, 2) := by decide +kernel
theorem dL_acts_223 : decode cL_acts 223 = .ok (.aload_n 0, 1) := by decide +kernel
theorem dL_acts_224 : decode cL_acts 224 = .ok (.iload 4, 2) := by decide +kernel
theorem dL_acts_226 : decode cL_acts 226 = .ok (.iconst 2, 1) := by decide +kernel
theorem dL_acts_227 : decode cL_acts 227 = .ok (.irem, 1) := by decide +kernel
theorem dL_acts_228 : decode cL_acts 228 = .ok (.ifCond .ne 8, 3) := by decide +kernel
theorem dL_acts_231 : decode cL_acts 231 = .ok (.bipush 101, 2) := by decide +kernel
theorem dL_acts_233 : decode cL_acts 233 = .ok (.goto 5, 3) := by decide +kernel
theorem dL_acts_236 : decode cL_acts 236 = .ok (.bipush 102, 2) := by decide +kernel
theorem dL_acts_238 : decode cL_acts 238 = .ok (.invokestatic 66, 3) := by decide +kernel
theorem dL_acts_241 : decode cL_acts 241 = .ok (.istore 5, 2) := by decide +kernel
theorem dL_acts_243 : decode cL_acts 243 = .ok (.aload_n 0, 1) := by decide +kernel
theorem dL_acts_244 : decode cL_acts 244 = .ok (.iload 4, 2) := by decide +kernel
theorem dL_acts_246 : decode cL_acts 246 = .ok (.iconst 2, 1) := by decide +kernel
theorem dL_acts_247 : decode cL_acts 247 = .ok (.irem, 1) := by decide +kernel
theorem dL_acts_248 : decode cL_acts 248 = .ok (.ifCond .ne 8, 3) := by decide +kernel
theorem dL_acts_251 : decode cL_acts 251 = .ok (.bipush 97, 2) := by decide +kernel
theorem dL_acts_253 : decode cL_acts 253 = .ok (.goto 5, 3) := by decide +kernel
theorem dL_acts_256 : decode cL_acts 256 = .ok (.bipush 101, 2) := by decide +kernel
theorem dL_acts_258 : decode cL_acts 258 = .ok (.invokestatic 66, 3) := by decide +kernel
theorem dL_acts_261 : decode cL_acts 261 = .ok (.istore 5, 2) := by decide +kernel
theorem dL_acts_263 : decode cL_acts 263 = .ok (.aload_n 0, 1) := by decide +kernel
theorem dL_acts_264 : decode cL_acts 264 = .ok (.iload 4, 2) := by decide +kernel
theorem dL_acts_266 : decode cL_acts 266 = .ok (.iconst 2, 1) := by decide +kernel
theorem dL_acts_267 : decode cL_acts 267 = .ok (.irem, 1) := by decide +kernel
theorem dL_acts_268 : decode cL_acts 268 = .ok (.ifCond .ne 8, 3) := by decide +kernel
theorem dL_acts_271 : decode cL_acts 271 = .ok (.bipush 114, 2) := by decide +kernel
theorem dL_acts_273 : decode cL_acts 273 = .ok (.goto 5, 3) := by decide +kernel
theorem dL_acts_276 : decode cL_acts 276 = .ok (.bipush 101, 2) := by decide +kernel
theorem dL_acts_278 : decode cL_acts 278 = .ok (.invokestatic 66, 3) := by decide +kernel
theorem dL_acts_281 : decode cL_acts 281 = .ok (.istore 5, 2) := by decide +kernel
theorem dL_acts_283 : decode cL_acts 283 = .ok (.aload_n 0, 1) := by decide +kernel
theorem dL_acts_284 : decode cL_acts 284 = .ok (.bipush 48, 2) := by decide +kernel
theorem dL_acts_286 : decode cL_acts 286 = .ok (.iload 4, 2) := by decide +kernel
theorem dL_acts_288 : decode cL_acts 288 = .ok (.iconst 2, 1) := by decide +kernel
theorem dL_acts_289 : decode cL_acts 289 = .ok (.idiv, 1) := by decide +kernel
theorem dL_acts_290 : decode cL_acts 290 = .ok (.bipush 6, 2) := by decide +kernel
theorem dL_acts_292 : decode cL_acts 292 = .ok (.irem, 1) := by decide +kernel
theorem dL_acts_293 : decode cL_acts 293 = .ok (.iadd, 1) := by decide +kernel
theorem dL_acts_294 : decode cL_acts 294 = .ok (.invokestatic 66, 3) := by decide +kernel
theorem dL_acts_297 : decode cL_acts 297 = .ok (.istore 5, 2) := by decide +kernel
theorem dL_acts_299 : decode cL_acts 299 = .ok (.aload_n 0, 1) := by decide +kernel
theorem dL_acts_300 : decode cL_acts 300 = .ok (.bipush 61, 2) := by decide +kernel
theorem dL_acts_302 : decode cL_acts 302 = .ok (.invokestatic 66, 3) := by decide +kernel
theorem dL_acts_305 : decode cL_acts 305 = .ok (.istore 5, 2) := by decide +kernel
theorem dL_acts_307 : decode cL_acts 307 = .ok (.aload_n 0, 1) := by decide +kernel
theorem dL_acts_308 : decode cL_acts 308 = .ok (.bipush 48, 2) := by decide +kernel
theorem dL_acts_310 : decode cL_acts 310 = .ok (.iload 4, 2) := by decide +kernel
theorem dL_acts_312 : decode cL_acts 312 = .ok (.bipush 16, 2) := by decide +kernel
theorem dL_acts_314 : decode cL_acts 314 = .ok (.idiv, 1) := by decide +kernel
theorem dL_acts_315 : decode cL_acts 315 = .ok (.bipush 10, 2) := by decide +kernel
theorem dL_acts_317 : decode cL_acts 317 = .ok (.irem, 1) := by decide +kernel
theorem dL_acts_318 : decode cL_acts 318 = .ok (.iadd, 1) := by decide +kernel
theorem dL_acts_319 : decode cL_acts 319 = .ok (.invokestatic 66, 3) := by decide +kernel
theorem dL_acts_322 : decode cL_acts 322 = .ok (.istore 5, 2) := by decide +kernel
theorem dL_acts_324 : decode cL_acts 324 = .ok (.iload 5, 2) := by decide +kernel
theorem dL_acts_326 : decode cL_acts 326 = .ok (.bipush 9, 2) := by decide +kernel
theorem dL_acts_328 : decode cL_acts 328 = .ok (.if_icmp .ne 19, 3) := by decide +kernel
theorem dL_acts_331 : decode cL_acts 331 = .ok (.aload_n 0, 1) := by decide +kernel
theorem dL_acts_332 : decode cL_acts 332 = .ok (.invokevirtual 107, 3) := by decide +kernel
theorem dL_acts_335 : decode cL_acts 335 = .ok (.bipush 9, 2) := by decide +kernel
theorem dL_acts_337 : decode cL_acts 337 = .ok (.if_icmp .ne 10, 3) := by decide +kernel
theorem dL_acts_340 : decode cL_acts 340 = .ok (.aload_n 0, 1) := by decide +kernel
theorem dL_acts_341 : decode cL_acts 341 = .ok (.invokestatic 110, 3) := by decide +kernel
theorem dL_acts_344 : decode cL_acts 344 = .ok (.goto 5, 3) := by decide +kernel
theorem dL_acts_347 : decode cL_acts 347 = .ok (.bipush (-9), 2) := by decide +kernel
theorem dL_acts_349 : decode cL_acts 349 = .ok (.ireturn, 1) := by decide +kernel
theorem dL_acts_350 : decode cL_acts 350 = .ok (.lconst 0, 1) := by decide +kernel
theorem dL_acts_351 : decode cL_acts 351 = .ok (.lstore 6, 2) := by decide +kernel
theorem dL_acts_353 : decode cL_acts 353 = .ok (.iconst 1, 1) := by decide +kernel
theorem dL_acts_354 : decode cL_acts 354 = .ok (.iload 4, 2) := by decide +kernel
theorem dL_acts_356 : decode cL_acts 356 = .ok (.bipush 12, 2) := by decide +kernel
theorem dL_acts_358 : decode cL_acts 358 = .ok (.irem, 1) := by decide +kernel
theorem dL_acts_359 : decode cL_acts 359 = .ok (.iadd, 1) := by decide +kernel
theorem dL_acts_360 : decode cL_acts 360 = .ok (.istore 8, 2) := by decide +kernel
theorem dL_acts_362 : decode cL_acts 362 = .ok (.iconst 0, 1) := by decide +kernel
theorem dL_acts_363 : decode cL_acts 363 = .ok (.istore 9, 2) := by decide +kernel
theorem dL_acts_365 : decode cL_acts 365 = .ok (.iload 9, 2) := by decide +kernel
theorem dL_acts_367 : decode cL_acts 367 = .ok (.iload 8, 2) := by decide +kernel
theorem dL_acts_369 : decode cL_acts 369 = .ok (.if_icmp .ge 36, 3) := by decide +kernel
theorem dL_acts_372 : decode cL_acts 372 = .ok (.lload 6, 2) := by decide +kernel
theorem dL_acts_374 : decode cL_acts 374 = .ok (.aload_n 1, 1) := by decide +kernel
theorem dL_acts_375 : decode cL_acts 375 = .ok (.iload_n 2, 1) := by decide +kernel
theorem dL_acts_376 : decode cL_acts 376 = .ok (.iconst 1, 1) := by decide +kernel
theorem dL_acts_377 : decode cL_acts 377 = .ok (.iadd, 1) := by decide +kernel
theorem dL_acts_378 : decode cL_acts 378 = .ok (.iload 9, 2) := by decide +kernel
theorem dL_acts_380 : decode cL_acts 380 = .ok (.iadd, 1) := by decide +kernel
theorem dL_acts_381 : decode cL_acts 381 = .ok (.invokestatic 82, 3) := by decide +kernel
theorem dL_acts_384 : decode cL_acts 384 = .ok (.bipush 11, 2) := by decide +kernel
theorem dL_acts_386 : decode cL_acts 386 = .ok (.idiv, 1) := by decide +kernel
theorem dL_acts_387 : decode cL_acts 387 = .ok (.bipush 30, 2) := by decide +kernel
theorem dL_acts_389 : decode cL_acts 389 = .ok (.irem, 1) := by decide +kernel
theorem dL_acts_390 : decode cL_acts 390 = .ok (.i2l, 1) := by decide +kernel
theorem dL_acts_391 : decode cL_acts 391 = .ok (.iconst 5, 1) := by decide +kernel
theorem dL_acts_392 : decode cL_acts 392 = .ok (.iload 9, 2) := by decide +kernel
theorem dL_acts_394 : decode cL_acts 394 = .ok (.imul, 1) := by decide +kernel
theorem dL_acts_395 : decode cL_acts 395 = .ok (.lshl, 1) := by decide +kernel
theorem dL_acts_396 : decode cL_acts 396 = .ok (.lor, 1) := by decide +kernel
theorem dL_acts_397 : decode cL_acts 397 = .ok (.lstore 6, 2) := by decide +kernel
theorem dL_acts_399 : decode cL_acts 399 = .ok (.iinc 9 1, 3) := by decide +kernel
theorem dL_acts_402 : decode cL_acts 402 = .ok (.goto (-37), 3) := by decide +kernel
theorem dL_acts_405 : decode cL_acts 405 = .ok (.aload_n 0, 1) := by decide +kernel
theorem dL_acts_406 : decode cL_acts 406 = .ok (.invokevirtual 104, 3) := by decide +kernel
theorem dL_acts_409 : decode cL_acts 409 = .ok (.ifCond .ge 8, 3) := by decide +kernel
theorem dL_acts_412 : decode cL_acts 412 = .ok (.bipush (-9), 2) := by decide +kernel
theorem dL_acts_414 : decode cL_acts 414 = .ok (.goto 21, 3) := by decide +kernel
theorem dL_acts_417 : decode cL_acts 417 = .ok (.aload_n 0, 1) := by decide +kernel
theorem dL_acts_418 : decode cL_acts 418 = .ok (.lload 6, 2) := by decide +kernel
theorem dL_acts_420 : decode cL_acts 420 = .ok (.iload 8, 2) := by decide +kernel
theorem dL_acts_422 : decode cL_acts 422 = .ok (.iconst 1, 1) := by decide +kernel
theorem dL_acts_423 : decode cL_acts 423 = .ok (.iload 4, 2) := by decide +kernel
theorem dL_acts_425 : decode cL_acts 425 = .ok (.bipush 12, 2) := by decide +kernel
theorem dL_acts_427 : decode cL_acts 427 = .ok (.idiv, 1) := by decide +kernel
theorem dL_acts_428 : decode cL_acts 428 = .ok (.bipush 9, 2) := by decide +kernel
theorem dL_acts_430 : decode cL_acts 430 = .ok (.irem, 1) := by decide +kernel
theorem dL_acts_431 : decode cL_acts 431 = .ok (.iadd, 1) := by decide +kernel
theorem dL_acts_432 : decode cL_acts 432 = .ok (.invokestatic 112, 3) := by decide +kernel
theorem dL_acts_435 : decode cL_acts 435 = .ok (.istore 9, 2) := by decide +kernel
theorem dL_acts_437 : decode cL_acts 437 = .ok (.iload 9, 2) := by decide +kernel
theorem dL_acts_439 : decode cL_acts 439 = .ok (.ifCond .lt 12, 3) := by decide +kernel
theorem dL_acts_442 : decode cL_acts 442 = .ok (.aload_n 0, 1) := by decide +kernel
theorem dL_acts_443 : decode cL_acts 443 = .ok (.invokevirtual 107, 3) := by decide +kernel
theorem dL_acts_446 : decode cL_acts 446 = .ok (.iload 9, 2) := by decide +kernel
theorem dL_acts_448 : decode cL_acts 448 = .ok (.if_icmp .eq 8, 3) := by decide +kernel
theorem dL_acts_451 : decode cL_acts 451 = .ok (.bipush (-9), 2) := by decide +kernel
theorem dL_acts_453 : decode cL_acts 453 = .ok (.goto 7, 3) := by decide +kernel
theorem dL_acts_456 : decode cL_acts 456 = .ok (.aload_n 0, 1) := by decide +kernel
theorem dL_acts_457 : decode cL_acts 457 = .ok (.invokestatic 110, 3) := by decide +kernel
theorem dL_acts_460 : decode cL_acts 460 = .ok (.ireturn, 1) := by decide +kernel
