theorem dX5_init_0 : decode cX5_init 0 = .ok (.aload_n 0, 1) := by decide +kernel
theorem dX5_init_1 : decode cX5_init 1 = .ok (.invokespecial 3, 3) := by decide +kernel
theorem dX5_init_4 : decode cX5_init 4 = .ok (.aload_n 0, 1) := by decide +kernel
theorem dX5_init_5 : decode cX5_init 5 = .ok (.bipush 64, 2) := by decide +kernel
theorem dX5_init_7 : decode cX5_init 7 = .ok (.newarray .int, 2) := by decide +kernel
theorem dX5_init_9 : decode cX5_init 9 = .ok (.putfield 9, 3) := by decide +kernel
theorem dX5_init_12 : decode cX5_init 12 = .ok (.return_, 1) := by decide +kernel
theorem dX5_run_0 : decode cX5_run 0 = .ok (.iload_n 2, 1) := by decide +kernel
theorem dX5_run_1 : decode cX5_run 1 = .ok (.ifCond .ge 6, 3) := by decide +kernel
theorem dX5_run_4 : decode cX5_run 4 = .ok (.ldc 15, 2) := by decide +kernel
theorem dX5_run_6 : decode cX5_run 6 = .ok (.ireturn, 1) := by decide +kernel
theorem dX5_run_7 : decode cX5_run 7 = .ok (.iconst 0, 1) := by decide +kernel
theorem dX5_run_8 : decode cX5_run 8 = .ok (.istore 4, 2) := by decide +kernel
theorem dX5_run_10 : decode cX5_run 10 = .ok (.iload_n 2, 1) := by decide +kernel
theorem dX5_run_11 : decode cX5_run 11 = .ok (.istore 5, 2) := by decide +kernel
theorem dX5_run_13 : decode cX5_run 13 = .ok (.iload_n 2, 1) := by decide +kernel
theorem dX5_run_14 : decode cX5_run 14 = .ok (.istore 6, 2) := by decide +kernel
theorem dX5_run_16 : decode cX5_run 16 = .ok (.iload 6, 2) := by decide +kernel
theorem dX5_run_18 : decode cX5_run 18 = .ok (.aload_n 1, 1) := by decide +kernel
theorem dX5_run_19 : decode cX5_run 19 = .ok (.getfield 16, 3) := by decide +kernel
theorem dX5_run_22 : decode cX5_run 22 = .ok (.if_icmp .ge 424, 3) := by decide +kernel
theorem dX5_run_25 : decode cX5_run 25 = .ok (.iload 6, 2) := by decide +kernel
theorem dX5_run_27 : decode cX5_run 27 = .ok (.iload 5, 2) := by decide +kernel
theorem dX5_run_29 : decode cX5_run 29 = .ok (.if_icmp .ge 6, 3) := by decide +kernel
theorem dX5_run_32 : decode cX5_run 32 = .ok (.goto 408, 3) := by decide +kernel
theorem dX5_run_35 : decode cX5_run 35 = .ok (.aload_n 1, 1) := by decide +kernel
theorem dX5_run_36 : decode cX5_run 36 = .ok (.getfield 22, 3) := by decide +kernel
theorem dX5_run_39 : decode cX5_run 39 = .ok (.iload 6, 2) := by decide +kernel
theorem dX5_run_41 : decode cX5_run 41 = .ok (.iaload, 1) := by decide +kernel
theorem dX5_run_42 : decode cX5_run 42 = .ok (.bipush 15, 2) := by decide +kernel
theorem dX5_run_44 : decode cX5_run 44 = .ok (.iand, 1) := by decide +kernel
theorem dX5_run_45 : decode cX5_run 45 = .ok (.istore 7, 2) := by decide +kernel
theorem dX5_run_47 : decode cX5_run 47 = .ok (.aload_n 1, 1) := by decide +kernel
theorem dX5_run_48 : decode cX5_run 48 = .ok (.getfield 22, 3) := by decide +kernel
theorem dX5_run_51 : decode cX5_run 51 = .ok (.iload 6, 2) := by decide +kernel
theorem dX5_run_53 : decode cX5_run 53 = .ok (.iaload, 1) := by decide +kernel
theorem dX5_run_54 : decode cX5_run 54 = .ok (.iconst 4, 1) := by decide +kernel
theorem dX5_run_55 : decode cX5_run 55 = .ok (.ishr, 1) := by decide +kernel
theorem dX5_run_56 : decode cX5_run 56 = .ok (.istore 8, 2) := by decide +kernel
theorem dX5_run_58 : decode cX5_run 58 = .ok (.iload 7, 2) := by decide +kernel
theorem dX5_run_60 : decode cX5_run 60 = .ok (.ifCond .ne 6, 3) := by decide +kernel
theorem dX5_run_63 : decode cX5_run 63 = .ok (.goto 383, 3) := by decide +kernel
theorem dX5_run_66 : decode cX5_run 66 = .ok (.iload 7, 2) := by decide +kernel
theorem dX5_run_68 : decode cX5_run 68 = .ok (.iconst 2, 1) := by decide +kernel
theorem dX5_run_69 : decode cX5_run 69 = .ok (.if_icmp .gt 57, 3) := by decide +kernel
theorem dX5_run_72 : decode cX5_run 72 = .ok (.iload 4, 2) := by decide +kernel
theorem dX5_run_74 : decode cX5_run 74 = .ok (.aload_n 0, 1) := by decide +kernel
theorem dX5_run_75 : decode cX5_run 75 = .ok (.getfield 9, 3) := by decide +kernel
theorem dX5_run_78 : decode cX5_run 78 = .ok (.arraylength, 1) := by decide +kernel
theorem dX5_run_79 : decode cX5_run 79 = .ok (.if_icmp .ge 16, 3) := by decide +kernel
theorem dX5_run_82 : decode cX5_run 82 = .ok (.iload 7, 2) := by decide +kernel
theorem dX5_run_84 : decode cX5_run 84 = .ok (.iconst 2, 1) := by decide +kernel
theorem dX5_run_85 : decode cX5_run 85 = .ok (.if_icmp .ne 13, 3) := by decide +kernel
theorem dX5_run_88 : decode cX5_run 88 = .ok (.iload 8, 2) := by decide +kernel
theorem dX5_run_90 : decode cX5_run 90 = .ok (.aload_n 3, 1) := by decide +kernel
theorem dX5_run_91 : decode cX5_run 91 = .ok (.arraylength, 1) := by decide +kernel
theorem dX5_run_92 : decode cX5_run 92 = .ok (.if_icmp .lt 6, 3) := by decide +kernel
theorem dX5_run_95 : decode cX5_run 95 = .ok (.ldc 15, 2) := by decide +kernel
theorem dX5_run_97 : decode cX5_run 97 = .ok (.ireturn, 1) := by decide +kernel
theorem dX5_run_98 : decode cX5_run 98 = .ok (.aload_n 0, 1) := by decide +kernel
theorem dX5_run_99 : decode cX5_run 99 = .ok (.getfield 9, 3) := by decide +kernel
theorem dX5_run_102 : decode cX5_run 102 = .ok (.iload 4, 2) := by decide +kernel
theorem dX5_run_104 : decode cX5_run 104 = .ok (.iload 7, 2) := by decide +kernel
theorem dX5_run_106 : decode cX5_run 106 = .ok (.iconst 1, 1) := by decide +kernel
theorem dX5_run_107 : decode cX5_run 107 = .ok (.if_icmp .ne 8, 3) := by decide +kernel
theorem dX5_run_110 : decode cX5_run 110 = .ok (.iload 8, 2) := by decide +kernel
theorem dX5_run_112 : decode cX5_run 112 = .ok (.goto 7, 3) := by decide +kernel
theorem dX5_run_115 : decode cX5_run 115 = .ok (.aload_n 3, 1) := by decide +kernel
theorem dX5_run_116 : decode cX5_run 116 = .ok (.iload 8, 2) := by decide +kernel
theorem dX5_run_118 : decode cX5_run 118 = .ok (.iaload, 1) := by decide +kernel
theorem dX5_run_119 : decode cX5_run 119 = .ok (.iastore, 1) := by decide +kernel
theorem dX5_run_120 : decode cX5_run 120 = .ok (.iinc 4 1, 3) := by decide +kernel
theorem dX5_run_123 : decode cX5_run 123 = .ok (.goto 317, 3) := by decide +kernel
theorem dX5_run_126 : decode cX5_run 126 = .ok (.iload 4, 2) := by decide +kernel
theorem dX5_run_128 : decode cX5_run 128 = .ok (.iload 7, 2) := by decide +kernel
theorem dX5_run_130 : decode cX5_run 130 = .ok (.iconst 5, 1) := by decide +kernel
theorem dX5_run_131 : decode cX5_run 131 = .ok (.if_icmp .gt 7, 3) := by decide +kernel
theorem dX5_run_134 : decode cX5_run 134 = .ok (.iconst 1, 1) := by decide +kernel
theorem dX5_run_135 : decode cX5_run 135 = .ok (.goto 4, 3) := by decide +kernel
theorem dX5_run_138 : decode cX5_run 138 = .ok (.iconst 2, 1) := by decide +kernel
theorem dX5_run_139 : decode cX5_run 139 = .ok (.if_icmp .ge 6, 3) := by decide +kernel
theorem dX5_run_142 : decode cX5_run 142 = .ok (.ldc 15, 2) := by decide +kernel
theorem dX5_run_144 : decode cX5_run 144 = .ok (.ireturn, 1) := by decide +kernel
theorem dX5_run_145 : decode cX5_run 145 = .ok (.iload 7, 2) := by decide +kernel
theorem dX5_run_147 : decode cX5_run 147 = .ok (.iconst 5, 1) := by decide +kernel
theorem dX5_run_148 : decode cX5_run 148 = .ok (.if_icmp .ne 26, 3) := by decide +kernel
theorem dX5_run_151 : decode cX5_run 151 = .ok (.aload_n 0, 1) := by decide +kernel
theorem dX5_run_152 : decode cX5_run 152 = .ok (.getfield 9, 3) := by decide +kernel
theorem dX5_run_155 : decode cX5_run 155 = .ok (.iload 4, 2) := by decide +kernel
theorem dX5_run_157 : decode cX5_run 157 = .ok (.iconst 1, 1) := by decide +kernel
theorem dX5_run_158 : decode cX5_run 158 = .ok (.isub, 1) := by decide +kernel
theorem dX5_run_159 : decode cX5_run 159 = .ok (.iconst 1, 1) := by decide +kernel
theorem dX5_run_160 : decode cX5_run 160 = .ok (.aload_n 0, 1) := by decide +kernel
theorem dX5_run_161 : decode cX5_run 161 = .ok (.getfield 9, 3) := by decide +kernel
theorem dX5_run_164 : decode cX5_run 164 = .ok (.iload 4, 2) := by decide +kernel
theorem dX5_run_166 : decode cX5_run 166 = .ok (.iconst 1, 1) := by decide +kernel
theorem dX5_run_167 : decode cX5_run 167 = .ok (.isub, 1) := by decide +kernel
theorem dX5_run_168 : decode cX5_run 168 = .ok (.iaload, 1) := by decide +kernel
theorem dX5_run_169 : decode cX5_run 169 = .ok (.isub, 1) := by decide +kernel
theorem dX5_run_170 : decode cX5_run 170 = .ok (.iastore, 1) := by decide +kernel
theorem dX5_run_171 : decode cX5_run 171 = .ok (.goto 269, 3) := by decide +kernel
theorem dX5_run_174 : decode cX5_run 174 = .ok (.iload 7, 2) := by decide +kernel
theorem dX5_run_176 : decode cX5_run 176 = .ok (.iconst 4, 1) := by decide +kernel
theorem dX5_run_177 : decode cX5_run 177 = .ok (.if_icmp .gt 32, 3) := by decide +kernel
theorem dX5_run_180 : decode cX5_run 180 = .ok (.aload_n 0, 1) := by decide +kernel
theorem dX5_run_181 : decode cX5_run 181 = .ok (.getfield 9, 3) := by decide +kernel
theorem dX5_run_184 : decode cX5_run 184 = .ok (.iload 4, 2) := by decide +kernel
theorem dX5_run_186 : decode cX5_run 186 = .ok (.iconst 1, 1) := by decide +kernel
theorem dX5_run_187 : decode cX5_run 187 = .ok (.isub, 1) := by decide +kernel
theorem dX5_run_188 : decode cX5_run 188 = .ok (.iaload, 1) := by decide +kernel
theorem dX5_run_189 : decode cX5_run 189 = .ok (.iload 7, 2) := by decide +kernel
theorem dX5_run_191 : decode cX5_run 191 = .ok (.iconst 3, 1) := by decide +kernel
theorem dX5_run_192 : decode cX5_run 192 = .ok (.isub, 1) := by decide +kernel
theorem dX5_run_193 : decode cX5_run 193 = .ok (.if_icmp .ne 10, 3) := by decide +kernel
theorem dX5_run_196 : decode cX5_run 196 = .ok (.iload 8, 2) := by decide +kernel
theorem dX5_run_198 : decode cX5_run 198 = .ok (.istore 5, 2) := by decide +kernel
theorem dX5_run_200 : decode cX5_run 200 = .ok (.goto 240, 3) := by decide +kernel
theorem dX5_run_203 : decode cX5_run 203 = .ok (.iinc 4 (-1), 3) := by decide +kernel
theorem dX5_run_206 : decode cX5_run 206 = .ok (.goto 234, 3) := by decide +kernel
theorem dX5_run_209 : decode cX5_run 209 = .ok (.iinc 4 (-1), 3) := by decide +kernel
theorem dX5_run_212 : decode cX5_run 212 = .ok (.aload_n 0, 1) := by decide +kernel
theorem dX5_run_213 : decode cX5_run 213 = .ok (.getfield 9, 3) := by decide +kernel
theorem dX5_run_216 : decode cX5_run 216 = .ok (.iload 4, 2) := by decide +kernel
theorem dX5_run_218 : decode cX5_run 218 = .ok (.iconst 1, 1) := by decide +kernel
theorem dX5_run_219 : decode cX5_run 219 = .ok (.isub, 1) := by decide +kernel
theorem dX5_run_220 : decode cX5_run 220 = .ok (.iaload, 1) := by decide +kernel
theorem dX5_run_221 : decode cX5_run 221 = .ok (.i2l, 1) := by decide +kernel
theorem dX5_run_222 : decode cX5_run 222 = .ok (.lstore 9, 2) := by decide +kernel
theorem dX5_run_224 : decode cX5_run 224 = .ok (.aload_n 0, 1) := by decide +kernel
theorem dX5_run_225 : decode cX5_run 225 = .ok (.getfield 9, 3) := by decide +kernel
theorem dX5_run_228 : decode cX5_run 228 = .ok (.iload 4, 2) := by decide +kernel
theorem dX5_run_230 : decode cX5_run 230 = .ok (.iaload, 1) := by decide +kernel
theorem dX5_run_231 : decode cX5_run 231 = .ok (.i2l, 1) := by decide +kernel
theorem dX5_run_232 : decode cX5_run 232 = .ok (.lstore 11, 2) := by decide +kernel
theorem dX5_run_234 : decode cX5_run 234 = .ok (.iload 7, 2) := by decide +kernel
theorem dX5_run_236 : decode cX5_run 236 = .ok (.tableswitch 151 6 12 #[44, 62, 80, 98, 108, 118, 128], 44) := by decide +kernel
theorem dX5_run_280 : decode cX5_run 280 = .ok (.lload 9, 2) := by decide +kernel
theorem dX5_run_282 : decode cX5_run 282 = .ok (.lload 11, 2) := by decide +kernel
theorem dX5_run_284 : decode cX5_run 284 = .ok (.lcmp, 1) := by decide +kernel
theorem dX5_run_285 : decode cX5_run 285 = .ok (.ifCond .ge 7, 3) := by decide +kernel
theorem dX5_run_288 : decode cX5_run 288 = .ok (.lconst 1, 1) := by decide +kernel
theorem dX5_run_289 : decode cX5_run 289 = .ok (.goto 4, 3) := by decide +kernel
theorem dX5_run_292 : decode cX5_run 292 = .ok (.lconst 0, 1) := by decide +kernel
theorem dX5_run_293 : decode cX5_run 293 = .ok (.lstore 13, 2) := by decide +kernel
theorem dX5_run_295 : decode cX5_run 295 = .ok (.goto 112, 3) := by decide +kernel
theorem dX5_run_298 : decode cX5_run 298 = .ok (.lload 9, 2) := by decide +kernel
theorem dX5_run_300 : decode cX5_run 300 = .ok (.lload 11, 2) := by decide +kernel
theorem dX5_run_302 : decode cX5_run 302 = .ok (.lcmp, 1) := by decide +kernel
theorem dX5_run_303 : decode cX5_run 303 = .ok (.ifCond .le 7, 3) := by decide +kernel
theorem dX5_run_306 : decode cX5_run 306 = .ok (.lconst 1, 1) := by decide +kernel
theorem dX5_run_307 : decode cX5_run 307 = .ok (.goto 4, 3) := by decide +kernel
theorem dX5_run_310 : decode cX5_run 310 = .ok (.lconst 0, 1) := by decide +kernel
theorem dX5_run_311 : decode cX5_run 311 = .ok (.lstore 13, 2) := by decide +kernel
theorem dX5_run_313 : decode cX5_run 313 = .ok (.goto 94, 3) := by decide +kernel
theorem dX5_run_316 : decode cX5_run 316 = .ok (.lload 9, 2) := by decide +kernel
theorem dX5_run_318 : decode cX5_run 318 = .ok (.lload 11, 2) := by decide +kernel
theorem dX5_run_320 : decode cX5_run 320 = .ok (.lcmp, 1) := by decide +kernel
theorem dX5_run_321 : decode cX5_run 321 = .ok (.ifCond .ne 7, 3) := by decide +kernel
theorem dX5_run_324 : decode cX5_run 324 = .ok (.lconst 1, 1) := by decide +kernel
theorem dX5_run_325 : decode cX5_run 325 = .ok (.goto 4, 3) := by decide +kernel
theorem dX5_run_328 : decode cX5_run 328 = .ok (.lconst 0, 1) := by decide +kernel
theorem dX5_run_329 : decode cX5_run 329 = .ok (.lstore 13, 2) := by decide +kernel
theorem dX5_run_331 : decode cX5_run 331 = .ok (.goto 76, 3) := by decide +kernel
theorem dX5_run_334 : decode cX5_run 334 = .ok (.lload 9, 2) := by decide +kernel
theorem dX5_run_336 : decode cX5_run 336 = .ok (.lload 11, 2) := by decide +kernel
theorem dX5_run_338 : decode cX5_run 338 = .ok (.ladd, 1) := by decide +kernel
theorem dX5_run_339 : decode cX5_run 339 = .ok (.lstore 13, 2) := by decide +kernel
theorem dX5_run_341 : decode cX5_run 341 = .ok (.goto 66, 3) := by decide +kernel
theorem dX5_run_344 : decode cX5_run 344 = .ok (.lload 9, 2) := by decide +kernel
theorem dX5_run_346 : decode cX5_run 346 = .ok (.lload 11, 2) := by decide +kernel
theorem dX5_run_348 : decode cX5_run 348 = .ok (.lsub, 1) := by decide +kernel
theorem dX5_run_349 : decode cX5_run 349 = .ok (.lstore 13, 2) := by decide +kernel
theorem dX5_run_351 : decode cX5_run 351 = .ok (.goto 56, 3) := by decide +kernel
theorem dX5_run_354 : decode cX5_run 354 = .ok (.lload 9, 2) := by decide +kernel
theorem dX5_run_356 : decode cX5_run 356 = .ok (.lload 11, 2) := by decide +kernel
theorem dX5_run_358 : decode cX5_run 358 = .ok (.lmul, 1) := by decide +kernel
theorem dX5_run_359 : decode cX5_run 359 = .ok (.lstore 13, 2) := by decide +kernel
theorem dX5_run_361 : decode cX5_run 361 = .ok (.goto 46, 3) := by decide +kernel
theorem dX5_run_364 : decode cX5_run 364 = .ok (.lload 11, 2) := by decide +kernel
theorem dX5_run_366 : decode cX5_run 366 = .ok (.lconst 0, 1) := by decide +kernel
theorem dX5_run_367 : decode cX5_run 367 = .ok (.lcmp, 1) := by decide +kernel
theorem dX5_run_368 : decode cX5_run 368 = .ok (.ifCond .ne 9, 3) := by decide +kernel
theorem dX5_run_371 : decode cX5_run 371 = .ok (.ldc2_w 25, 3) := by decide +kernel
theorem dX5_run_374 : decode cX5_run 374 = .ok (.goto 8, 3) := by decide +kernel
theorem dX5_run_377 : decode cX5_run 377 = .ok (.lload 9, 2) := by decide +kernel
theorem dX5_run_379 : decode cX5_run 379 = .ok (.lload 11, 2) := by decide +kernel
theorem dX5_run_381 : decode cX5_run 381 = .ok (.ldiv, 1) := by decide +kernel
theorem dX5_run_382 : decode cX5_run 382 = .ok (.lstore 13, 2) := by decide +kernel
theorem dX5_run_384 : decode cX5_run 384 = .ok (.goto 23, 3) := by decide +kernel
theorem dX5_run_387 : decode cX5_run 387 = .ok (.lload 11, 2) := by decide +kernel
theorem dX5_run_389 : decode cX5_run 389 = .ok (.lconst 0, 1) := by decide +kernel
theorem dX5_run_390 : decode cX5_run 390 = .ok (.lcmp, 1) := by decide +kernel
theorem dX5_run_391 : decode cX5_run 391 = .ok (.ifCond .ne 9, 3) := by decide +kernel
theorem dX5_run_394 : decode cX5_run 394 = .ok (.ldc2_w 25, 3) := by decide +kernel
theorem dX5_run_397 : decode cX5_run 397 = .ok (.goto 8, 3) := by decide +kernel
theorem dX5_run_400 : decode cX5_run 400 = .ok (.lload 9, 2) := by decide +kernel
theorem dX5_run_402 : decode cX5_run 402 = .ok (.lload 11, 2) := by decide +kernel
theorem dX5_run_404 : decode cX5_run 404 = .ok (.lrem, 1) := by decide +kernel
theorem dX5_run_405 : decode cX5_run 405 = .ok (.lstore 13, 2) := by decide +kernel
theorem dX5_run_407 : decode cX5_run 407 = .ok (.lload 13, 2) := by decide +kernel
theorem dX5_run_409 : decode cX5_run 409 = .ok (.ldc2_w 27, 3) := by decide +kernel
theorem dX5_run_412 : decode cX5_run 412 = .ok (.lcmp, 1) := by decide +kernel
theorem dX5_run_413 : decode cX5_run 413 = .ok (.ifCond .gt 12, 3) := by decide +kernel
theorem dX5_run_416 : decode cX5_run 416 = .ok (.lload 13, 2) := by decide +kernel
theorem dX5_run_418 : decode cX5_run 418 = .ok (.ldc2_w 29, 3) := by decide +kernel
theorem dX5_run_421 : decode cX5_run 421 = .ok (.lcmp, 1) := by decide +kernel
theorem dX5_run_422 : decode cX5_run 422 = .ok (.ifCond .ge 6, 3) := by decide +kernel
theorem dX5_run_425 : decode cX5_run 425 = .ok (.ldc 15, 2) := by decide +kernel
theorem dX5_run_427 : decode cX5_run 427 = .ok (.ireturn, 1) := by decide +kernel
theorem dX5_run_428 : decode cX5_run 428 = .ok (.aload_n 0, 1) := by decide +kernel
theorem dX5_run_429 : decode cX5_run 429 = .ok (.getfield 9, 3) := by decide +kernel
theorem dX5_run_432 : decode cX5_run 432 = .ok (.iload 4, 2) := by decide +kernel
theorem dX5_run_434 : decode cX5_run 434 = .ok (.iconst 1, 1) := by decide +kernel
theorem dX5_run_435 : decode cX5_run 435 = .ok (.isub, 1) := by decide +kernel
theorem dX5_run_436 : decode cX5_run 436 = .ok (.lload 13, 2) := by decide +kernel
theorem dX5_run_438 : decode cX5_run 438 = .ok (.l2i, 1) := by decide +kernel
theorem dX5_run_439 : decode cX5_run 439 = .ok (.iastore, 1) := by decide +kernel
theorem dX5_run_440 : decode cX5_run 440 = .ok (.iinc 6 1, 3) := by decide +kernel
theorem dX5_run_443 : decode cX5_run 443 = .ok (.goto (-427), 3) := by decide +kernel
theorem dX5_run_446 : decode cX5_run 446 = .ok (.iload 4, 2) := by decide +kernel
theorem dX5_run_448 : decode cX5_run 448 = .ok (.iconst 1, 1) := by decide +kernel
theorem dX5_run_449 : decode cX5_run 449 = .ok (.if_icmp .ne 12, 3) := by decide +kernel
theorem dX5_run_452 : decode cX5_run 452 = .ok (.aload_n 0, 1) := by decide +kernel
theorem dX5_run_453 : decode cX5_run 453 = .ok (.getfield 9, 3) := by decide +kernel
theorem dX5_run_456 : decode cX5_run 456 = .ok (.iconst 0, 1) := by decide +kernel
theorem dX5_run_457 : decode cX5_run 457 = .ok (.iaload, 1) := by decide +kernel
theorem dX5_run_458 : decode cX5_run 458 = .ok (.goto 5, 3) := by decide +kernel
theorem dX5_run_461 : decode cX5_run 461 = .ok (.ldc 15, 2) := by decide +kernel
theorem dX5_run_463 : decode cX5_run 463 = .ok (.ireturn, 1) := by decide +kernel
