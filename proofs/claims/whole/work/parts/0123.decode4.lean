theorem dX11_init_213 : decode cX11_init 213 = .ok (.aload_n 0, 1) := by decide +kernel
theorem dX11_init_214 : decode cX11_init 214 = .ok (.iconst 4, 1) := by decide +kernel
theorem dX11_init_215 : decode cX11_init 215 = .ok (.newarray .int, 2) := by decide +kernel
theorem dX11_init_217 : decode cX11_init 217 = .ok (.putfield 93, 3) := by decide +kernel
theorem dX11_init_220 : decode cX11_init 220 = .ok (.aload_n 0, 1) := by decide +kernel
theorem dX11_init_221 : decode cX11_init 221 = .ok (.iconst 4, 1) := by decide +kernel
theorem dX11_init_222 : decode cX11_init 222 = .ok (.newarray .int, 2) := by decide +kernel
theorem dX11_init_224 : decode cX11_init 224 = .ok (.putfield 96, 3) := by decide +kernel
theorem dX11_init_227 : decode cX11_init 227 = .ok (.aload_n 0, 1) := by decide +kernel
theorem dX11_init_228 : decode cX11_init 228 = .ok (.bipush 8, 2) := by decide +kernel
theorem dX11_init_230 : decode cX11_init 230 = .ok (.newarray .int, 2) := by decide +kernel
theorem dX11_init_232 : decode cX11_init 232 = .ok (.putfield 99, 3) := by decide +kernel
theorem dX11_init_235 : decode cX11_init 235 = .ok (.aload_n 0, 1) := by decide +kernel
theorem dX11_init_236 : decode cX11_init 236 = .ok (.bipush 8, 2) := by decide +kernel
theorem dX11_init_238 : decode cX11_init 238 = .ok (.newarray .boolean, 2) := by decide +kernel
theorem dX11_init_240 : decode cX11_init 240 = .ok (.putfield 102, 3) := by decide +kernel
theorem dX11_init_243 : decode cX11_init 243 = .ok (.aload_n 0, 1) := by decide +kernel
theorem dX11_init_244 : decode cX11_init 244 = .ok (.iconst 4, 1) := by decide +kernel
theorem dX11_init_245 : decode cX11_init 245 = .ok (.newarray .int, 2) := by decide +kernel
theorem dX11_init_247 : decode cX11_init 247 = .ok (.putfield 105, 3) := by decide +kernel
theorem dX11_init_250 : decode cX11_init 250 = .ok (.aload_n 0, 1) := by decide +kernel
theorem dX11_init_251 : decode cX11_init 251 = .ok (.sipush 960, 3) := by decide +kernel
theorem dX11_init_254 : decode cX11_init 254 = .ok (.newarray .int, 2) := by decide +kernel
theorem dX11_init_256 : decode cX11_init 256 = .ok (.putfield 108, 3) := by decide +kernel
theorem dX11_init_259 : decode cX11_init 259 = .ok (.aload_n 0, 1) := by decide +kernel
theorem dX11_init_260 : decode cX11_init 260 = .ok (.sipush 144, 3) := by decide +kernel
theorem dX11_init_263 : decode cX11_init 263 = .ok (.newarray .int, 2) := by decide +kernel
theorem dX11_init_265 : decode cX11_init 265 = .ok (.putfield 111, 3) := by decide +kernel
theorem dX11_init_268 : decode cX11_init 268 = .ok (.aload_n 0, 1) := by decide +kernel
theorem dX11_init_269 : decode cX11_init 269 = .ok (.bipush (-9), 2) := by decide +kernel
theorem dX11_init_271 : decode cX11_init 271 = .ok (.putfield 114, 3) := by decide +kernel
theorem dX11_init_274 : decode cX11_init 274 = .ok (.aload_n 0, 1) := by decide +kernel
theorem dX11_init_275 : decode cX11_init 275 = .ok (.sipush 144, 3) := by decide +kernel
theorem dX11_init_278 : decode cX11_init 278 = .ok (.newarray .int, 2) := by decide +kernel
theorem dX11_init_280 : decode cX11_init 280 = .ok (.putfield 118, 3) := by decide +kernel
theorem dX11_init_283 : decode cX11_init 283 = .ok (.aload_n 0, 1) := by decide +kernel
theorem dX11_init_284 : decode cX11_init 284 = .ok (.iconst 3, 1) := by decide +kernel
theorem dX11_init_285 : decode cX11_init 285 = .ok (.newarray .int, 2) := by decide +kernel
theorem dX11_init_287 : decode cX11_init 287 = .ok (.putfield 121, 3) := by decide +kernel
theorem dX11_init_290 : decode cX11_init 290 = .ok (.aload_n 0, 1) := by decide +kernel
theorem dX11_init_291 : decode cX11_init 291 = .ok (.bipush 12, 2) := by decide +kernel
theorem dX11_init_293 : decode cX11_init 293 = .ok (.newarray .int, 2) := by decide +kernel
theorem dX11_init_295 : decode cX11_init 295 = .ok (.putfield 124, 3) := by decide +kernel
theorem dX11_init_298 : decode cX11_init 298 = .ok (.aload_n 0, 1) := by decide +kernel
theorem dX11_init_299 : decode cX11_init 299 = .ok (.iconst 4, 1) := by decide +kernel
theorem dX11_init_300 : decode cX11_init 300 = .ok (.newarray .int, 2) := by decide +kernel
theorem dX11_init_302 : decode cX11_init 302 = .ok (.putfield 127, 3) := by decide +kernel
theorem dX11_init_305 : decode cX11_init 305 = .ok (.aload_n 0, 1) := by decide +kernel
theorem dX11_init_306 : decode cX11_init 306 = .ok (.iconst 4, 1) := by decide +kernel
theorem dX11_init_307 : decode cX11_init 307 = .ok (.newarray .int, 2) := by decide +kernel
theorem dX11_init_309 : decode cX11_init 309 = .ok (.putfield 130, 3) := by decide +kernel
theorem dX11_init_312 : decode cX11_init 312 = .ok (.iconst 0, 1) := by decide +kernel
theorem dX11_init_313 : decode cX11_init 313 = .ok (.istore_n 1, 1) := by decide +kernel
theorem dX11_init_314 : decode cX11_init 314 = .ok (.iload_n 1, 1) := by decide +kernel
theorem dX11_init_315 : decode cX11_init 315 = .ok (.bipush 8, 2) := by decide +kernel
theorem dX11_init_317 : decode cX11_init 317 = .ok (.if_icmp .ge 17, 3) := by decide +kernel
theorem dX11_init_320 : decode cX11_init 320 = .ok (.aload_n 0, 1) := by decide +kernel
theorem dX11_init_321 : decode cX11_init 321 = .ok (.getfield 17, 3) := by decide +kernel
theorem dX11_init_324 : decode cX11_init 324 = .ok (.iload_n 1, 1) := by decide +kernel
theorem dX11_init_325 : decode cX11_init 325 = .ok (.bipush (-9), 2) := by decide +kernel
theorem dX11_init_327 : decode cX11_init 327 = .ok (.iastore, 1) := by decide +kernel
theorem dX11_init_328 : decode cX11_init 328 = .ok (.iinc 1 1, 3) := by decide +kernel
theorem dX11_init_331 : decode cX11_init 331 = .ok (.goto (-17), 3) := by decide +kernel
theorem dX11_init_334 : decode cX11_init 334 = .ok (.iconst 0, 1) := by decide +kernel
theorem dX11_init_335 : decode cX11_init 335 = .ok (.istore_n 1, 1) := by decide +kernel
theorem dX11_init_336 : decode cX11_init 336 = .ok (.iload_n 1, 1) := by decide +kernel
theorem dX11_init_337 : decode cX11_init 337 = .ok (.bipush 8, 2) := by decide +kernel
theorem dX11_init_339 : decode cX11_init 339 = .ok (.if_icmp .ge 17, 3) := by decide +kernel
theorem dX11_init_342 : decode cX11_init 342 = .ok (.aload_n 0, 1) := by decide +kernel
theorem dX11_init_343 : decode cX11_init 343 = .ok (.getfield 99, 3) := by decide +kernel
theorem dX11_init_346 : decode cX11_init 346 = .ok (.iload_n 1, 1) := by decide +kernel
theorem dX11_init_347 : decode cX11_init 347 = .ok (.bipush (-9), 2) := by decide +kernel
theorem dX11_init_349 : decode cX11_init 349 = .ok (.iastore, 1) := by decide +kernel
theorem dX11_init_350 : decode cX11_init 350 = .ok (.iinc 1 1, 3) := by decide +kernel
theorem dX11_init_353 : decode cX11_init 353 = .ok (.goto (-17), 3) := by decide +kernel
theorem dX11_init_356 : decode cX11_init 356 = .ok (.aload_n 0, 1) := by decide +kernel
theorem dX11_init_357 : decode cX11_init 357 = .ok (.bipush (-9), 2) := by decide +kernel
theorem dX11_init_359 : decode cX11_init 359 = .ok (.putfield 133, 3) := by decide +kernel
theorem dX11_init_362 : decode cX11_init 362 = .ok (.aload_n 0, 1) := by decide +kernel
theorem dX11_init_363 : decode cX11_init 363 = .ok (.bipush (-9), 2) := by decide +kernel
theorem dX11_init_365 : decode cX11_init 365 = .ok (.putfield 136, 3) := by decide +kernel
theorem dX11_init_368 : decode cX11_init 368 = .ok (.return_, 1) := by decide +kernel
theorem dX11_in_0 : decode cX11_in 0 = .ok (.iload_n 0, 1) := by decide +kernel
theorem dX11_in_1 : decode cX11_in 1 = .ok (.iload_n 1, 1) := by decide +kernel
theorem dX11_in_2 : decode cX11_in 2 = .ok (.if_icmp .lt 12, 3) := by decide +kernel
theorem dX11_in_5 : decode cX11_in 5 = .ok (.iload_n 0, 1) := by decide +kernel
theorem dX11_in_6 : decode cX11_in 6 = .ok (.iload_n 2, 1) := by decide +kernel
theorem dX11_in_7 : decode cX11_in 7 = .ok (.if_icmp .gt 7, 3) := by decide +kernel
theorem dX11_in_10 : decode cX11_in 10 = .ok (.iconst 1, 1) := by decide +kernel
theorem dX11_in_11 : decode cX11_in 11 = .ok (.goto 4, 3) := by decide +kernel
theorem dX11_in_14 : decode cX11_in 14 = .ok (.iconst 0, 1) := by decide +kernel
theorem dX11_in_15 : decode cX11_in 15 = .ok (.ireturn, 1) := by decide +kernel
theorem dX11_meets_0 : decode cX11_meets 0 = .ok (.aload_n 0, 1) := by decide +kernel
theorem dX11_meets_1 : decode cX11_meets 1 = .ok (.iload_n 1, 1) := by decide +kernel
theorem dX11_meets_2 : decode cX11_meets 2 = .ok (.putfield 139, 3) := by decide +kernel
theorem dX11_meets_5 : decode cX11_meets 5 = .ok (.aload_n 0, 1) := by decide +kernel
theorem dX11_meets_6 : decode cX11_meets 6 = .ok (.getfield 7, 3) := by decide +kernel
theorem dX11_meets_9 : decode cX11_meets 9 = .ok (.iload_n 1, 1) := by decide +kernel
theorem dX11_meets_10 : decode cX11_meets 10 = .ok (.dup2, 1) := by decide +kernel
theorem dX11_meets_11 : decode cX11_meets 11 = .ok (.iaload, 1) := by decide +kernel
theorem dX11_meets_12 : decode cX11_meets 12 = .ok (.iconst 1, 1) := by decide +kernel
theorem dX11_meets_13 : decode cX11_meets 13 = .ok (.iadd, 1) := by decide +kernel
theorem dX11_meets_14 : decode cX11_meets 14 = .ok (.iastore, 1) := by decide +kernel
theorem dX11_meets_15 : decode cX11_meets 15 = .ok (.bipush (-3), 2) := by decide +kernel
theorem dX11_meets_17 : decode cX11_meets 17 = .ok (.ireturn, 1) := by decide +kernel
theorem dX11_tell_0 : decode cX11_tell 0 = .ok (.lload_n 1, 1) := by decide +kernel
theorem dX11_tell_1 : decode cX11_tell 1 = .ok (.lstore 5, 2) := by decide +kernel
theorem dX11_tell_3 : decode cX11_tell 3 = .ok (.lload_n 3, 1) := by decide +kernel
theorem dX11_tell_4 : decode cX11_tell 4 = .ok (.lstore 7, 2) := by decide +kernel
theorem dX11_tell_6 : decode cX11_tell 6 = .ok (.lload 7, 2) := by decide +kernel
theorem dX11_tell_8 : decode cX11_tell 8 = .ok (.lconst 0, 1) := by decide +kernel
theorem dX11_tell_9 : decode cX11_tell 9 = .ok (.lcmp, 1) := by decide +kernel
theorem dX11_tell_10 : decode cX11_tell 10 = .ok (.ifCond .eq 21, 3) := by decide +kernel
theorem dX11_tell_13 : decode cX11_tell 13 = .ok (.lload 5, 2) := by decide +kernel
theorem dX11_tell_15 : decode cX11_tell 15 = .ok (.lload 7, 2) := by decide +kernel
theorem dX11_tell_17 : decode cX11_tell 17 = .ok (.lrem, 1) := by decide +kernel
theorem dX11_tell_18 : decode cX11_tell 18 = .ok (.lstore 9, 2) := by decide +kernel
theorem dX11_tell_20 : decode cX11_tell 20 = .ok (.lload 7, 2) := by decide +kernel
theorem dX11_tell_22 : decode cX11_tell 22 = .ok (.lstore 5, 2) := by decide +kernel
theorem dX11_tell_24 : decode cX11_tell 24 = .ok (.lload 9, 2) := by decide +kernel
theorem dX11_tell_26 : decode cX11_tell 26 = .ok (.lstore 7, 2) := by decide +kernel
theorem dX11_tell_28 : decode cX11_tell 28 = .ok (.goto (-22), 3) := by decide +kernel
theorem dX11_tell_31 : decode cX11_tell 31 = .ok (.aload_n 0, 1) := by decide +kernel
theorem dX11_tell_32 : decode cX11_tell 32 = .ok (.lload_n 1, 1) := by decide +kernel
theorem dX11_tell_33 : decode cX11_tell 33 = .ok (.lload 5, 2) := by decide +kernel
theorem dX11_tell_35 : decode cX11_tell 35 = .ok (.ldiv, 1) := by decide +kernel
theorem dX11_tell_36 : decode cX11_tell 36 = .ok (.putfield 142, 3) := by decide +kernel
theorem dX11_tell_39 : decode cX11_tell 39 = .ok (.aload_n 0, 1) := by decide +kernel
theorem dX11_tell_40 : decode cX11_tell 40 = .ok (.lload_n 3, 1) := by decide +kernel
theorem dX11_tell_41 : decode cX11_tell 41 = .ok (.lload 5, 2) := by decide +kernel
theorem dX11_tell_43 : decode cX11_tell 43 = .ok (.ldiv, 1) := by decide +kernel
theorem dX11_tell_44 : decode cX11_tell 44 = .ok (.putfield 13, 3) := by decide +kernel
theorem dX11_tell_47 : decode cX11_tell 47 = .ok (.iconst 1, 1) := by decide +kernel
theorem dX11_tell_48 : decode cX11_tell 48 = .ok (.ireturn, 1) := by decide +kernel
theorem dX11_isRow_0 : decode cX11_isRow 0 = .ok (.iload_n 0, 1) := by decide +kernel
theorem dX11_isRow_1 : decode cX11_isRow 1 = .ok (.iconst 0, 1) := by decide +kernel
theorem dX11_isRow_2 : decode cX11_isRow 2 = .ok (.bipush 7, 2) := by decide +kernel
theorem dX11_isRow_4 : decode cX11_isRow 4 = .ok (.invokestatic 145, 3) := by decide +kernel
theorem dX11_isRow_7 : decode cX11_isRow 7 = .ok (.ireturn, 1) := by decide +kernel
theorem dX11_looked_0 : decode cX11_looked 0 = .ok (.iload_n 1, 1) := by decide +kernel
theorem dX11_looked_1 : decode cX11_looked 1 = .ok (.invokestatic 149, 3) := by decide +kernel
theorem dX11_looked_4 : decode cX11_looked 4 = .ok (.ifCond .ne 7, 3) := by decide +kernel
theorem dX11_looked_7 : decode cX11_looked 7 = .ok (.iconst (-1), 1) := by decide +kernel
theorem dX11_looked_8 : decode cX11_looked 8 = .ok (.goto 21, 3) := by decide +kernel
theorem dX11_looked_11 : decode cX11_looked 11 = .ok (.aload_n 0, 1) := by decide +kernel
theorem dX11_looked_12 : decode cX11_looked 12 = .ok (.getfield 17, 3) := by decide +kernel
theorem dX11_looked_15 : decode cX11_looked 15 = .ok (.iload_n 1, 1) := by decide +kernel
theorem dX11_looked_16 : decode cX11_looked 16 = .ok (.iaload, 1) := by decide +kernel
theorem dX11_looked_17 : decode cX11_looked 17 = .ok (.ifCond .ge 11, 3) := by decide +kernel
theorem dX11_looked_20 : decode cX11_looked 20 = .ok (.aload_n 0, 1) := by decide +kernel
theorem dX11_looked_21 : decode cX11_looked 21 = .ok (.iconst 1, 1) := by decide +kernel
theorem dX11_looked_22 : decode cX11_looked 22 = .ok (.invokevirtual 153, 3) := by decide +kernel
theorem dX11_looked_25 : decode cX11_looked 25 = .ok (.goto 4, 3) := by decide +kernel
theorem dX11_looked_28 : decode cX11_looked 28 = .ok (.iconst 0, 1) := by decide +kernel
theorem dX11_looked_29 : decode cX11_looked 29 = .ok (.ireturn, 1) := by decide +kernel
theorem dX11_row_0 : decode cX11_row 0 = .ok (.iload_n 1, 1) := by decide +kernel
theorem dX11_row_1 : decode cX11_row 1 = .ok (.invokestatic 149, 3) := by decide +kernel
theorem dX11_row_4 : decode cX11_row 4 = .ok (.ifCond .eq 9, 3) := by decide +kernel
theorem dX11_row_7 : decode cX11_row 7 = .ok (.iload_n 2, 1) := by decide +kernel
theorem dX11_row_8 : decode cX11_row 8 = .ok (.bipush 48, 2) := by decide +kernel
theorem dX11_row_10 : decode cX11_row 10 = .ok (.if_icmp .le 5, 3) := by decide +kernel
theorem dX11_row_13 : decode cX11_row 13 = .ok (.iconst (-1), 1) := by decide +kernel
theorem dX11_row_14 : decode cX11_row 14 = .ok (.ireturn, 1) := by decide +kernel
theorem dX11_row_15 : decode cX11_row 15 = .ok (.iload_n 2, 1) := by decide +kernel
theorem dX11_row_16 : decode cX11_row 16 = .ok (.ifCond .ge 9, 3) := by decide +kernel
theorem dX11_row_19 : decode cX11_row 19 = .ok (.aload_n 0, 1) := by decide +kernel
theorem dX11_row_20 : decode cX11_row 20 = .ok (.iconst 5, 1) := by decide +kernel
theorem dX11_row_21 : decode cX11_row 21 = .ok (.invokevirtual 153, 3) := by decide +kernel
theorem dX11_row_24 : decode cX11_row 24 = .ok (.ireturn, 1) := by decide +kernel
theorem dX11_row_25 : decode cX11_row 25 = .ok (.aload_n 0, 1) := by decide +kernel
theorem dX11_row_26 : decode cX11_row 26 = .ok (.getfield 17, 3) := by decide +kernel
theorem dX11_row_29 : decode cX11_row 29 = .ok (.iload_n 1, 1) := by decide +kernel
theorem dX11_row_30 : decode cX11_row 30 = .ok (.iload_n 2, 1) := by decide +kernel
theorem dX11_row_31 : decode cX11_row 31 = .ok (.iastore, 1) := by decide +kernel
theorem dX11_row_32 : decode cX11_row 32 = .ok (.iconst 0, 1) := by decide +kernel
theorem dX11_row_33 : decode cX11_row 33 = .ok (.istore_n 3, 1) := by decide +kernel
theorem dX11_row_34 : decode cX11_row 34 = .ok (.iload_n 3, 1) := by decide +kernel
theorem dX11_row_35 : decode cX11_row 35 = .ok (.bipush 48, 2) := by decide +kernel
theorem dX11_row_37 : decode cX11_row 37 = .ok (.if_icmp .ge 21, 3) := by decide +kernel
theorem dX11_row_40 : decode cX11_row 40 = .ok (.aload_n 0, 1) := by decide +kernel
theorem dX11_row_41 : decode cX11_row 41 = .ok (.getfield 20, 3) := by decide +kernel
theorem dX11_row_44 : decode cX11_row 44 = .ok (.bipush 48, 2) := by decide +kernel
theorem dX11_row_46 : decode cX11_row 46 = .ok (.iload_n 1, 1) := by decide +kernel
theorem dX11_row_47 : decode cX11_row 47 = .ok (.imul, 1) := by decide +kernel
theorem dX11_row_48 : decode cX11_row 48 = .ok (.iload_n 3, 1) := by decide +kernel
theorem dX11_row_49 : decode cX11_row 49 = .ok (.iadd, 1) := by decide +kernel
theorem dX11_row_50 : decode cX11_row 50 = .ok (.iconst 0, 1) := by decide +kernel
theorem dX11_row_51 : decode cX11_row 51 = .ok (.iastore, 1) := by decide +kernel
theorem dX11_row_52 : decode cX11_row 52 = .ok (.iinc 3 1, 3) := by decide +kernel
theorem dX11_row_55 : decode cX11_row 55 = .ok (.goto (-21), 3) := by decide +kernel
theorem dX11_row_58 : decode cX11_row 58 = .ok (.iload_n 2, 1) := by decide +kernel
theorem dX11_row_59 : decode cX11_row 59 = .ok (.ireturn, 1) := by decide +kernel
theorem dX11_lay_0 : decode cX11_lay 0 = .ok (.aload_n 0, 1) := by decide +kernel
theorem dX11_lay_1 : decode cX11_lay 1 = .ok (.iload_n 1, 1) := by decide +kernel
theorem dX11_lay_2 : decode cX11_lay 2 = .ok (.invokevirtual 157, 3) := by decide +kernel
theorem dX11_lay_5 : decode cX11_lay 5 = .ok (.istore 4, 2) := by decide +kernel
theorem dX11_lay_7 : decode cX11_lay 7 = .ok (.iload 4, 2) := by decide +kernel
theorem dX11_lay_9 : decode cX11_lay 9 = .ok (.ifCond .ge 6, 3) := by decide +kernel
theorem dX11_lay_12 : decode cX11_lay 12 = .ok (.iload 4, 2) := by decide +kernel
theorem dX11_lay_14 : decode cX11_lay 14 = .ok (.ireturn, 1) := by decide +kernel
theorem dX11_lay_15 : decode cX11_lay 15 = .ok (.iload_n 2, 1) := by decide +kernel
theorem dX11_lay_16 : decode cX11_lay 16 = .ok (.iconst 0, 1) := by decide +kernel
theorem dX11_lay_17 : decode cX11_lay 17 = .ok (.aload_n 0, 1) := by decide +kernel
theorem dX11_lay_18 : decode cX11_lay 18 = .ok (.getfield 17, 3) := by decide +kernel
theorem dX11_lay_21 : decode cX11_lay 21 = .ok (.iload_n 1, 1) := by decide +kernel
theorem dX11_lay_22 : decode cX11_lay 22 = .ok (.iaload, 1) := by decide +kernel
theorem dX11_lay_23 : decode cX11_lay 23 = .ok (.iconst 1, 1) := by decide +kernel
theorem dX11_lay_24 : decode cX11_lay 24 = .ok (.isub, 1) := by decide +kernel
theorem dX11_lay_25 : decode cX11_lay 25 = .ok (.invokestatic 145, 3) := by decide +kernel
theorem dX11_lay_28 : decode cX11_lay 28 = .ok (.ifCond .ne 9, 3) := by decide +kernel
theorem dX11_lay_31 : decode cX11_lay 31 = .ok (.aload_n 0, 1) := by decide +kernel
theorem dX11_lay_32 : decode cX11_lay 32 = .ok (.iconst 2, 1) := by decide +kernel
theorem dX11_lay_33 : decode cX11_lay 33 = .ok (.invokevirtual 153, 3) := by decide +kernel
theorem dX11_lay_36 : decode cX11_lay 36 = .ok (.ireturn, 1) := by decide +kernel
theorem dX11_lay_37 : decode cX11_lay 37 = .ok (.aload_n 0, 1) := by decide +kernel
theorem dX11_lay_38 : decode cX11_lay 38 = .ok (.getfield 20, 3) := by decide +kernel
theorem dX11_lay_41 : decode cX11_lay 41 = .ok (.bipush 48, 2) := by decide +kernel
theorem dX11_lay_43 : decode cX11_lay 43 = .ok (.iload_n 1, 1) := by decide +kernel
theorem dX11_lay_44 : decode cX11_lay 44 = .ok (.imul, 1) := by decide +kernel
theorem dX11_lay_45 : decode cX11_lay 45 = .ok (.iload_n 2, 1) := by decide +kernel
theorem dX11_lay_46 : decode cX11_lay 46 = .ok (.iadd, 1) := by decide +kernel
theorem dX11_lay_47 : decode cX11_lay 47 = .ok (.iaload, 1) := by decide +kernel
theorem dX11_lay_48 : decode cX11_lay 48 = .ok (.istore 5, 2) := by decide +kernel
theorem dX11_lay_50 : decode cX11_lay 50 = .ok (.aload_n 0, 1) := by decide +kernel
theorem dX11_lay_51 : decode cX11_lay 51 = .ok (.getfield 20, 3) := by decide +kernel
theorem dX11_lay_54 : decode cX11_lay 54 = .ok (.bipush 48, 2) := by decide +kernel
theorem dX11_lay_56 : decode cX11_lay 56 = .ok (.iload_n 1, 1) := by decide +kernel
theorem dX11_lay_57 : decode cX11_lay 57 = .ok (.imul, 1) := by decide +kernel
theorem dX11_lay_58 : decode cX11_lay 58 = .ok (.iload_n 2, 1) := by decide +kernel
theorem dX11_lay_59 : decode cX11_lay 59 = .ok (.iadd, 1) := by decide +kernel
theorem dX11_lay_60 : decode cX11_lay 60 = .ok (.iload_n 3, 1) := by decide +kernel
theorem dX11_lay_61 : decode cX11_lay 61 = .ok (.i2b, 1) := by decide +kernel
theorem dX11_lay_62 : decode cX11_lay 62 = .ok (.iastore, 1) := by decide +kernel
theorem dX11_lay_63 : decode cX11_lay 63 = .ok (.iload 5, 2) := by decide +kernel
theorem dX11_lay_65 : decode cX11_lay 65 = .ok (.sipush 1000, 3) := by decide +kernel
theorem dX11_lay_68 : decode cX11_lay 68 = .ok (.iadd, 1) := by decide +kernel
theorem dX11_lay_69 : decode cX11_lay 69 = .ok (.ireturn, 1) := by decide +kernel
theorem dX11_tear_0 : decode cX11_tear 0 = .ok (.aload_n 0, 1) := by decide +kernel
theorem dX11_tear_1 : decode cX11_tear 1 = .ok (.iload_n 1, 1) := by decide +kernel
theorem dX11_tear_2 : decode cX11_tear 2 = .ok (.invokevirtual 157, 3) := by decide +kernel
theorem dX11_tear_5 : decode cX11_tear 5 = .ok (.istore_n 2, 1) := by decide +kernel
theorem dX11_tear_6 : decode cX11_tear 6 = .ok (.iload_n 2, 1) := by decide +kernel
theorem dX11_tear_7 : decode cX11_tear 7 = .ok (.ifCond .ge 5, 3) := by decide +kernel
theorem dX11_tear_10 : decode cX11_tear 10 = .ok (.iload_n 2, 1) := by decide +kernel
theorem dX11_tear_11 : decode cX11_tear 11 = .ok (.ireturn, 1) := by decide +kernel
theorem dX11_tear_12 : decode cX11_tear 12 = .ok (.aload_n 0, 1) := by decide +kernel
theorem dX11_tear_13 : decode cX11_tear 13 = .ok (.getfield 17, 3) := by decide +kernel
theorem dX11_tear_16 : decode cX11_tear 16 = .ok (.iload_n 1, 1) := by decide +kernel
theorem dX11_tear_17 : decode cX11_tear 17 = .ok (.bipush (-9), 2) := by decide +kernel
theorem dX11_tear_19 : decode cX11_tear 19 = .ok (.iastore, 1) := by decide +kernel
theorem dX11_tear_20 : decode cX11_tear 20 = .ok (.iconst 1, 1) := by decide +kernel
theorem dX11_tear_21 : decode cX11_tear 21 = .ok (.ireturn, 1) := by decide +kernel
theorem dX11_copy_0 : decode cX11_copy 0 = .ok (.iload_n 1, 1) := by decide +kernel
theorem dX11_copy_1 : decode cX11_copy 1 = .ok (.invokestatic 149, 3) := by decide +kernel
theorem dX11_copy_4 : decode cX11_copy 4 = .ok (.ifCond .eq 10, 3) := by decide +kernel
theorem dX11_copy_7 : decode cX11_copy 7 = .ok (.iload_n 3, 1) := by decide +kernel
theorem dX11_copy_8 : decode cX11_copy 8 = .ok (.invokestatic 149, 3) := by decide +kernel
theorem dX11_copy_11 : decode cX11_copy 11 = .ok (.ifCond .ne 5, 3) := by decide +kernel
theorem dX11_copy_14 : decode cX11_copy 14 = .ok (.iconst (-1), 1) := by decide +kernel
theorem dX11_copy_15 : decode cX11_copy 15 = .ok (.ireturn, 1) := by decide +kernel
theorem dX11_copy_16 : decode cX11_copy 16 = .ok (.iload 5, 2) := by decide +kernel
theorem dX11_copy_18 : decode cX11_copy 18 = .ok (.ifCond .ge 9, 3) := by decide +kernel
theorem dX11_copy_21 : decode cX11_copy 21 = .ok (.aload_n 0, 1) := by decide +kernel
theorem dX11_copy_22 : decode cX11_copy 22 = .ok (.iconst 5, 1) := by decide +kernel
theorem dX11_copy_23 : decode cX11_copy 23 = .ok (.invokevirtual 153, 3) := by decide +kernel
theorem dX11_copy_26 : decode cX11_copy 26 = .ok (.ireturn, 1) := by decide +kernel
theorem dX11_copy_27 : decode cX11_copy 27 = .ok (.aload_n 0, 1) := by decide +kernel
theorem dX11_copy_28 : decode cX11_copy 28 = .ok (.getfield 17, 3) := by decide +kernel
theorem dX11_copy_31 : decode cX11_copy 31 = .ok (.iload_n 1, 1) := by decide +kernel
theorem dX11_copy_32 : decode cX11_copy 32 = .ok (.iaload, 1) := by decide +kernel
theorem dX11_copy_33 : decode cX11_copy 33 = .ok (.ifCond .lt 12, 3) := by decide +kernel
theorem dX11_copy_36 : decode cX11_copy 36 = .ok (.aload_n 0, 1) := by decide +kernel
theorem dX11_copy_37 : decode cX11_copy 37 = .ok (.getfield 17, 3) := by decide +kernel
theorem dX11_copy_40 : decode cX11_copy 40 = .ok (.iload_n 3, 1) := by decide +kernel
theorem dX11_copy_41 : decode cX11_copy 41 = .ok (.iaload, 1) := by decide +kernel
theorem dX11_copy_42 : decode cX11_copy 42 = .ok (.ifCond .ge 9, 3) := by decide +kernel
theorem dX11_copy_45 : decode cX11_copy 45 = .ok (.aload_n 0, 1) := by decide +kernel
theorem dX11_copy_46 : decode cX11_copy 46 = .ok (.iconst 1, 1) := by decide +kernel
theorem dX11_copy_47 : decode cX11_copy 47 = .ok (.invokevirtual 153, 3) := by decide +kernel
theorem dX11_copy_50 : decode cX11_copy 50 = .ok (.ireturn, 1) := by decide +kernel
theorem dX11_copy_51 : decode cX11_copy 51 = .ok (.iload_n 2, 1) := by decide +kernel
theorem dX11_copy_52 : decode cX11_copy 52 = .ok (.ifCond .lt 43, 3) := by decide +kernel
theorem dX11_copy_55 : decode cX11_copy 55 = .ok (.iload 4, 2) := by decide +kernel
theorem dX11_copy_57 : decode cX11_copy 57 = .ok (.ifCond .lt 38, 3) := by decide +kernel
theorem dX11_copy_60 : decode cX11_copy 60 = .ok (.iload_n 2, 1) := by decide +kernel
theorem dX11_copy_61 : decode cX11_copy 61 = .ok (.i2l, 1) := by decide +kernel
theorem dX11_copy_62 : decode cX11_copy 62 = .ok (.iload 5, 2) := by decide +kernel
theorem dX11_copy_64 : decode cX11_copy 64 = .ok (.i2l, 1) := by decide +kernel
theorem dX11_copy_65 : decode cX11_copy 65 = .ok (.ladd, 1) := by decide +kernel
theorem dX11_copy_66 : decode cX11_copy 66 = .ok (.aload_n 0, 1) := by decide +kernel
theorem dX11_copy_67 : decode cX11_copy 67 = .ok (.getfield 17, 3) := by decide +kernel
theorem dX11_copy_70 : decode cX11_copy 70 = .ok (.iload_n 1, 1) := by decide +kernel
theorem dX11_copy_71 : decode cX11_copy 71 = .ok (.iaload, 1) := by decide +kernel
theorem dX11_copy_72 : decode cX11_copy 72 = .ok (.i2l, 1) := by decide +kernel
theorem dX11_copy_73 : decode cX11_copy 73 = .ok (.lcmp, 1) := by decide +kernel
theorem dX11_copy_74 : decode cX11_copy 74 = .ok (.ifCond .gt 21, 3) := by decide +kernel
theorem dX11_copy_77 : decode cX11_copy 77 = .ok (.iload 4, 2) := by decide +kernel
theorem dX11_copy_79 : decode cX11_copy 79 = .ok (.i2l, 1) := by decide +kernel
theorem dX11_copy_80 : decode cX11_copy 80 = .ok (.iload 5, 2) := by decide +kernel
theorem dX11_copy_82 : decode cX11_copy 82 = .ok (.i2l, 1) := by decide +kernel
theorem dX11_copy_83 : decode cX11_copy 83 = .ok (.ladd, 1) := by decide +kernel
theorem dX11_copy_84 : decode cX11_copy 84 = .ok (.aload_n 0, 1) := by decide +kernel
theorem dX11_copy_85 : decode cX11_copy 85 = .ok (.getfield 17, 3) := by decide +kernel
theorem dX11_copy_88 : decode cX11_copy 88 = .ok (.iload_n 3, 1) := by decide +kernel
theorem dX11_copy_89 : decode cX11_copy 89 = .ok (.iaload, 1) := by decide +kernel
theorem dX11_copy_90 : decode cX11_copy 90 = .ok (.i2l, 1) := by decide +kernel
theorem dX11_copy_91 : decode cX11_copy 91 = .ok (.lcmp, 1) := by decide +kernel
theorem dX11_copy_92 : decode cX11_copy 92 = .ok (.ifCond .le 9, 3) := by decide +kernel
theorem dX11_copy_95 : decode cX11_copy 95 = .ok (.aload_n 0, 1) := by decide +kernel
theorem dX11_copy_96 : decode cX11_copy 96 = .ok (.iconst 2, 1) := by decide +kernel
theorem dX11_copy_97 : decode cX11_copy 97 = .ok (.invokevirtual 153, 3) := by decide +kernel
theorem dX11_copy_100 : decode cX11_copy 100 = .ok (.ireturn, 1) := by decide +kernel
theorem dX11_copy_101 : decode cX11_copy 101 = .ok (.iconst 0, 1) := by decide +kernel
theorem dX11_copy_102 : decode cX11_copy 102 = .ok (.istore 6, 2) := by decide +kernel
theorem dX11_copy_104 : decode cX11_copy 104 = .ok (.iload 6, 2) := by decide +kernel
theorem dX11_copy_106 : decode cX11_copy 106 = .ok (.iload 5, 2) := by decide +kernel
theorem dX11_copy_108 : decode cX11_copy 108 = .ok (.if_icmp .ge 30, 3) := by decide +kernel
theorem dX11_copy_111 : decode cX11_copy 111 = .ok (.aload_n 0, 1) := by decide +kernel
theorem dX11_copy_112 : decode cX11_copy 112 = .ok (.getfield 23, 3) := by decide +kernel
theorem dX11_copy_115 : decode cX11_copy 115 = .ok (.iload 6, 2) := by decide +kernel
theorem dX11_copy_117 : decode cX11_copy 117 = .ok (.aload_n 0, 1) := by decide +kernel
theorem dX11_copy_118 : decode cX11_copy 118 = .ok (.getfield 20, 3) := by decide +kernel
theorem dX11_copy_121 : decode cX11_copy 121 = .ok (.bipush 48, 2) := by decide +kernel
theorem dX11_copy_123 : decode cX11_copy 123 = .ok (.iload_n 1, 1) := by decide +kernel
theorem dX11_copy_124 : decode cX11_copy 124 = .ok (.imul, 1) := by decide +kernel
theorem dX11_copy_125 : decode cX11_copy 125 = .ok (.iload_n 2, 1) := by decide +kernel
theorem dX11_copy_126 : decode cX11_copy 126 = .ok (.iadd, 1) := by decide +kernel
theorem dX11_copy_127 : decode cX11_copy 127 = .ok (.iload 6, 2) := by decide +kernel
theorem dX11_copy_129 : decode cX11_copy 129 = .ok (.iadd, 1) := by decide +kernel
theorem dX11_copy_130 : decode cX11_copy 130 = .ok (.iaload, 1) := by decide +kernel
theorem dX11_copy_131 : decode cX11_copy 131 = .ok (.iastore, 1) := by decide +kernel
theorem dX11_copy_132 : decode cX11_copy 132 = .ok (.iinc 6 1, 3) := by decide +kernel
theorem dX11_copy_135 : decode cX11_copy 135 = .ok (.goto (-31), 3) := by decide +kernel
theorem dX11_copy_138 : decode cX11_copy 138 = .ok (.iconst 0, 1) := by decide +kernel
theorem dX11_copy_139 : decode cX11_copy 139 = .ok (.istore 6, 2) := by decide +kernel
theorem dX11_copy_141 : decode cX11_copy 141 = .ok (.iload 6, 2) := by decide +kernel
theorem dX11_copy_143 : decode cX11_copy 143 = .ok (.iload 5, 2) := by decide +kernel
theorem dX11_copy_145 : decode cX11_copy 145 = .ok (.if_icmp .ge 31, 3) := by decide +kernel
theorem dX11_copy_148 : decode cX11_copy 148 = .ok (.aload_n 0, 1) := by decide +kernel
theorem dX11_copy_149 : decode cX11_copy 149 = .ok (.getfield 20, 3) := by decide +kernel
theorem dX11_copy_152 : decode cX11_copy 152 = .ok (.bipush 48, 2) := by decide +kernel
theorem dX11_copy_154 : decode cX11_copy 154 = .ok (.iload_n 3, 1) := by decide +kernel
theorem dX11_copy_155 : decode cX11_copy 155 = .ok (.imul, 1) := by decide +kernel
theorem dX11_copy_156 : decode cX11_copy 156 = .ok (.iload 4, 2) := by decide +kernel
theorem dX11_copy_158 : decode cX11_copy 158 = .ok (.iadd, 1) := by decide +kernel
theorem dX11_copy_159 : decode cX11_copy 159 = .ok (.iload 6, 2) := by decide +kernel
theorem dX11_copy_161 : decode cX11_copy 161 = .ok (.iadd, 1) := by decide +kernel
theorem dX11_copy_162 : decode cX11_copy 162 = .ok (.aload_n 0, 1) := by decide +kernel
theorem dX11_copy_163 : decode cX11_copy 163 = .ok (.getfield 23, 3) := by decide +kernel
theorem dX11_copy_166 : decode cX11_copy 166 = .ok (.iload 6, 2) := by decide +kernel
theorem dX11_copy_168 : decode cX11_copy 168 = .ok (.iaload, 1) := by decide +kernel
theorem dX11_copy_169 : decode cX11_copy 169 = .ok (.iastore, 1) := by decide +kernel
theorem dX11_copy_170 : decode cX11_copy 170 = .ok (.iinc 6 1, 3) := by decide +kernel
theorem dX11_copy_173 : decode cX11_copy 173 = .ok (.goto (-32), 3) := by decide +kernel
theorem dX11_copy_176 : decode cX11_copy 176 = .ok (.iconst 1, 1) := by decide +kernel
theorem dX11_copy_177 : decode cX11_copy 177 = .ok (.ireturn, 1) := by decide +kernel
theorem dX11_makes_0 : decode cX11_makes 0 = .ok (.aload_n 0, 1) := by decide +kernel
theorem dX11_makes_1 : decode cX11_makes 1 = .ok (.getfield 26, 3) := by decide +kernel
theorem dX11_makes_4 : decode cX11_makes 4 = .ok (.aload_n 0, 1) := by decide +kernel
theorem dX11_makes_5 : decode cX11_makes 5 = .ok (.getfield 160, 3) := by decide +kernel
theorem dX11_makes_8 : decode cX11_makes 8 = .ok (.iload_n 1, 1) := by decide +kernel
theorem dX11_makes_9 : decode cX11_makes 9 = .ok (.iastore, 1) := by decide +kernel
theorem dX11_makes_10 : decode cX11_makes 10 = .ok (.aload_n 0, 1) := by decide +kernel
theorem dX11_makes_11 : decode cX11_makes 11 = .ok (.getfield 47, 3) := by decide +kernel
theorem dX11_makes_14 : decode cX11_makes 14 = .ok (.aload_n 0, 1) := by decide +kernel
theorem dX11_makes_15 : decode cX11_makes 15 = .ok (.getfield 160, 3) := by decide +kernel
theorem dX11_makes_18 : decode cX11_makes 18 = .ok (.bipush 30, 2) := by decide +kernel
theorem dX11_makes_20 : decode cX11_makes 20 = .ok (.iastore, 1) := by decide +kernel
theorem dX11_makes_21 : decode cX11_makes 21 = .ok (.aload_n 0, 1) := by decide +kernel
theorem dX11_makes_22 : decode cX11_makes 22 = .ok (.getfield 50, 3) := by decide +kernel
theorem dX11_makes_25 : decode cX11_makes 25 = .ok (.aload_n 0, 1) := by decide +kernel
theorem dX11_makes_26 : decode cX11_makes 26 = .ok (.getfield 160, 3) := by decide +kernel
theorem dX11_makes_29 : decode cX11_makes 29 = .ok (.sipush 1000, 3) := by decide +kernel
theorem dX11_makes_32 : decode cX11_makes 32 = .ok (.iastore, 1) := by decide +kernel
theorem dX11_makes_33 : decode cX11_makes 33 = .ok (.aload_n 0, 1) := by decide +kernel
theorem dX11_makes_34 : decode cX11_makes 34 = .ok (.getfield 53, 3) := by decide +kernel
theorem dX11_makes_37 : decode cX11_makes 37 = .ok (.aload_n 0, 1) := by decide +kernel
theorem dX11_makes_38 : decode cX11_makes 38 = .ok (.getfield 160, 3) := by decide +kernel
theorem dX11_makes_41 : decode cX11_makes 41 = .ok (.sipush 1000, 3) := by decide +kernel
theorem dX11_makes_44 : decode cX11_makes 44 = .ok (.iastore, 1) := by decide +kernel
theorem dX11_makes_45 : decode cX11_makes 45 = .ok (.aload_n 0, 1) := by decide +kernel
theorem dX11_makes_46 : decode cX11_makes 46 = .ok (.getfield 59, 3) := by decide +kernel
theorem dX11_makes_49 : decode cX11_makes 49 = .ok (.aload_n 0, 1) := by decide +kernel
theorem dX11_makes_50 : decode cX11_makes 50 = .ok (.getfield 160, 3) := by decide +kernel
theorem dX11_makes_53 : decode cX11_makes 53 = .ok (.bipush (-9), 2) := by decide +kernel
theorem dX11_makes_55 : decode cX11_makes 55 = .ok (.iastore, 1) := by decide +kernel
theorem dX11_makes_56 : decode cX11_makes 56 = .ok (.aload_n 0, 1) := by decide +kernel
theorem dX11_makes_57 : decode cX11_makes 57 = .ok (.dup, 1) := by decide +kernel
theorem dX11_makes_58 : decode cX11_makes 58 = .ok (.getfield 160, 3) := by decide +kernel
theorem dX11_makes_61 : decode cX11_makes 61 = .ok (.iconst 1, 1) := by decide +kernel
theorem dX11_makes_62 : decode cX11_makes 62 = .ok (.iadd, 1) := by decide +kernel
theorem dX11_makes_63 : decode cX11_makes 63 = .ok (.putfield 160, 3) := by decide +kernel
theorem dX11_makes_66 : decode cX11_makes 66 = .ok (.aload_n 0, 1) := by decide +kernel
theorem dX11_makes_67 : decode cX11_makes 67 = .ok (.getfield 160, 3) := by decide +kernel
theorem dX11_makes_70 : decode cX11_makes 70 = .ok (.iconst 1, 1) := by decide +kernel
theorem dX11_makes_71 : decode cX11_makes 71 = .ok (.isub, 1) := by decide +kernel
theorem dX11_makes_72 : decode cX11_makes 72 = .ok (.ireturn, 1) := by decide +kernel
theorem dX11_train_0 : decode cX11_train 0 = .ok (.aload_n 0, 1) := by decide +kernel
theorem dX11_train_1 : decode cX11_train 1 = .ok (.getfield 160, 3) := by decide +kernel
theorem dX11_train_4 : decode cX11_train 4 = .ok (.bipush 16, 2) := by decide +kernel
theorem dX11_train_6 : decode cX11_train 6 = .ok (.if_icmp .ne 8, 3) := by decide +kernel
theorem dX11_train_9 : decode cX11_train 9 = .ok (.bipush (-2), 2) := by decide +kernel
theorem dX11_train_11 : decode cX11_train 11 = .ok (.goto 8, 3) := by decide +kernel
theorem dX11_train_14 : decode cX11_train 14 = .ok (.aload_n 0, 1) := by decide +kernel
theorem dX11_train_15 : decode cX11_train 15 = .ok (.iconst 0, 1) := by decide +kernel
theorem dX11_train_16 : decode cX11_train 16 = .ok (.invokevirtual 163, 3) := by decide +kernel
theorem dX11_train_19 : decode cX11_train 19 = .ok (.ireturn, 1) := by decide +kernel
theorem dX11_areNotches_0 : decode cX11_areNotches 0 = .ok (.aload_n 0, 1) := by decide +kernel
theorem dX11_areNotches_1 : decode cX11_areNotches 1 = .ok (.getfield 17, 3) := by decide +kernel
theorem dX11_areNotches_4 : decode cX11_areNotches 4 = .ok (.iload_n 1, 1) := by decide +kernel
theorem dX11_areNotches_5 : decode cX11_areNotches 5 = .ok (.iaload, 1) := by decide +kernel
theorem dX11_areNotches_6 : decode cX11_areNotches 6 = .ok (.iconst 1, 1) := by decide +kernel
theorem dX11_areNotches_7 : decode cX11_areNotches 7 = .ok (.bipush 24, 2) := by decide +kernel
theorem dX11_areNotches_9 : decode cX11_areNotches 9 = .ok (.invokestatic 145, 3) := by decide +kernel
theorem dX11_areNotches_12 : decode cX11_areNotches 12 = .ok (.istore_n 2, 1) := by decide +kernel
theorem dX11_areNotches_13 : decode cX11_areNotches 13 = .ok (.iconst 0, 1) := by decide +kernel
theorem dX11_areNotches_14 : decode cX11_areNotches 14 = .ok (.istore_n 3, 1) := by decide +kernel
theorem dX11_areNotches_15 : decode cX11_areNotches 15 = .ok (.iload_n 3, 1) := by decide +kernel
theorem dX11_areNotches_16 : decode cX11_areNotches 16 = .ok (.aload_n 0, 1) := by decide +kernel
theorem dX11_areNotches_17 : decode cX11_areNotches 17 = .ok (.getfield 17, 3) := by decide +kernel
theorem dX11_areNotches_20 : decode cX11_areNotches 20 = .ok (.iload_n 1, 1) := by decide +kernel
theorem dX11_areNotches_21 : decode cX11_areNotches 21 = .ok (.iaload, 1) := by decide +kernel
theorem dX11_areNotches_22 : decode cX11_areNotches 22 = .ok (.if_icmp .ge 39, 3) := by decide +kernel
theorem dX11_areNotches_25 : decode cX11_areNotches 25 = .ok (.iload_n 2, 1) := by decide +kernel
theorem dX11_areNotches_26 : decode cX11_areNotches 26 = .ok (.ifCond .eq 27, 3) := by decide +kernel
theorem dX11_areNotches_29 : decode cX11_areNotches 29 = .ok (.aload_n 0, 1) := by decide +kernel
theorem dX11_areNotches_30 : decode cX11_areNotches 30 = .ok (.getfield 20, 3) := by decide +kernel
theorem dX11_areNotches_33 : decode cX11_areNotches 33 = .ok (.bipush 48, 2) := by decide +kernel
theorem dX11_areNotches_35 : decode cX11_areNotches 35 = .ok (.iload_n 1, 1) := by decide +kernel
theorem dX11_areNotches_36 : decode cX11_areNotches 36 = .ok (.imul, 1) := by decide +kernel
theorem dX11_areNotches_37 : decode cX11_areNotches 37 = .ok (.iload_n 3, 1) := by decide +kernel
theorem dX11_areNotches_38 : decode cX11_areNotches 38 = .ok (.iadd, 1) := by decide +kernel
theorem dX11_areNotches_39 : decode cX11_areNotches 39 = .ok (.iaload, 1) := by decide +kernel
theorem dX11_areNotches_40 : decode cX11_areNotches 40 = .ok (.iconst 1, 1) := by decide +kernel
theorem dX11_areNotches_41 : decode cX11_areNotches 41 = .ok (.bipush 24, 2) := by decide +kernel
theorem dX11_areNotches_43 : decode cX11_areNotches 43 = .ok (.invokestatic 145, 3) := by decide +kernel
theorem dX11_areNotches_46 : decode cX11_areNotches 46 = .ok (.ifCond .eq 7, 3) := by decide +kernel
theorem dX11_areNotches_49 : decode cX11_areNotches 49 = .ok (.iconst 1, 1) := by decide +kernel
theorem dX11_areNotches_50 : decode cX11_areNotches 50 = .ok (.goto 4, 3) := by decide +kernel
theorem dX11_areNotches_53 : decode cX11_areNotches 53 = .ok (.iconst 0, 1) := by decide +kernel
theorem dX11_areNotches_54 : decode cX11_areNotches 54 = .ok (.istore_n 2, 1) := by decide +kernel
theorem dX11_areNotches_55 : decode cX11_areNotches 55 = .ok (.iinc 3 1, 3) := by decide +kernel
theorem dX11_areNotches_58 : decode cX11_areNotches 58 = .ok (.goto (-43), 3) := by decide +kernel
theorem dX11_areNotches_61 : decode cX11_areNotches 61 = .ok (.iload_n 2, 1) := by decide +kernel
theorem dX11_areNotches_62 : decode cX11_areNotches 62 = .ok (.ireturn, 1) := by decide +kernel
theorem dX11_cutOf_0 : decode cX11_cutOf 0 = .ok (.aload_n 0, 1) := by decide +kernel
theorem dX11_cutOf_1 : decode cX11_cutOf 1 = .ok (.getfield 29, 3) := by decide +kernel
theorem dX11_cutOf_4 : decode cX11_cutOf 4 = .ok (.aload_n 0, 1) := by decide +kernel
theorem dX11_cutOf_5 : decode cX11_cutOf 5 = .ok (.getfield 160, 3) := by decide +kernel
theorem dX11_cutOf_8 : decode cX11_cutOf 8 = .ok (.aload_n 0, 1) := by decide +kernel
theorem dX11_cutOf_9 : decode cX11_cutOf 9 = .ok (.getfield 17, 3) := by decide +kernel
theorem dX11_cutOf_12 : decode cX11_cutOf 12 = .ok (.iload_n 1, 1) := by decide +kernel
theorem dX11_cutOf_13 : decode cX11_cutOf 13 = .ok (.iaload, 1) := by decide +kernel
theorem dX11_cutOf_14 : decode cX11_cutOf 14 = .ok (.iastore, 1) := by decide +kernel
theorem dX11_cutOf_15 : decode cX11_cutOf 15 = .ok (.iconst 0, 1) := by decide +kernel
theorem dX11_cutOf_16 : decode cX11_cutOf 16 = .ok (.istore_n 3, 1) := by decide +kernel
theorem dX11_cutOf_17 : decode cX11_cutOf 17 = .ok (.iload_n 3, 1) := by decide +kernel
theorem dX11_cutOf_18 : decode cX11_cutOf 18 = .ok (.aload_n 0, 1) := by decide +kernel
theorem dX11_cutOf_19 : decode cX11_cutOf 19 = .ok (.getfield 17, 3) := by decide +kernel
theorem dX11_cutOf_22 : decode cX11_cutOf 22 = .ok (.iload_n 1, 1) := by decide +kernel
theorem dX11_cutOf_23 : decode cX11_cutOf 23 = .ok (.iaload, 1) := by decide +kernel
theorem dX11_cutOf_24 : decode cX11_cutOf 24 = .ok (.if_icmp .ge 34, 3) := by decide +kernel
theorem dX11_cutOf_27 : decode cX11_cutOf 27 = .ok (.aload_n 0, 1) := by decide +kernel
theorem dX11_cutOf_28 : decode cX11_cutOf 28 = .ok (.getfield 32, 3) := by decide +kernel
theorem dX11_cutOf_31 : decode cX11_cutOf 31 = .ok (.bipush 24, 2) := by decide +kernel
theorem dX11_cutOf_33 : decode cX11_cutOf 33 = .ok (.aload_n 0, 1) := by decide +kernel
theorem dX11_cutOf_34 : decode cX11_cutOf 34 = .ok (.getfield 160, 3) := by decide +kernel
theorem dX11_cutOf_37 : decode cX11_cutOf 37 = .ok (.imul, 1) := by decide +kernel
theorem dX11_cutOf_38 : decode cX11_cutOf 38 = .ok (.iload_n 3, 1) := by decide +kernel
theorem dX11_cutOf_39 : decode cX11_cutOf 39 = .ok (.iadd, 1) := by decide +kernel
theorem dX11_cutOf_40 : decode cX11_cutOf 40 = .ok (.aload_n 0, 1) := by decide +kernel
theorem dX11_cutOf_41 : decode cX11_cutOf 41 = .ok (.getfield 20, 3) := by decide +kernel
theorem dX11_cutOf_44 : decode cX11_cutOf 44 = .ok (.bipush 48, 2) := by decide +kernel
theorem dX11_cutOf_46 : decode cX11_cutOf 46 = .ok (.iload_n 1, 1) := by decide +kernel
theorem dX11_cutOf_47 : decode cX11_cutOf 47 = .ok (.imul, 1) := by decide +kernel
theorem dX11_cutOf_48 : decode cX11_cutOf 48 = .ok (.iload_n 3, 1) := by decide +kernel
theorem dX11_cutOf_49 : decode cX11_cutOf 49 = .ok (.iadd, 1) := by decide +kernel
theorem dX11_cutOf_50 : decode cX11_cutOf 50 = .ok (.iaload, 1) := by decide +kernel
theorem dX11_cutOf_51 : decode cX11_cutOf 51 = .ok (.iastore, 1) := by decide +kernel
theorem dX11_cutOf_52 : decode cX11_cutOf 52 = .ok (.iinc 3 1, 3) := by decide +kernel
theorem dX11_cutOf_55 : decode cX11_cutOf 55 = .ok (.goto (-38), 3) := by decide +kernel
theorem dX11_cutOf_58 : decode cX11_cutOf 58 = .ok (.aload_n 0, 1) := by decide +kernel
theorem dX11_cutOf_59 : decode cX11_cutOf 59 = .ok (.iload_n 2, 1) := by decide +kernel
theorem dX11_cutOf_60 : decode cX11_cutOf 60 = .ok (.invokevirtual 163, 3) := by decide +kernel
theorem dX11_cutOf_63 : decode cX11_cutOf 63 = .ok (.ireturn, 1) := by decide +kernel
theorem dX11_plateOf_0 : decode cX11_plateOf 0 = .ok (.iload_n 1, 1) := by decide +kernel
theorem dX11_plateOf_1 : decode cX11_plateOf 1 = .ok (.invokestatic 149, 3) := by decide +kernel
theorem dX11_plateOf_4 : decode cX11_plateOf 4 = .ok (.ifCond .ne 5, 3) := by decide +kernel
theorem dX11_plateOf_7 : decode cX11_plateOf 7 = .ok (.iconst (-1), 1) := by decide +kernel
theorem dX11_plateOf_8 : decode cX11_plateOf 8 = .ok (.ireturn, 1) := by decide +kernel
theorem dX11_plateOf_9 : decode cX11_plateOf 9 = .ok (.aload_n 0, 1) := by decide +kernel
theorem dX11_plateOf_10 : decode cX11_plateOf 10 = .ok (.getfield 160, 3) := by decide +kernel
theorem dX11_plateOf_13 : decode cX11_plateOf 13 = .ok (.bipush 16, 2) := by decide +kernel
theorem dX11_plateOf_15 : decode cX11_plateOf 15 = .ok (.if_icmp .ne 6, 3) := by decide +kernel
theorem dX11_plateOf_18 : decode cX11_plateOf 18 = .ok (.bipush (-2), 2) := by decide +kernel
theorem dX11_plateOf_20 : decode cX11_plateOf 20 = .ok (.ireturn, 1) := by decide +kernel
theorem dX11_plateOf_21 : decode cX11_plateOf 21 = .ok (.aload_n 0, 1) := by decide +kernel
theorem dX11_plateOf_22 : decode cX11_plateOf 22 = .ok (.getfield 17, 3) := by decide +kernel
theorem dX11_plateOf_25 : decode cX11_plateOf 25 = .ok (.iload_n 1, 1) := by decide +kernel
theorem dX11_plateOf_26 : decode cX11_plateOf 26 = .ok (.iaload, 1) := by decide +kernel
theorem dX11_plateOf_27 : decode cX11_plateOf 27 = .ok (.ifCond .ge 11, 3) := by decide +kernel
theorem dX11_plateOf_30 : decode cX11_plateOf 30 = .ok (.aload_n 0, 1) := by decide +kernel
theorem dX11_plateOf_31 : decode cX11_plateOf 31 = .ok (.iconst 1, 1) := by decide +kernel
theorem dX11_plateOf_32 : decode cX11_plateOf 32 = .ok (.invokevirtual 153, 3) := by decide +kernel
theorem dX11_plateOf_35 : decode cX11_plateOf 35 = .ok (.goto 25, 3) := by decide +kernel
theorem dX11_plateOf_38 : decode cX11_plateOf 38 = .ok (.aload_n 0, 1) := by decide +kernel
theorem dX11_plateOf_39 : decode cX11_plateOf 39 = .ok (.iload_n 1, 1) := by decide +kernel
theorem dX11_plateOf_40 : decode cX11_plateOf 40 = .ok (.invokevirtual 166, 3) := by decide +kernel
theorem dX11_plateOf_43 : decode cX11_plateOf 43 = .ok (.ifCond .eq 12, 3) := by decide +kernel
theorem dX11_plateOf_46 : decode cX11_plateOf 46 = .ok (.aload_n 0, 1) := by decide +kernel
theorem dX11_plateOf_47 : decode cX11_plateOf 47 = .ok (.iload_n 1, 1) := by decide +kernel
theorem dX11_plateOf_48 : decode cX11_plateOf 48 = .ok (.iload_n 2, 1) := by decide +kernel
theorem dX11_plateOf_49 : decode cX11_plateOf 49 = .ok (.invokevirtual 169, 3) := by decide +kernel
theorem dX11_plateOf_52 : decode cX11_plateOf 52 = .ok (.goto 8, 3) := by decide +kernel
theorem dX11_plateOf_55 : decode cX11_plateOf 55 = .ok (.aload_n 0, 1) := by decide +kernel
theorem dX11_plateOf_56 : decode cX11_plateOf 56 = .ok (.iconst 5, 1) := by decide +kernel
theorem dX11_plateOf_57 : decode cX11_plateOf 57 = .ok (.invokevirtual 153, 3) := by decide +kernel
theorem dX11_plateOf_60 : decode cX11_plateOf 60 = .ok (.ireturn, 1) := by decide +kernel
theorem dX11_plate_0 : decode cX11_plate 0 = .ok (.aload_n 0, 1) := by decide +kernel
theorem dX11_plate_1 : decode cX11_plate 1 = .ok (.iload_n 1, 1) := by decide +kernel
theorem dX11_plate_2 : decode cX11_plate 2 = .ok (.iconst 1, 1) := by decide +kernel
theorem dX11_plate_3 : decode cX11_plate 3 = .ok (.invokevirtual 173, 3) := by decide +kernel
theorem dX11_plate_6 : decode cX11_plate 6 = .ok (.ireturn, 1) := by decide +kernel
theorem dX11_snail_0 : decode cX11_snail 0 = .ok (.aload_n 0, 1) := by decide +kernel
theorem dX11_snail_1 : decode cX11_snail 1 = .ok (.iload_n 1, 1) := by decide +kernel
theorem dX11_snail_2 : decode cX11_snail 2 = .ok (.iconst 2, 1) := by decide +kernel
theorem dX11_snail_3 : decode cX11_snail 3 = .ok (.invokevirtual 173, 3) := by decide +kernel
theorem dX11_snail_6 : decode cX11_snail 6 = .ok (.ireturn, 1) := by decide +kernel
theorem dX11_barrel_0 : decode cX11_barrel 0 = .ok (.iload_n 1, 1) := by decide +kernel
theorem dX11_barrel_1 : decode cX11_barrel 1 = .ok (.invokestatic 149, 3) := by decide +kernel
theorem dX11_barrel_4 : decode cX11_barrel 4 = .ok (.ifCond .eq 10, 3) := by decide +kernel
theorem dX11_barrel_7 : decode cX11_barrel 7 = .ok (.iload_n 2, 1) := by decide +kernel
theorem dX11_barrel_8 : decode cX11_barrel 8 = .ok (.invokestatic 149, 3) := by decide +kernel
theorem dX11_barrel_11 : decode cX11_barrel 11 = .ok (.ifCond .ne 5, 3) := by decide +kernel
theorem dX11_barrel_14 : decode cX11_barrel 14 = .ok (.iconst (-1), 1) := by decide +kernel
theorem dX11_barrel_15 : decode cX11_barrel 15 = .ok (.ireturn, 1) := by decide +kernel
theorem dX11_barrel_16 : decode cX11_barrel 16 = .ok (.aload_n 0, 1) := by decide +kernel
theorem dX11_barrel_17 : decode cX11_barrel 17 = .ok (.getfield 160, 3) := by decide +kernel
theorem dX11_barrel_20 : decode cX11_barrel 20 = .ok (.bipush 16, 2) := by decide +kernel
theorem dX11_barrel_22 : decode cX11_barrel 22 = .ok (.if_icmp .ne 6, 3) := by decide +kernel
theorem dX11_barrel_25 : decode cX11_barrel 25 = .ok (.bipush (-2), 2) := by decide +kernel
theorem dX11_barrel_27 : decode cX11_barrel 27 = .ok (.ireturn, 1) := by decide +kernel
theorem dX11_barrel_28 : decode cX11_barrel 28 = .ok (.aload_n 0, 1) := by decide +kernel
theorem dX11_barrel_29 : decode cX11_barrel 29 = .ok (.getfield 17, 3) := by decide +kernel
theorem dX11_barrel_32 : decode cX11_barrel 32 = .ok (.iload_n 1, 1) := by decide +kernel
theorem dX11_barrel_33 : decode cX11_barrel 33 = .ok (.iaload, 1) := by decide +kernel
theorem dX11_barrel_34 : decode cX11_barrel 34 = .ok (.ifCond .lt 12, 3) := by decide +kernel
theorem dX11_barrel_37 : decode cX11_barrel 37 = .ok (.aload_n 0, 1) := by decide +kernel
theorem dX11_barrel_38 : decode cX11_barrel 38 = .ok (.getfield 17, 3) := by decide +kernel
theorem dX11_barrel_41 : decode cX11_barrel 41 = .ok (.iload_n 2, 1) := by decide +kernel
theorem dX11_barrel_42 : decode cX11_barrel 42 = .ok (.iaload, 1) := by decide +kernel
theorem dX11_barrel_43 : decode cX11_barrel 43 = .ok (.ifCond .ge 9, 3) := by decide +kernel
theorem dX11_barrel_46 : decode cX11_barrel 46 = .ok (.aload_n 0, 1) := by decide +kernel
theorem dX11_barrel_47 : decode cX11_barrel 47 = .ok (.iconst 1, 1) := by decide +kernel
theorem dX11_barrel_48 : decode cX11_barrel 48 = .ok (.invokevirtual 153, 3) := by decide +kernel
theorem dX11_barrel_51 : decode cX11_barrel 51 = .ok (.ireturn, 1) := by decide +kernel
theorem dX11_barrel_52 : decode cX11_barrel 52 = .ok (.aload_n 0, 1) := by decide +kernel
theorem dX11_barrel_53 : decode cX11_barrel 53 = .ok (.iload_n 1, 1) := by decide +kernel
theorem dX11_barrel_54 : decode cX11_barrel 54 = .ok (.invokevirtual 166, 3) := by decide +kernel
theorem dX11_barrel_57 : decode cX11_barrel 57 = .ok (.ifCond .eq 12, 3) := by decide +kernel
theorem dX11_barrel_60 : decode cX11_barrel 60 = .ok (.aload_n 0, 1) := by decide +kernel
theorem dX11_barrel_61 : decode cX11_barrel 61 = .ok (.getfield 17, 3) := by decide +kernel
theorem dX11_barrel_64 : decode cX11_barrel 64 = .ok (.iload_n 2, 1) := by decide +kernel
theorem dX11_barrel_65 : decode cX11_barrel 65 = .ok (.iaload, 1) := by decide +kernel
theorem dX11_barrel_66 : decode cX11_barrel 66 = .ok (.ifCond .ne 9, 3) := by decide +kernel
theorem dX11_barrel_69 : decode cX11_barrel 69 = .ok (.aload_n 0, 1) := by decide +kernel
theorem dX11_barrel_70 : decode cX11_barrel 70 = .ok (.iconst 5, 1) := by decide +kernel
theorem dX11_barrel_71 : decode cX11_barrel 71 = .ok (.invokevirtual 153, 3) := by decide +kernel
theorem dX11_barrel_74 : decode cX11_barrel 74 = .ok (.ireturn, 1) := by decide +kernel
theorem dX11_barrel_75 : decode cX11_barrel 75 = .ok (.aload_n 0, 1) := by decide +kernel
theorem dX11_barrel_76 : decode cX11_barrel 76 = .ok (.getfield 38, 3) := by decide +kernel
theorem dX11_barrel_79 : decode cX11_barrel 79 = .ok (.aload_n 0, 1) := by decide +kernel
theorem dX11_barrel_80 : decode cX11_barrel 80 = .ok (.getfield 160, 3) := by decide +kernel
theorem dX11_barrel_83 : decode cX11_barrel 83 = .ok (.aload_n 0, 1) := by decide +kernel
theorem dX11_barrel_84 : decode cX11_barrel 84 = .ok (.getfield 17, 3) := by decide +kernel
theorem dX11_barrel_87 : decode cX11_barrel 87 = .ok (.iload_n 2, 1) := by decide +kernel
theorem dX11_barrel_88 : decode cX11_barrel 88 = .ok (.iaload, 1) := by decide +kernel
theorem dX11_barrel_89 : decode cX11_barrel 89 = .ok (.iastore, 1) := by decide +kernel
theorem dX11_barrel_90 : decode cX11_barrel 90 = .ok (.iconst 0, 1) := by decide +kernel
theorem dX11_barrel_91 : decode cX11_barrel 91 = .ok (.istore_n 3, 1) := by decide +kernel
theorem dX11_barrel_92 : decode cX11_barrel 92 = .ok (.iload_n 3, 1) := by decide +kernel
theorem dX11_barrel_93 : decode cX11_barrel 93 = .ok (.aload_n 0, 1) := by decide +kernel
theorem dX11_barrel_94 : decode cX11_barrel 94 = .ok (.getfield 17, 3) := by decide +kernel
theorem dX11_barrel_97 : decode cX11_barrel 97 = .ok (.iload_n 2, 1) := by decide +kernel
theorem dX11_barrel_98 : decode cX11_barrel 98 = .ok (.iaload, 1) := by decide +kernel
theorem dX11_barrel_99 : decode cX11_barrel 99 = .ok (.if_icmp .ge 38, 3) := by decide +kernel
theorem dX11_barrel_102 : decode cX11_barrel 102 = .ok (.aload_n 0, 1) := by decide +kernel
theorem dX11_barrel_103 : decode cX11_barrel 103 = .ok (.getfield 41, 3) := by decide +kernel
theorem dX11_barrel_106 : decode cX11_barrel 106 = .ok (.bipush 48, 2) := by decide +kernel
theorem dX11_barrel_108 : decode cX11_barrel 108 = .ok (.aload_n 0, 1) := by decide +kernel
theorem dX11_barrel_109 : decode cX11_barrel 109 = .ok (.getfield 160, 3) := by decide +kernel
theorem dX11_barrel_112 : decode cX11_barrel 112 = .ok (.imul, 1) := by decide +kernel
theorem dX11_barrel_113 : decode cX11_barrel 113 = .ok (.iload_n 3, 1) := by decide +kernel
theorem dX11_barrel_114 : decode cX11_barrel 114 = .ok (.iadd, 1) := by decide +kernel
theorem dX11_barrel_115 : decode cX11_barrel 115 = .ok (.aload_n 0, 1) := by decide +kernel
theorem dX11_barrel_116 : decode cX11_barrel 116 = .ok (.getfield 20, 3) := by decide +kernel
theorem dX11_barrel_119 : decode cX11_barrel 119 = .ok (.bipush 48, 2) := by decide +kernel
theorem dX11_barrel_121 : decode cX11_barrel 121 = .ok (.iload_n 2, 1) := by decide +kernel
theorem dX11_barrel_122 : decode cX11_barrel 122 = .ok (.imul, 1) := by decide +kernel
theorem dX11_barrel_123 : decode cX11_barrel 123 = .ok (.iload_n 3, 1) := by decide +kernel
theorem dX11_barrel_124 : decode cX11_barrel 124 = .ok (.iadd, 1) := by decide +kernel
theorem dX11_barrel_125 : decode cX11_barrel 125 = .ok (.iaload, 1) := by decide +kernel
theorem dX11_barrel_126 : decode cX11_barrel 126 = .ok (.sipush 255, 3) := by decide +kernel
theorem dX11_barrel_129 : decode cX11_barrel 129 = .ok (.iand, 1) := by decide +kernel
theorem dX11_barrel_130 : decode cX11_barrel 130 = .ok (.iastore, 1) := by decide +kernel
theorem dX11_barrel_131 : decode cX11_barrel 131 = .ok (.iinc 3 1, 3) := by decide +kernel
theorem dX11_barrel_134 : decode cX11_barrel 134 = .ok (.goto (-42), 3) := by decide +kernel
theorem dX11_barrel_137 : decode cX11_barrel 137 = .ok (.aload_n 0, 1) := by decide +kernel
theorem dX11_barrel_138 : decode cX11_barrel 138 = .ok (.iload_n 1, 1) := by decide +kernel
theorem dX11_barrel_139 : decode cX11_barrel 139 = .ok (.iconst 3, 1) := by decide +kernel
theorem dX11_barrel_140 : decode cX11_barrel 140 = .ok (.invokevirtual 169, 3) := by decide +kernel
theorem dX11_barrel_143 : decode cX11_barrel 143 = .ok (.ireturn, 1) := by decide +kernel
theorem dX11_isTrain_0 : decode cX11_isTrain 0 = .ok (.iload_n 1, 1) := by decide +kernel
theorem dX11_isTrain_1 : decode cX11_isTrain 1 = .ok (.iconst 0, 1) := by decide +kernel
theorem dX11_isTrain_2 : decode cX11_isTrain 2 = .ok (.aload_n 0, 1) := by decide +kernel
theorem dX11_isTrain_3 : decode cX11_isTrain 3 = .ok (.getfield 160, 3) := by decide +kernel
theorem dX11_isTrain_6 : decode cX11_isTrain 6 = .ok (.iconst 1, 1) := by decide +kernel
theorem dX11_isTrain_7 : decode cX11_isTrain 7 = .ok (.isub, 1) := by decide +kernel
theorem dX11_isTrain_8 : decode cX11_isTrain 8 = .ok (.invokestatic 145, 3) := by decide +kernel
theorem dX11_isTrain_11 : decode cX11_isTrain 11 = .ok (.ireturn, 1) := by decide +kernel
theorem dX11_isPlate_0 : decode cX11_isPlate 0 = .ok (.aload_n 0, 1) := by decide +kernel
theorem dX11_isPlate_1 : decode cX11_isPlate 1 = .ok (.getfield 26, 3) := by decide +kernel
theorem dX11_isPlate_4 : decode cX11_isPlate 4 = .ok (.iload_n 1, 1) := by decide +kernel
theorem dX11_isPlate_5 : decode cX11_isPlate 5 = .ok (.iaload, 1) := by decide +kernel
theorem dX11_isPlate_6 : decode cX11_isPlate 6 = .ok (.iconst 1, 1) := by decide +kernel
theorem dX11_isPlate_7 : decode cX11_isPlate 7 = .ok (.if_icmp .eq 13, 3) := by decide +kernel
theorem dX11_isPlate_10 : decode cX11_isPlate 10 = .ok (.aload_n 0, 1) := by decide +kernel
theorem dX11_isPlate_11 : decode cX11_isPlate 11 = .ok (.getfield 26, 3) := by decide +kernel
theorem dX11_isPlate_14 : decode cX11_isPlate 14 = .ok (.iload_n 1, 1) := by decide +kernel
theorem dX11_isPlate_15 : decode cX11_isPlate 15 = .ok (.iaload, 1) := by decide +kernel
theorem dX11_isPlate_16 : decode cX11_isPlate 16 = .ok (.iconst 3, 1) := by decide +kernel
theorem dX11_isPlate_17 : decode cX11_isPlate 17 = .ok (.if_icmp .ne 7, 3) := by decide +kernel
theorem dX11_isPlate_20 : decode cX11_isPlate 20 = .ok (.iconst 1, 1) := by decide +kernel
theorem dX11_isPlate_21 : decode cX11_isPlate 21 = .ok (.goto 4, 3) := by decide +kernel
theorem dX11_isPlate_24 : decode cX11_isPlate 24 = .ok (.iconst 0, 1) := by decide +kernel
theorem dX11_isPlate_25 : decode cX11_isPlate 25 = .ok (.ireturn, 1) := by decide +kernel
theorem dX11_gear_0 : decode cX11_gear 0 = .ok (.aload_n 0, 1) := by decide +kernel
theorem dX11_gear_1 : decode cX11_gear 1 = .ok (.iload_n 1, 1) := by decide +kernel
theorem dX11_gear_2 : decode cX11_gear 2 = .ok (.invokevirtual 176, 3) := by decide +kernel
theorem dX11_gear_5 : decode cX11_gear 5 = .ok (.ifCond .eq 23, 3) := by decide +kernel
theorem dX11_gear_8 : decode cX11_gear 8 = .ok (.iload_n 2, 1) := by decide +kernel
theorem dX11_gear_9 : decode cX11_gear 9 = .ok (.iconst 1, 1) := by decide +kernel
theorem dX11_gear_10 : decode cX11_gear 10 = .ok (.bipush 60, 2) := by decide +kernel
theorem dX11_gear_12 : decode cX11_gear 12 = .ok (.invokestatic 145, 3) := by decide +kernel
theorem dX11_gear_15 : decode cX11_gear 15 = .ok (.ifCond .eq 13, 3) := by decide +kernel
theorem dX11_gear_18 : decode cX11_gear 18 = .ok (.iload_n 3, 1) := by decide +kernel
theorem dX11_gear_19 : decode cX11_gear 19 = .ok (.iconst 0, 1) := by decide +kernel
theorem dX11_gear_20 : decode cX11_gear 20 = .ok (.ldc 179, 2) := by decide +kernel
theorem dX11_gear_22 : decode cX11_gear 22 = .ok (.invokestatic 145, 3) := by decide +kernel
theorem dX11_gear_25 : decode cX11_gear 25 = .ok (.ifCond .ne 5, 3) := by decide +kernel
theorem dX11_gear_28 : decode cX11_gear 28 = .ok (.iconst (-1), 1) := by decide +kernel
theorem dX11_gear_29 : decode cX11_gear 29 = .ok (.ireturn, 1) := by decide +kernel
theorem dX11_gear_30 : decode cX11_gear 30 = .ok (.aload_n 0, 1) := by decide +kernel
theorem dX11_gear_31 : decode cX11_gear 31 = .ok (.getfield 53, 3) := by decide +kernel
theorem dX11_gear_34 : decode cX11_gear 34 = .ok (.iload_n 1, 1) := by decide +kernel
theorem dX11_gear_35 : decode cX11_gear 35 = .ok (.iaload, 1) := by decide +kernel
theorem dX11_gear_36 : decode cX11_gear 36 = .ok (.istore 4, 2) := by decide +kernel
theorem dX11_gear_38 : decode cX11_gear 38 = .ok (.aload_n 0, 1) := by decide +kernel
theorem dX11_gear_39 : decode cX11_gear 39 = .ok (.getfield 47, 3) := by decide +kernel
theorem dX11_gear_42 : decode cX11_gear 42 = .ok (.iload_n 1, 1) := by decide +kernel
theorem dX11_gear_43 : decode cX11_gear 43 = .ok (.iload_n 2, 1) := by decide +kernel
theorem dX11_gear_44 : decode cX11_gear 44 = .ok (.iastore, 1) := by decide +kernel
theorem dX11_gear_45 : decode cX11_gear 45 = .ok (.aload_n 0, 1) := by decide +kernel
theorem dX11_gear_46 : decode cX11_gear 46 = .ok (.getfield 50, 3) := by decide +kernel
theorem dX11_gear_49 : decode cX11_gear 49 = .ok (.iload_n 1, 1) := by decide +kernel
theorem dX11_gear_50 : decode cX11_gear 50 = .ok (.iload_n 3, 1) := by decide +kernel
theorem dX11_gear_51 : decode cX11_gear 51 = .ok (.iastore, 1) := by decide +kernel
theorem dX11_gear_52 : decode cX11_gear 52 = .ok (.aload_n 0, 1) := by decide +kernel
theorem dX11_gear_53 : decode cX11_gear 53 = .ok (.getfield 53, 3) := by decide +kernel
theorem dX11_gear_56 : decode cX11_gear 56 = .ok (.iload_n 1, 1) := by decide +kernel
theorem dX11_gear_57 : decode cX11_gear 57 = .ok (.iload_n 3, 1) := by decide +kernel
theorem dX11_gear_58 : decode cX11_gear 58 = .ok (.iastore, 1) := by decide +kernel
theorem dX11_gear_59 : decode cX11_gear 59 = .ok (.iload 4, 2) := by decide +kernel
theorem dX11_gear_61 : decode cX11_gear 61 = .ok (.ireturn, 1) := by decide +kernel
theorem dX11_wind_0 : decode cX11_wind 0 = .ok (.aload_n 0, 1) := by decide +kernel
theorem dX11_wind_1 : decode cX11_wind 1 = .ok (.iload_n 1, 1) := by decide +kernel
theorem dX11_wind_2 : decode cX11_wind 2 = .ok (.invokevirtual 176, 3) := by decide +kernel
theorem dX11_wind_5 : decode cX11_wind 5 = .ok (.ifCond .ne 5, 3) := by decide +kernel
theorem dX11_wind_8 : decode cX11_wind 8 = .ok (.iconst (-1), 1) := by decide +kernel
theorem dX11_wind_9 : decode cX11_wind 9 = .ok (.ireturn, 1) := by decide +kernel
theorem dX11_wind_10 : decode cX11_wind 10 = .ok (.aload_n 0, 1) := by decide +kernel
theorem dX11_wind_11 : decode cX11_wind 11 = .ok (.getfield 50, 3) := by decide +kernel
theorem dX11_wind_14 : decode cX11_wind 14 = .ok (.iload_n 1, 1) := by decide +kernel
theorem dX11_wind_15 : decode cX11_wind 15 = .ok (.iaload, 1) := by decide +kernel
theorem dX11_wind_16 : decode cX11_wind 16 = .ok (.aload_n 0, 1) := by decide +kernel
theorem dX11_wind_17 : decode cX11_wind 17 = .ok (.getfield 53, 3) := by decide +kernel
theorem dX11_wind_20 : decode cX11_wind 20 = .ok (.iload_n 1, 1) := by decide +kernel
theorem dX11_wind_21 : decode cX11_wind 21 = .ok (.iaload, 1) := by decide +kernel
theorem dX11_wind_22 : decode cX11_wind 22 = .ok (.isub, 1) := by decide +kernel
theorem dX11_wind_23 : decode cX11_wind 23 = .ok (.istore_n 2, 1) := by decide +kernel
theorem dX11_wind_24 : decode cX11_wind 24 = .ok (.aload_n 0, 1) := by decide +kernel
theorem dX11_wind_25 : decode cX11_wind 25 = .ok (.getfield 53, 3) := by decide +kernel
theorem dX11_wind_28 : decode cX11_wind 28 = .ok (.iload_n 1, 1) := by decide +kernel
theorem dX11_wind_29 : decode cX11_wind 29 = .ok (.aload_n 0, 1) := by decide +kernel
theorem dX11_wind_30 : decode cX11_wind 30 = .ok (.getfield 50, 3) := by decide +kernel
theorem dX11_wind_33 : decode cX11_wind 33 = .ok (.iload_n 1, 1) := by decide +kernel
theorem dX11_wind_34 : decode cX11_wind 34 = .ok (.iaload, 1) := by decide +kernel
theorem dX11_wind_35 : decode cX11_wind 35 = .ok (.iastore, 1) := by decide +kernel
theorem dX11_wind_36 : decode cX11_wind 36 = .ok (.iload_n 2, 1) := by decide +kernel
theorem dX11_wind_37 : decode cX11_wind 37 = .ok (.ireturn, 1) := by decide +kernel
theorem dX11_broken_0 : decode cX11_broken 0 = .ok (.aload_n 0, 1) := by decide +kernel
theorem dX11_broken_1 : decode cX11_broken 1 = .ok (.iload_n 1, 1) := by decide +kernel
theorem dX11_broken_2 : decode cX11_broken 2 = .ok (.invokevirtual 176, 3) := by decide +kernel
theorem dX11_broken_5 : decode cX11_broken 5 = .ok (.ifCond .eq 14, 3) := by decide +kernel
theorem dX11_broken_8 : decode cX11_broken 8 = .ok (.iload_n 2, 1) := by decide +kernel
theorem dX11_broken_9 : decode cX11_broken 9 = .ok (.iconst 0, 1) := by decide +kernel
theorem dX11_broken_10 : decode cX11_broken 10 = .ok (.sipush 255, 3) := by decide +kernel
theorem dX11_broken_13 : decode cX11_broken 13 = .ok (.invokestatic 145, 3) := by decide +kernel
theorem dX11_broken_16 : decode cX11_broken 16 = .ok (.ifCond .ne 5, 3) := by decide +kernel
theorem dX11_broken_19 : decode cX11_broken 19 = .ok (.iconst (-1), 1) := by decide +kernel
theorem dX11_broken_20 : decode cX11_broken 20 = .ok (.ireturn, 1) := by decide +kernel
theorem dX11_broken_21 : decode cX11_broken 21 = .ok (.aload_n 0, 1) := by decide +kernel
theorem dX11_broken_22 : decode cX11_broken 22 = .ok (.getfield 62, 3) := by decide +kernel
theorem dX11_broken_25 : decode cX11_broken 25 = .ok (.iload_n 1, 1) := by decide +kernel
theorem dX11_broken_26 : decode cX11_broken 26 = .ok (.iaload, 1) := by decide +kernel
theorem dX11_broken_27 : decode cX11_broken 27 = .ok (.istore_n 3, 1) := by decide +kernel
theorem dX11_broken_28 : decode cX11_broken 28 = .ok (.aload_n 0, 1) := by decide +kernel
theorem dX11_broken_29 : decode cX11_broken 29 = .ok (.getfield 62, 3) := by decide +kernel
theorem dX11_broken_32 : decode cX11_broken 32 = .ok (.iload_n 1, 1) := by decide +kernel
theorem dX11_broken_33 : decode cX11_broken 33 = .ok (.iload_n 2, 1) := by decide +kernel
theorem dX11_broken_34 : decode cX11_broken 34 = .ok (.iastore, 1) := by decide +kernel
theorem dX11_broken_35 : decode cX11_broken 35 = .ok (.iload_n 3, 1) := by decide +kernel
theorem dX11_broken_36 : decode cX11_broken 36 = .ok (.ireturn, 1) := by decide +kernel
theorem dX11_trainTells_0 : decode cX11_trainTells 0 = .ok (.iload_n 2, 1) := by decide +kernel
theorem dX11_trainTells_1 : decode cX11_trainTells 1 = .ok (.tableswitch 121 0 6 #[43, 50, 57, 77, 84, 91, 98], 43) := by decide +kernel
theorem dX11_trainTells_44 : decode cX11_trainTells 44 = .ok (.aload_n 0, 1) := by decide +kernel
theorem dX11_trainTells_45 : decode cX11_trainTells 45 = .ok (.getfield 26, 3) := by decide +kernel
theorem dX11_trainTells_48 : decode cX11_trainTells 48 = .ok (.iload_n 1, 1) := by decide +kernel
theorem dX11_trainTells_49 : decode cX11_trainTells 49 = .ok (.iaload, 1) := by decide +kernel
theorem dX11_trainTells_50 : decode cX11_trainTells 50 = .ok (.ireturn, 1) := by decide +kernel
theorem dX11_trainTells_51 : decode cX11_trainTells 51 = .ok (.aload_n 0, 1) := by decide +kernel
theorem dX11_trainTells_52 : decode cX11_trainTells 52 = .ok (.getfield 29, 3) := by decide +kernel
theorem dX11_trainTells_55 : decode cX11_trainTells 55 = .ok (.iload_n 1, 1) := by decide +kernel
theorem dX11_trainTells_56 : decode cX11_trainTells 56 = .ok (.iaload, 1) := by decide +kernel
theorem dX11_trainTells_57 : decode cX11_trainTells 57 = .ok (.ireturn, 1) := by decide +kernel
theorem dX11_trainTells_58 : decode cX11_trainTells 58 = .ok (.aload_n 0, 1) := by decide +kernel
theorem dX11_trainTells_59 : decode cX11_trainTells 59 = .ok (.iload_n 1, 1) := by decide +kernel
theorem dX11_trainTells_60 : decode cX11_trainTells 60 = .ok (.invokevirtual 180, 3) := by decide +kernel
theorem dX11_trainTells_63 : decode cX11_trainTells 63 = .ok (.ifCond .eq 12, 3) := by decide +kernel
theorem dX11_trainTells_66 : decode cX11_trainTells 66 = .ok (.aload_n 0, 1) := by decide +kernel
theorem dX11_trainTells_67 : decode cX11_trainTells 67 = .ok (.getfield 35, 3) := by decide +kernel
theorem dX11_trainTells_70 : decode cX11_trainTells 70 = .ok (.iload_n 1, 1) := by decide +kernel
theorem dX11_trainTells_71 : decode cX11_trainTells 71 = .ok (.iaload, 1) := by decide +kernel
theorem dX11_trainTells_72 : decode cX11_trainTells 72 = .ok (.goto 5, 3) := by decide +kernel
theorem dX11_trainTells_75 : decode cX11_trainTells 75 = .ok (.bipush (-9), 2) := by decide +kernel
theorem dX11_trainTells_77 : decode cX11_trainTells 77 = .ok (.ireturn, 1) := by decide +kernel
theorem dX11_trainTells_78 : decode cX11_trainTells 78 = .ok (.aload_n 0, 1) := by decide +kernel
theorem dX11_trainTells_79 : decode cX11_trainTells 79 = .ok (.getfield 47, 3) := by decide +kernel
theorem dX11_trainTells_82 : decode cX11_trainTells 82 = .ok (.iload_n 1, 1) := by decide +kernel
theorem dX11_trainTells_83 : decode cX11_trainTells 83 = .ok (.iaload, 1) := by decide +kernel
theorem dX11_trainTells_84 : decode cX11_trainTells 84 = .ok (.ireturn, 1) := by decide +kernel
theorem dX11_trainTells_85 : decode cX11_trainTells 85 = .ok (.aload_n 0, 1) := by decide +kernel
theorem dX11_trainTells_86 : decode cX11_trainTells 86 = .ok (.getfield 53, 3) := by decide +kernel
theorem dX11_trainTells_89 : decode cX11_trainTells 89 = .ok (.iload_n 1, 1) := by decide +kernel
theorem dX11_trainTells_90 : decode cX11_trainTells 90 = .ok (.iaload, 1) := by decide +kernel
theorem dX11_trainTells_91 : decode cX11_trainTells 91 = .ok (.ireturn, 1) := by decide +kernel
theorem dX11_trainTells_92 : decode cX11_trainTells 92 = .ok (.aload_n 0, 1) := by decide +kernel
theorem dX11_trainTells_93 : decode cX11_trainTells 93 = .ok (.getfield 56, 3) := by decide +kernel
theorem dX11_trainTells_96 : decode cX11_trainTells 96 = .ok (.iload_n 1, 1) := by decide +kernel
theorem dX11_trainTells_97 : decode cX11_trainTells 97 = .ok (.iaload, 1) := by decide +kernel
theorem dX11_trainTells_98 : decode cX11_trainTells 98 = .ok (.ireturn, 1) := by decide +kernel
theorem dX11_trainTells_99 : decode cX11_trainTells 99 = .ok (.aload_n 0, 1) := by decide +kernel
theorem dX11_trainTells_100 : decode cX11_trainTells 100 = .ok (.getfield 59, 3) := by decide +kernel
theorem dX11_trainTells_103 : decode cX11_trainTells 103 = .ok (.iload_n 1, 1) := by decide +kernel
theorem dX11_trainTells_104 : decode cX11_trainTells 104 = .ok (.iaload, 1) := by decide +kernel
theorem dX11_trainTells_105 : decode cX11_trainTells 105 = .ok (.ifCond .ge 8, 3) := by decide +kernel
theorem dX11_trainTells_108 : decode cX11_trainTells 108 = .ok (.bipush (-9), 2) := by decide +kernel
theorem dX11_trainTells_110 : decode cX11_trainTells 110 = .ok (.goto 11, 3) := by decide +kernel
theorem dX11_trainTells_113 : decode cX11_trainTells 113 = .ok (.aload_n 0, 1) := by decide +kernel
theorem dX11_trainTells_114 : decode cX11_trainTells 114 = .ok (.getfield 59, 3) := by decide +kernel
theorem dX11_trainTells_117 : decode cX11_trainTells 117 = .ok (.iload_n 1, 1) := by decide +kernel
theorem dX11_trainTells_118 : decode cX11_trainTells 118 = .ok (.iaload, 1) := by decide +kernel
theorem dX11_trainTells_119 : decode cX11_trainTells 119 = .ok (.iconst 2, 1) := by decide +kernel
theorem dX11_trainTells_120 : decode cX11_trainTells 120 = .ok (.idiv, 1) := by decide +kernel
theorem dX11_trainTells_121 : decode cX11_trainTells 121 = .ok (.ireturn, 1) := by decide +kernel
theorem dX11_trainTells_122 : decode cX11_trainTells 122 = .ok (.aload_n 0, 1) := by decide +kernel
theorem dX11_trainTells_123 : decode cX11_trainTells 123 = .ok (.getfield 65, 3) := by decide +kernel
theorem dX11_trainTells_126 : decode cX11_trainTells 126 = .ok (.iload_n 1, 1) := by decide +kernel
theorem dX11_trainTells_127 : decode cX11_trainTells 127 = .ok (.iaload, 1) := by decide +kernel
theorem dX11_trainTells_128 : decode cX11_trainTells 128 = .ok (.ireturn, 1) := by decide +kernel
theorem dX11_told_0 : decode cX11_told 0 = .ok (.aload_n 0, 1) := by decide +kernel
theorem dX11_told_1 : decode cX11_told 1 = .ok (.iload_n 1, 1) := by decide +kernel
theorem dX11_told_2 : decode cX11_told 2 = .ok (.invokevirtual 176, 3) := by decide +kernel
theorem dX11_told_5 : decode cX11_told 5 = .ok (.ifCond .eq 22, 3) := by decide +kernel
theorem dX11_told_8 : decode cX11_told 8 = .ok (.iload_n 2, 1) := by decide +kernel
theorem dX11_told_9 : decode cX11_told 9 = .ok (.iconst 0, 1) := by decide +kernel
theorem dX11_told_10 : decode cX11_told 10 = .ok (.bipush 7, 2) := by decide +kernel
theorem dX11_told_12 : decode cX11_told 12 = .ok (.invokestatic 145, 3) := by decide +kernel
theorem dX11_told_15 : decode cX11_told 15 = .ok (.ifCond .eq 12, 3) := by decide +kernel
theorem dX11_told_18 : decode cX11_told 18 = .ok (.aload_n 0, 1) := by decide +kernel
theorem dX11_told_19 : decode cX11_told 19 = .ok (.iload_n 1, 1) := by decide +kernel
theorem dX11_told_20 : decode cX11_told 20 = .ok (.iload_n 2, 1) := by decide +kernel
theorem dX11_told_21 : decode cX11_told 21 = .ok (.invokevirtual 183, 3) := by decide +kernel
theorem dX11_told_24 : decode cX11_told 24 = .ok (.goto 4, 3) := by decide +kernel
theorem dX11_told_27 : decode cX11_told 27 = .ok (.iconst (-1), 1) := by decide +kernel
theorem dX11_told_28 : decode cX11_told 28 = .ok (.ireturn, 1) := by decide +kernel
theorem dX11_over_0 : decode cX11_over 0 = .ok (.iconst 0, 1) := by decide +kernel
theorem dX11_over_1 : decode cX11_over 1 = .ok (.istore_n 3, 1) := by decide +kernel
theorem dX11_over_2 : decode cX11_over 2 = .ok (.iconst 0, 1) := by decide +kernel
theorem dX11_over_3 : decode cX11_over 3 = .ok (.istore 4, 2) := by decide +kernel
theorem dX11_over_5 : decode cX11_over 5 = .ok (.iload 4, 2) := by decide +kernel
theorem dX11_over_7 : decode cX11_over 7 = .ok (.aload_n 0, 1) := by decide +kernel
theorem dX11_over_8 : decode cX11_over 8 = .ok (.getfield 29, 3) := by decide +kernel
theorem dX11_over_11 : decode cX11_over 11 = .ok (.iload_n 1, 1) := by decide +kernel
theorem dX11_over_12 : decode cX11_over 12 = .ok (.iaload, 1) := by decide +kernel
theorem dX11_over_13 : decode cX11_over 13 = .ok (.if_icmp .ge 47, 3) := by decide +kernel
theorem dX11_over_16 : decode cX11_over 16 = .ok (.aload_n 0, 1) := by decide +kernel
theorem dX11_over_17 : decode cX11_over 17 = .ok (.getfield 32, 3) := by decide +kernel
theorem dX11_over_20 : decode cX11_over 20 = .ok (.bipush 24, 2) := by decide +kernel
theorem dX11_over_22 : decode cX11_over 22 = .ok (.iload_n 1, 1) := by decide +kernel
theorem dX11_over_23 : decode cX11_over 23 = .ok (.imul, 1) := by decide +kernel
theorem dX11_over_24 : decode cX11_over 24 = .ok (.iload 4, 2) := by decide +kernel
theorem dX11_over_26 : decode cX11_over 26 = .ok (.iadd, 1) := by decide +kernel
theorem dX11_over_27 : decode cX11_over 27 = .ok (.iaload, 1) := by decide +kernel
theorem dX11_over_28 : decode cX11_over 28 = .ok (.istore 5, 2) := by decide +kernel
theorem dX11_over_30 : decode cX11_over 30 = .ok (.iload_n 2, 1) := by decide +kernel
theorem dX11_over_31 : decode cX11_over 31 = .ok (.ifCond .eq 18, 3) := by decide +kernel
theorem dX11_over_34 : decode cX11_over 34 = .ok (.iload 5, 2) := by decide +kernel
theorem dX11_over_36 : decode cX11_over 36 = .ok (.iload_n 3, 1) := by decide +kernel
theorem dX11_over_37 : decode cX11_over 37 = .ok (.if_icmp .le 8, 3) := by decide +kernel
theorem dX11_over_40 : decode cX11_over 40 = .ok (.iload 5, 2) := by decide +kernel
theorem dX11_over_42 : decode cX11_over 42 = .ok (.goto 11, 3) := by decide +kernel
theorem dX11_over_45 : decode cX11_over 45 = .ok (.iload_n 3, 1) := by decide +kernel
theorem dX11_over_46 : decode cX11_over 46 = .ok (.goto 7, 3) := by decide +kernel
theorem dX11_over_49 : decode cX11_over 49 = .ok (.iload_n 3, 1) := by decide +kernel
theorem dX11_over_50 : decode cX11_over 50 = .ok (.iload 5, 2) := by decide +kernel
theorem dX11_over_52 : decode cX11_over 52 = .ok (.iadd, 1) := by decide +kernel
theorem dX11_over_53 : decode cX11_over 53 = .ok (.istore_n 3, 1) := by decide +kernel
theorem dX11_over_54 : decode cX11_over 54 = .ok (.iinc 4 1, 3) := by decide +kernel
theorem dX11_over_57 : decode cX11_over 57 = .ok (.goto (-52), 3) := by decide +kernel
theorem dX11_over_60 : decode cX11_over 60 = .ok (.iload_n 3, 1) := by decide +kernel
theorem dX11_over_61 : decode cX11_over 61 = .ok (.ireturn, 1) := by decide +kernel
theorem dX11_mark_0 : decode cX11_mark 0 = .ok (.aload_n 0, 1) := by decide +kernel
theorem dX11_mark_1 : decode cX11_mark 1 = .ok (.iload_n 1, 1) := by decide +kernel
theorem dX11_mark_2 : decode cX11_mark 2 = .ok (.invokevirtual 176, 3) := by decide +kernel
theorem dX11_mark_5 : decode cX11_mark 5 = .ok (.ifCond .eq 12, 3) := by decide +kernel
theorem dX11_mark_8 : decode cX11_mark 8 = .ok (.iload_n 2, 1) := by decide +kernel
theorem dX11_mark_9 : decode cX11_mark 9 = .ok (.iconst 1, 1) := by decide +kernel
theorem dX11_mark_10 : decode cX11_mark 10 = .ok (.iconst 3, 1) := by decide +kernel
theorem dX11_mark_11 : decode cX11_mark 11 = .ok (.invokestatic 145, 3) := by decide +kernel
theorem dX11_mark_14 : decode cX11_mark 14 = .ok (.ifCond .ne 5, 3) := by decide +kernel
theorem dX11_mark_17 : decode cX11_mark 17 = .ok (.iconst (-1), 1) := by decide +kernel
theorem dX11_mark_18 : decode cX11_mark 18 = .ok (.ireturn, 1) := by decide +kernel
theorem dX11_mark_19 : decode cX11_mark 19 = .ok (.aload_n 0, 1) := by decide +kernel
theorem dX11_mark_20 : decode cX11_mark 20 = .ok (.getfield 26, 3) := by decide +kernel
theorem dX11_mark_23 : decode cX11_mark 23 = .ok (.iload_n 1, 1) := by decide +kernel
theorem dX11_mark_24 : decode cX11_mark 24 = .ok (.iaload, 1) := by decide +kernel
theorem dX11_mark_25 : decode cX11_mark 25 = .ok (.iload_n 2, 1) := by decide +kernel
theorem dX11_mark_26 : decode cX11_mark 26 = .ok (.if_icmp .eq 24, 3) := by decide +kernel
theorem dX11_mark_29 : decode cX11_mark 29 = .ok (.iload_n 2, 1) := by decide +kernel
theorem dX11_mark_30 : decode cX11_mark 30 = .ok (.iconst 1, 1) := by decide +kernel
theorem dX11_mark_31 : decode cX11_mark 31 = .ok (.if_icmp .ne 13, 3) := by decide +kernel
theorem dX11_mark_34 : decode cX11_mark 34 = .ok (.aload_n 0, 1) := by decide +kernel
theorem dX11_mark_35 : decode cX11_mark 35 = .ok (.getfield 26, 3) := by decide +kernel
theorem dX11_mark_38 : decode cX11_mark 38 = .ok (.iload_n 1, 1) := by decide +kernel
theorem dX11_mark_39 : decode cX11_mark 39 = .ok (.iaload, 1) := by decide +kernel
theorem dX11_mark_40 : decode cX11_mark 40 = .ok (.iconst 3, 1) := by decide +kernel
theorem dX11_mark_41 : decode cX11_mark 41 = .ok (.if_icmp .eq 9, 3) := by decide +kernel
theorem dX11_mark_44 : decode cX11_mark 44 = .ok (.aload_n 0, 1) := by decide +kernel
theorem dX11_mark_45 : decode cX11_mark 45 = .ok (.iconst 3, 1) := by decide +kernel
theorem dX11_mark_46 : decode cX11_mark 46 = .ok (.invokevirtual 153, 3) := by decide +kernel
theorem dX11_mark_49 : decode cX11_mark 49 = .ok (.ireturn, 1) := by decide +kernel
theorem dX11_mark_50 : decode cX11_mark 50 = .ok (.iload_n 2, 1) := by decide +kernel
theorem dX11_mark_51 : decode cX11_mark 51 = .ok (.iconst 3, 1) := by decide +kernel
theorem dX11_mark_52 : decode cX11_mark 52 = .ok (.if_icmp .ne 12, 3) := by decide +kernel
theorem dX11_mark_55 : decode cX11_mark 55 = .ok (.aload_n 0, 1) := by decide +kernel
theorem dX11_mark_56 : decode cX11_mark 56 = .ok (.getfield 44, 3) := by decide +kernel
theorem dX11_mark_59 : decode cX11_mark 59 = .ok (.iload_n 1, 1) := by decide +kernel
theorem dX11_mark_60 : decode cX11_mark 60 = .ok (.iaload, 1) := by decide +kernel
theorem dX11_mark_61 : decode cX11_mark 61 = .ok (.goto 18, 3) := by decide +kernel
theorem dX11_mark_64 : decode cX11_mark 64 = .ok (.aload_n 0, 1) := by decide +kernel
theorem dX11_mark_65 : decode cX11_mark 65 = .ok (.iload_n 1, 1) := by decide +kernel
theorem dX11_mark_66 : decode cX11_mark 66 = .ok (.iload_n 2, 1) := by decide +kernel
theorem dX11_mark_67 : decode cX11_mark 67 = .ok (.iconst 2, 1) := by decide +kernel
theorem dX11_mark_68 : decode cX11_mark 68 = .ok (.if_icmp .ne 7, 3) := by decide +kernel
theorem dX11_mark_71 : decode cX11_mark 71 = .ok (.iconst 1, 1) := by decide +kernel
theorem dX11_mark_72 : decode cX11_mark 72 = .ok (.goto 4, 3) := by decide +kernel
theorem dX11_mark_75 : decode cX11_mark 75 = .ok (.iconst 0, 1) := by decide +kernel
theorem dX11_mark_76 : decode cX11_mark 76 = .ok (.invokevirtual 186, 3) := by decide +kernel
theorem dX11_mark_79 : decode cX11_mark 79 = .ok (.ireturn, 1) := by decide +kernel
theorem dX11_askedNotch_0 : decode cX11_askedNotch 0 = .ok (.aload_n 0, 1) := by decide +kernel
theorem dX11_askedNotch_1 : decode cX11_askedNotch 1 = .ok (.iload_n 1, 1) := by decide +kernel
theorem dX11_askedNotch_2 : decode cX11_askedNotch 2 = .ok (.invokevirtual 176, 3) := by decide +kernel
theorem dX11_askedNotch_5 : decode cX11_askedNotch 5 = .ok (.ifCond .ne 7, 3) := by decide +kernel
theorem dX11_askedNotch_8 : decode cX11_askedNotch 8 = .ok (.iconst (-1), 1) := by decide +kernel
theorem dX11_askedNotch_9 : decode cX11_askedNotch 9 = .ok (.goto 45, 3) := by decide +kernel
theorem dX11_askedNotch_12 : decode cX11_askedNotch 12 = .ok (.aload_n 0, 1) := by decide +kernel
theorem dX11_askedNotch_13 : decode cX11_askedNotch 13 = .ok (.getfield 26, 3) := by decide +kernel
theorem dX11_askedNotch_16 : decode cX11_askedNotch 16 = .ok (.iload_n 1, 1) := by decide +kernel
theorem dX11_askedNotch_17 : decode cX11_askedNotch 17 = .ok (.iaload, 1) := by decide +kernel
theorem dX11_askedNotch_18 : decode cX11_askedNotch 18 = .ok (.ifCond .ne 11, 3) := by decide +kernel
theorem dX11_askedNotch_21 : decode cX11_askedNotch 21 = .ok (.aload_n 0, 1) := by decide +kernel
theorem dX11_askedNotch_22 : decode cX11_askedNotch 22 = .ok (.iconst 3, 1) := by decide +kernel
theorem dX11_askedNotch_23 : decode cX11_askedNotch 23 = .ok (.invokevirtual 153, 3) := by decide +kernel
theorem dX11_askedNotch_26 : decode cX11_askedNotch 26 = .ok (.goto 28, 3) := by decide +kernel
theorem dX11_askedNotch_29 : decode cX11_askedNotch 29 = .ok (.iload_n 2, 1) := by decide +kernel
theorem dX11_askedNotch_30 : decode cX11_askedNotch 30 = .ok (.iconst 0, 1) := by decide +kernel
theorem dX11_askedNotch_31 : decode cX11_askedNotch 31 = .ok (.aload_n 0, 1) := by decide +kernel
theorem dX11_askedNotch_32 : decode cX11_askedNotch 32 = .ok (.getfield 29, 3) := by decide +kernel
theorem dX11_askedNotch_35 : decode cX11_askedNotch 35 = .ok (.iload_n 1, 1) := by decide +kernel
theorem dX11_askedNotch_36 : decode cX11_askedNotch 36 = .ok (.iaload, 1) := by decide +kernel
theorem dX11_askedNotch_37 : decode cX11_askedNotch 37 = .ok (.iconst 1, 1) := by decide +kernel
theorem dX11_askedNotch_38 : decode cX11_askedNotch 38 = .ok (.isub, 1) := by decide +kernel
theorem dX11_askedNotch_39 : decode cX11_askedNotch 39 = .ok (.invokestatic 145, 3) := by decide +kernel
theorem dX11_askedNotch_42 : decode cX11_askedNotch 42 = .ok (.ifCond .eq 7, 3) := by decide +kernel
theorem dX11_askedNotch_45 : decode cX11_askedNotch 45 = .ok (.iconst 0, 1) := by decide +kernel
theorem dX11_askedNotch_46 : decode cX11_askedNotch 46 = .ok (.goto 8, 3) := by decide +kernel
theorem dX11_askedNotch_49 : decode cX11_askedNotch 49 = .ok (.aload_n 0, 1) := by decide +kernel
theorem dX11_askedNotch_50 : decode cX11_askedNotch 50 = .ok (.iconst 2, 1) := by decide +kernel
theorem dX11_askedNotch_51 : decode cX11_askedNotch 51 = .ok (.invokevirtual 153, 3) := by decide +kernel
theorem dX11_askedNotch_54 : decode cX11_askedNotch 54 = .ok (.ireturn, 1) := by decide +kernel
theorem dX11_notch_0 : decode cX11_notch 0 = .ok (.aload_n 0, 1) := by decide +kernel
theorem dX11_notch_1 : decode cX11_notch 1 = .ok (.iload_n 1, 1) := by decide +kernel
theorem dX11_notch_2 : decode cX11_notch 2 = .ok (.iload_n 2, 1) := by decide +kernel
theorem dX11_notch_3 : decode cX11_notch 3 = .ok (.invokevirtual 190, 3) := by decide +kernel
theorem dX11_notch_6 : decode cX11_notch 6 = .ok (.istore_n 3, 1) := by decide +kernel
theorem dX11_notch_7 : decode cX11_notch 7 = .ok (.iload_n 3, 1) := by decide +kernel
theorem dX11_notch_8 : decode cX11_notch 8 = .ok (.ifCond .ge 7, 3) := by decide +kernel
theorem dX11_notch_11 : decode cX11_notch 11 = .ok (.iload_n 3, 1) := by decide +kernel
theorem dX11_notch_12 : decode cX11_notch 12 = .ok (.goto 14, 3) := by decide +kernel
theorem dX11_notch_15 : decode cX11_notch 15 = .ok (.aload_n 0, 1) := by decide +kernel
theorem dX11_notch_16 : decode cX11_notch 16 = .ok (.getfield 32, 3) := by decide +kernel
theorem dX11_notch_19 : decode cX11_notch 19 = .ok (.bipush 24, 2) := by decide +kernel
theorem dX11_notch_21 : decode cX11_notch 21 = .ok (.iload_n 1, 1) := by decide +kernel
theorem dX11_notch_22 : decode cX11_notch 22 = .ok (.imul, 1) := by decide +kernel
theorem dX11_notch_23 : decode cX11_notch 23 = .ok (.iload_n 2, 1) := by decide +kernel
theorem dX11_notch_24 : decode cX11_notch 24 = .ok (.iadd, 1) := by decide +kernel
theorem dX11_notch_25 : decode cX11_notch 25 = .ok (.iaload, 1) := by decide +kernel
theorem dX11_notch_26 : decode cX11_notch 26 = .ok (.ireturn, 1) := by decide +kernel
theorem dX11_cut_0 : decode cX11_cut 0 = .ok (.iload_n 3, 1) := by decide +kernel
theorem dX11_cut_1 : decode cX11_cut 1 = .ok (.iconst 1, 1) := by decide +kernel
theorem dX11_cut_2 : decode cX11_cut 2 = .ok (.bipush 24, 2) := by decide +kernel
theorem dX11_cut_4 : decode cX11_cut 4 = .ok (.invokestatic 145, 3) := by decide +kernel
theorem dX11_cut_7 : decode cX11_cut 7 = .ok (.ifCond .ne 5, 3) := by decide +kernel
theorem dX11_cut_10 : decode cX11_cut 10 = .ok (.iconst (-1), 1) := by decide +kernel
theorem dX11_cut_11 : decode cX11_cut 11 = .ok (.ireturn, 1) := by decide +kernel
theorem dX11_cut_12 : decode cX11_cut 12 = .ok (.aload_n 0, 1) := by decide +kernel
theorem dX11_cut_13 : decode cX11_cut 13 = .ok (.iload_n 1, 1) := by decide +kernel
theorem dX11_cut_14 : decode cX11_cut 14 = .ok (.iload_n 2, 1) := by decide +kernel
theorem dX11_cut_15 : decode cX11_cut 15 = .ok (.invokevirtual 190, 3) := by decide +kernel
theorem dX11_cut_18 : decode cX11_cut 18 = .ok (.istore 4, 2) := by decide +kernel
theorem dX11_cut_20 : decode cX11_cut 20 = .ok (.iload 4, 2) := by decide +kernel
theorem dX11_cut_22 : decode cX11_cut 22 = .ok (.ifCond .ge 6, 3) := by decide +kernel
theorem dX11_cut_25 : decode cX11_cut 25 = .ok (.iload 4, 2) := by decide +kernel
theorem dX11_cut_27 : decode cX11_cut 27 = .ok (.ireturn, 1) := by decide +kernel
theorem dX11_cut_28 : decode cX11_cut 28 = .ok (.aload_n 0, 1) := by decide +kernel
theorem dX11_cut_29 : decode cX11_cut 29 = .ok (.getfield 32, 3) := by decide +kernel
theorem dX11_cut_32 : decode cX11_cut 32 = .ok (.bipush 24, 2) := by decide +kernel
theorem dX11_cut_34 : decode cX11_cut 34 = .ok (.iload_n 1, 1) := by decide +kernel
theorem dX11_cut_35 : decode cX11_cut 35 = .ok (.imul, 1) := by decide +kernel
theorem dX11_cut_36 : decode cX11_cut 36 = .ok (.iload_n 2, 1) := by decide +kernel
theorem dX11_cut_37 : decode cX11_cut 37 = .ok (.iadd, 1) := by decide +kernel
theorem dX11_cut_38 : decode cX11_cut 38 = .ok (.iaload, 1) := by decide +kernel
theorem dX11_cut_39 : decode cX11_cut 39 = .ok (.istore 5, 2) := by decide +kernel
theorem dX11_cut_41 : decode cX11_cut 41 = .ok (.aload_n 0, 1) := by decide +kernel
theorem dX11_cut_42 : decode cX11_cut 42 = .ok (.getfield 32, 3) := by decide +kernel
theorem dX11_cut_45 : decode cX11_cut 45 = .ok (.bipush 24, 2) := by decide +kernel
theorem dX11_cut_47 : decode cX11_cut 47 = .ok (.iload_n 1, 1) := by decide +kernel
theorem dX11_cut_48 : decode cX11_cut 48 = .ok (.imul, 1) := by decide +kernel
theorem dX11_cut_49 : decode cX11_cut 49 = .ok (.iload_n 2, 1) := by decide +kernel
theorem dX11_cut_50 : decode cX11_cut 50 = .ok (.iadd, 1) := by decide +kernel
theorem dX11_cut_51 : decode cX11_cut 51 = .ok (.iload_n 3, 1) := by decide +kernel
theorem dX11_cut_52 : decode cX11_cut 52 = .ok (.iastore, 1) := by decide +kernel
theorem dX11_cut_53 : decode cX11_cut 53 = .ok (.iload 5, 2) := by decide +kernel
theorem dX11_cut_55 : decode cX11_cut 55 = .ok (.ireturn, 1) := by decide +kernel
theorem dX11_put_0 : decode cX11_put 0 = .ok (.aload_n 0, 1) := by decide +kernel
theorem dX11_put_1 : decode cX11_put 1 = .ok (.iload_n 1, 1) := by decide +kernel
theorem dX11_put_2 : decode cX11_put 2 = .ok (.invokevirtual 176, 3) := by decide +kernel
theorem dX11_put_5 : decode cX11_put 5 = .ok (.ifCond .ne 5, 3) := by decide +kernel
theorem dX11_put_8 : decode cX11_put 8 = .ok (.iconst (-1), 1) := by decide +kernel
theorem dX11_put_9 : decode cX11_put 9 = .ok (.ireturn, 1) := by decide +kernel
theorem dX11_put_10 : decode cX11_put 10 = .ok (.aload_n 0, 1) := by decide +kernel
theorem dX11_put_11 : decode cX11_put 11 = .ok (.iload_n 1, 1) := by decide +kernel
theorem dX11_put_12 : decode cX11_put 12 = .ok (.invokevirtual 180, 3) := by decide +kernel
theorem dX11_put_15 : decode cX11_put 15 = .ok (.ifCond .ne 9, 3) := by decide +kernel
theorem dX11_put_18 : decode cX11_put 18 = .ok (.aload_n 0, 1) := by decide +kernel
theorem dX11_put_19 : decode cX11_put 19 = .ok (.iconst 3, 1) := by decide +kernel
theorem dX11_put_20 : decode cX11_put 20 = .ok (.invokevirtual 153, 3) := by decide +kernel
theorem dX11_put_23 : decode cX11_put 23 = .ok (.ireturn, 1) := by decide +kernel
theorem dX11_put_24 : decode cX11_put 24 = .ok (.iload_n 2, 1) := by decide +kernel
theorem dX11_put_25 : decode cX11_put 25 = .ok (.iconst 0, 1) := by decide +kernel
theorem dX11_put_26 : decode cX11_put 26 = .ok (.aload_n 0, 1) := by decide +kernel
theorem dX11_put_27 : decode cX11_put 27 = .ok (.getfield 29, 3) := by decide +kernel
theorem dX11_put_30 : decode cX11_put 30 = .ok (.iload_n 1, 1) := by decide +kernel
theorem dX11_put_31 : decode cX11_put 31 = .ok (.iaload, 1) := by decide +kernel
theorem dX11_put_32 : decode cX11_put 32 = .ok (.iconst 1, 1) := by decide +kernel
theorem dX11_put_33 : decode cX11_put 33 = .ok (.isub, 1) := by decide +kernel
theorem dX11_put_34 : decode cX11_put 34 = .ok (.invokestatic 145, 3) := by decide +kernel
theorem dX11_put_37 : decode cX11_put 37 = .ok (.ifCond .ne 9, 3) := by decide +kernel
theorem dX11_put_40 : decode cX11_put 40 = .ok (.aload_n 0, 1) := by decide +kernel
theorem dX11_put_41 : decode cX11_put 41 = .ok (.iconst 2, 1) := by decide +kernel
theorem dX11_put_42 : decode cX11_put 42 = .ok (.invokevirtual 153, 3) := by decide +kernel
theorem dX11_put_45 : decode cX11_put 45 = .ok (.ireturn, 1) := by decide +kernel
theorem dX11_put_46 : decode cX11_put 46 = .ok (.aload_n 0, 1) := by decide +kernel
theorem dX11_put_47 : decode cX11_put 47 = .ok (.getfield 35, 3) := by decide +kernel
theorem dX11_put_50 : decode cX11_put 50 = .ok (.iload_n 1, 1) := by decide +kernel
theorem dX11_put_51 : decode cX11_put 51 = .ok (.iaload, 1) := by decide +kernel
theorem dX11_put_52 : decode cX11_put 52 = .ok (.istore_n 3, 1) := by decide +kernel
theorem dX11_put_53 : decode cX11_put 53 = .ok (.aload_n 0, 1) := by decide +kernel
theorem dX11_put_54 : decode cX11_put 54 = .ok (.getfield 35, 3) := by decide +kernel
theorem dX11_put_57 : decode cX11_put 57 = .ok (.iload_n 1, 1) := by decide +kernel
theorem dX11_put_58 : decode cX11_put 58 = .ok (.iload_n 2, 1) := by decide +kernel
theorem dX11_put_59 : decode cX11_put 59 = .ok (.iastore, 1) := by decide +kernel
theorem dX11_put_60 : decode cX11_put 60 = .ok (.iload_n 3, 1) := by decide +kernel
theorem dX11_put_61 : decode cX11_put 61 = .ok (.ireturn, 1) := by decide +kernel
theorem dX11_mean_0 : decode cX11_mean 0 = .ok (.aload_n 0, 1) := by decide +kernel
theorem dX11_mean_1 : decode cX11_mean 1 = .ok (.iload_n 1, 1) := by decide +kernel
theorem dX11_mean_2 : decode cX11_mean 2 = .ok (.invokevirtual 176, 3) := by decide +kernel
theorem dX11_mean_5 : decode cX11_mean 5 = .ok (.ifCond .ne 7, 3) := by decide +kernel
theorem dX11_mean_8 : decode cX11_mean 8 = .ok (.iconst (-1), 1) := by decide +kernel
theorem dX11_mean_9 : decode cX11_mean 9 = .ok (.goto 33, 3) := by decide +kernel
theorem dX11_mean_12 : decode cX11_mean 12 = .ok (.aload_n 0, 1) := by decide +kernel
theorem dX11_mean_13 : decode cX11_mean 13 = .ok (.getfield 29, 3) := by decide +kernel
theorem dX11_mean_16 : decode cX11_mean 16 = .ok (.iload_n 1, 1) := by decide +kernel
theorem dX11_mean_17 : decode cX11_mean 17 = .ok (.iaload, 1) := by decide +kernel
theorem dX11_mean_18 : decode cX11_mean 18 = .ok (.ifCond .ne 11, 3) := by decide +kernel
theorem dX11_mean_21 : decode cX11_mean 21 = .ok (.aload_n 0, 1) := by decide +kernel
theorem dX11_mean_22 : decode cX11_mean 22 = .ok (.iconst 4, 1) := by decide +kernel
theorem dX11_mean_23 : decode cX11_mean 23 = .ok (.invokevirtual 153, 3) := by decide +kernel
theorem dX11_mean_26 : decode cX11_mean 26 = .ok (.goto 16, 3) := by decide +kernel
theorem dX11_mean_29 : decode cX11_mean 29 = .ok (.aload_n 0, 1) := by decide +kernel
theorem dX11_mean_30 : decode cX11_mean 30 = .ok (.iload_n 1, 1) := by decide +kernel
theorem dX11_mean_31 : decode cX11_mean 31 = .ok (.iconst 0, 1) := by decide +kernel
theorem dX11_mean_32 : decode cX11_mean 32 = .ok (.invokevirtual 186, 3) := by decide +kernel
theorem dX11_mean_35 : decode cX11_mean 35 = .ok (.aload_n 0, 1) := by decide +kernel
theorem dX11_mean_36 : decode cX11_mean 36 = .ok (.getfield 29, 3) := by decide +kernel
theorem dX11_mean_39 : decode cX11_mean 39 = .ok (.iload_n 1, 1) := by decide +kernel
theorem dX11_mean_40 : decode cX11_mean 40 = .ok (.iaload, 1) := by decide +kernel
theorem dX11_mean_41 : decode cX11_mean 41 = .ok (.idiv, 1) := by decide +kernel
theorem dX11_mean_42 : decode cX11_mean 42 = .ok (.ireturn, 1) := by decide +kernel
theorem dX11_isNumber_0 : decode cX11_isNumber 0 = .ok (.iload_n 0, 1) := by decide +kernel
theorem dX11_isNumber_1 : decode cX11_isNumber 1 = .ok (.iconst 0, 1) := by decide +kernel
theorem dX11_isNumber_2 : decode cX11_isNumber 2 = .ok (.iconst 3, 1) := by decide +kernel
theorem dX11_isNumber_3 : decode cX11_isNumber 3 = .ok (.invokestatic 145, 3) := by decide +kernel
theorem dX11_isNumber_6 : decode cX11_isNumber 6 = .ok (.ireturn, 1) := by decide +kernel
theorem dX11_askedFor_0 : decode cX11_askedFor 0 = .ok (.iload_n 1, 1) := by decide +kernel
theorem dX11_askedFor_1 : decode cX11_askedFor 1 = .ok (.invokestatic 193, 3) := by decide +kernel
theorem dX11_askedFor_4 : decode cX11_askedFor 4 = .ok (.ifCond .ne 7, 3) := by decide +kernel
theorem dX11_askedFor_7 : decode cX11_askedFor 7 = .ok (.iconst (-1), 1) := by decide +kernel
theorem dX11_askedFor_8 : decode cX11_askedFor 8 = .ok (.goto 21, 3) := by decide +kernel
theorem dX11_askedFor_11 : decode cX11_askedFor 11 = .ok (.aload_n 0, 1) := by decide +kernel
theorem dX11_askedFor_12 : decode cX11_askedFor 12 = .ok (.getfield 72, 3) := by decide +kernel
theorem dX11_askedFor_15 : decode cX11_askedFor 15 = .ok (.iload_n 1, 1) := by decide +kernel
theorem dX11_askedFor_16 : decode cX11_askedFor 16 = .ok (.baload, 1) := by decide +kernel
theorem dX11_askedFor_17 : decode cX11_askedFor 17 = .ok (.ifCond .eq 7, 3) := by decide +kernel
theorem dX11_askedFor_20 : decode cX11_askedFor 20 = .ok (.iconst 0, 1) := by decide +kernel
theorem dX11_askedFor_21 : decode cX11_askedFor 21 = .ok (.goto 8, 3) := by decide +kernel
theorem dX11_askedFor_24 : decode cX11_askedFor 24 = .ok (.aload_n 0, 1) := by decide +kernel
theorem dX11_askedFor_25 : decode cX11_askedFor 25 = .ok (.iconst 1, 1) := by decide +kernel
theorem dX11_askedFor_26 : decode cX11_askedFor 26 = .ok (.invokevirtual 153, 3) := by decide +kernel
theorem dX11_askedFor_29 : decode cX11_askedFor 29 = .ok (.ireturn, 1) := by decide +kernel
theorem dX11_free_0 : decode cX11_free 0 = .ok (.aload_n 0, 1) := by decide +kernel
theorem dX11_free_1 : decode cX11_free 1 = .ok (.getfield 99, 3) := by decide +kernel
theorem dX11_free_4 : decode cX11_free 4 = .ok (.iload_n 1, 1) := by decide +kernel
theorem dX11_free_5 : decode cX11_free 5 = .ok (.iaload, 1) := by decide +kernel
theorem dX11_free_6 : decode cX11_free 6 = .ok (.ifCond .lt 16, 3) := by decide +kernel
theorem dX11_free_9 : decode cX11_free 9 = .ok (.aload_n 0, 1) := by decide +kernel
theorem dX11_free_10 : decode cX11_free 10 = .ok (.getfield 59, 3) := by decide +kernel
theorem dX11_free_13 : decode cX11_free 13 = .ok (.aload_n 0, 1) := by decide +kernel
theorem dX11_free_14 : decode cX11_free 14 = .ok (.getfield 99, 3) := by decide +kernel
theorem dX11_free_17 : decode cX11_free 17 = .ok (.iload_n 1, 1) := by decide +kernel
theorem dX11_free_18 : decode cX11_free 18 = .ok (.iaload, 1) := by decide +kernel
theorem dX11_free_19 : decode cX11_free 19 = .ok (.bipush (-9), 2) := by decide +kernel
theorem dX11_free_21 : decode cX11_free 21 = .ok (.iastore, 1) := by decide +kernel
theorem dX11_free_22 : decode cX11_free 22 = .ok (.aload_n 0, 1) := by decide +kernel
theorem dX11_free_23 : decode cX11_free 23 = .ok (.getfield 99, 3) := by decide +kernel
theorem dX11_free_26 : decode cX11_free 26 = .ok (.iload_n 1, 1) := by decide +kernel
theorem dX11_free_27 : decode cX11_free 27 = .ok (.bipush (-9), 2) := by decide +kernel
theorem dX11_free_29 : decode cX11_free 29 = .ok (.iastore, 1) := by decide +kernel
theorem dX11_free_30 : decode cX11_free 30 = .ok (.aload_n 0, 1) := by decide +kernel
theorem dX11_free_31 : decode cX11_free 31 = .ok (.getfield 102, 3) := by decide +kernel
theorem dX11_free_34 : decode cX11_free 34 = .ok (.iload_n 1, 1) := by decide +kernel
theorem dX11_free_35 : decode cX11_free 35 = .ok (.iconst 0, 1) := by decide +kernel
theorem dX11_free_36 : decode cX11_free 36 = .ok (.bastore, 1) := by decide +kernel
theorem dX11_free_37 : decode cX11_free 37 = .ok (.return_, 1) := by decide +kernel
theorem dX11_tower_0 : decode cX11_tower 0 = .ok (.iload_n 1, 1) := by decide +kernel
theorem dX11_tower_1 : decode cX11_tower 1 = .ok (.invokestatic 193, 3) := by decide +kernel
theorem dX11_tower_4 : decode cX11_tower 4 = .ok (.ifCond .ne 5, 3) := by decide +kernel
theorem dX11_tower_7 : decode cX11_tower 7 = .ok (.iconst (-1), 1) := by decide +kernel
theorem dX11_tower_8 : decode cX11_tower 8 = .ok (.ireturn, 1) := by decide +kernel
theorem dX11_tower_9 : decode cX11_tower 9 = .ok (.aload_n 0, 1) := by decide +kernel
theorem dX11_tower_10 : decode cX11_tower 10 = .ok (.getfield 72, 3) := by decide +kernel
theorem dX11_tower_13 : decode cX11_tower 13 = .ok (.iload_n 1, 1) := by decide +kernel
theorem dX11_tower_14 : decode cX11_tower 14 = .ok (.baload, 1) := by decide +kernel
theorem dX11_tower_15 : decode cX11_tower 15 = .ok (.ifCond .eq 7, 3) := by decide +kernel
theorem dX11_tower_18 : decode cX11_tower 18 = .ok (.iconst 1, 1) := by decide +kernel
theorem dX11_tower_19 : decode cX11_tower 19 = .ok (.goto 4, 3) := by decide +kernel
theorem dX11_tower_22 : decode cX11_tower 22 = .ok (.iconst 0, 1) := by decide +kernel
theorem dX11_tower_23 : decode cX11_tower 23 = .ok (.istore_n 2, 1) := by decide +kernel
theorem dX11_tower_24 : decode cX11_tower 24 = .ok (.aload_n 0, 1) := by decide +kernel
theorem dX11_tower_25 : decode cX11_tower 25 = .ok (.getfield 72, 3) := by decide +kernel
theorem dX11_tower_28 : decode cX11_tower 28 = .ok (.iload_n 1, 1) := by decide +kernel
theorem dX11_tower_29 : decode cX11_tower 29 = .ok (.iconst 1, 1) := by decide +kernel
theorem dX11_tower_30 : decode cX11_tower 30 = .ok (.bastore, 1) := by decide +kernel
theorem dX11_tower_31 : decode cX11_tower 31 = .ok (.aload_n 0, 1) := by decide +kernel
theorem dX11_tower_32 : decode cX11_tower 32 = .ok (.getfield 75, 3) := by decide +kernel
theorem dX11_tower_35 : decode cX11_tower 35 = .ok (.iload_n 1, 1) := by decide +kernel
theorem dX11_tower_36 : decode cX11_tower 36 = .ok (.iconst 0, 1) := by decide +kernel
theorem dX11_tower_37 : decode cX11_tower 37 = .ok (.iastore, 1) := by decide +kernel
theorem dX11_tower_38 : decode cX11_tower 38 = .ok (.aload_n 0, 1) := by decide +kernel
theorem dX11_tower_39 : decode cX11_tower 39 = .ok (.getfield 78, 3) := by decide +kernel
theorem dX11_tower_42 : decode cX11_tower 42 = .ok (.iload_n 1, 1) := by decide +kernel
theorem dX11_tower_43 : decode cX11_tower 43 = .ok (.iconst 0, 1) := by decide +kernel
theorem dX11_tower_44 : decode cX11_tower 44 = .ok (.iastore, 1) := by decide +kernel
theorem dX11_tower_45 : decode cX11_tower 45 = .ok (.aload_n 0, 1) := by decide +kernel
theorem dX11_tower_46 : decode cX11_tower 46 = .ok (.getfield 81, 3) := by decide +kernel
theorem dX11_tower_49 : decode cX11_tower 49 = .ok (.iload_n 1, 1) := by decide +kernel
theorem dX11_tower_50 : decode cX11_tower 50 = .ok (.sipush 20000, 3) := by decide +kernel
theorem dX11_tower_53 : decode cX11_tower 53 = .ok (.iastore, 1) := by decide +kernel
theorem dX11_tower_54 : decode cX11_tower 54 = .ok (.aload_n 0, 1) := by decide +kernel
theorem dX11_tower_55 : decode cX11_tower 55 = .ok (.getfield 84, 3) := by decide +kernel
theorem dX11_tower_58 : decode cX11_tower 58 = .ok (.iload_n 1, 1) := by decide +kernel
theorem dX11_tower_59 : decode cX11_tower 59 = .ok (.iconst 0, 1) := by decide +kernel
theorem dX11_tower_60 : decode cX11_tower 60 = .ok (.iastore, 1) := by decide +kernel
theorem dX11_tower_61 : decode cX11_tower 61 = .ok (.aload_n 0, 1) := by decide +kernel
theorem dX11_tower_62 : decode cX11_tower 62 = .ok (.getfield 87, 3) := by decide +kernel
theorem dX11_tower_65 : decode cX11_tower 65 = .ok (.iload_n 1, 1) := by decide +kernel
theorem dX11_tower_66 : decode cX11_tower 66 = .ok (.iconst 1, 1) := by decide +kernel
theorem dX11_tower_67 : decode cX11_tower 67 = .ok (.bastore, 1) := by decide +kernel
theorem dX11_tower_68 : decode cX11_tower 68 = .ok (.aload_n 0, 1) := by decide +kernel
theorem dX11_tower_69 : decode cX11_tower 69 = .ok (.getfield 90, 3) := by decide +kernel
theorem dX11_tower_72 : decode cX11_tower 72 = .ok (.iload_n 1, 1) := by decide +kernel
theorem dX11_tower_73 : decode cX11_tower 73 = .ok (.iconst 0, 1) := by decide +kernel
theorem dX11_tower_74 : decode cX11_tower 74 = .ok (.iastore, 1) := by decide +kernel
theorem dX11_tower_75 : decode cX11_tower 75 = .ok (.aload_n 0, 1) := by decide +kernel
theorem dX11_tower_76 : decode cX11_tower 76 = .ok (.getfield 93, 3) := by decide +kernel
theorem dX11_tower_79 : decode cX11_tower 79 = .ok (.iload_n 1, 1) := by decide +kernel
theorem dX11_tower_80 : decode cX11_tower 80 = .ok (.iconst 0, 1) := by decide +kernel
theorem dX11_tower_81 : decode cX11_tower 81 = .ok (.iastore, 1) := by decide +kernel
theorem dX11_tower_82 : decode cX11_tower 82 = .ok (.aload_n 0, 1) := by decide +kernel
theorem dX11_tower_83 : decode cX11_tower 83 = .ok (.getfield 105, 3) := by decide +kernel
theorem dX11_tower_86 : decode cX11_tower 86 = .ok (.iload_n 1, 1) := by decide +kernel
theorem dX11_tower_87 : decode cX11_tower 87 = .ok (.iconst 0, 1) := by decide +kernel
theorem dX11_tower_88 : decode cX11_tower 88 = .ok (.iastore, 1) := by decide +kernel
theorem dX11_tower_89 : decode cX11_tower 89 = .ok (.aload_n 0, 1) := by decide +kernel
theorem dX11_tower_90 : decode cX11_tower 90 = .ok (.iconst 2, 1) := by decide +kernel
theorem dX11_tower_91 : decode cX11_tower 91 = .ok (.iload_n 1, 1) := by decide +kernel
theorem dX11_tower_92 : decode cX11_tower 92 = .ok (.imul, 1) := by decide +kernel
theorem dX11_tower_93 : decode cX11_tower 93 = .ok (.invokevirtual 196, 3) := by decide +kernel
theorem dX11_tower_96 : decode cX11_tower 96 = .ok (.aload_n 0, 1) := by decide +kernel
theorem dX11_tower_97 : decode cX11_tower 97 = .ok (.iconst 2, 1) := by decide +kernel
theorem dX11_tower_98 : decode cX11_tower 98 = .ok (.iload_n 1, 1) := by decide +kernel
theorem dX11_tower_99 : decode cX11_tower 99 = .ok (.imul, 1) := by decide +kernel
theorem dX11_tower_100 : decode cX11_tower 100 = .ok (.iconst 1, 1) := by decide +kernel
theorem dX11_tower_101 : decode cX11_tower 101 = .ok (.iadd, 1) := by decide +kernel
theorem dX11_tower_102 : decode cX11_tower 102 = .ok (.invokevirtual 196, 3) := by decide +kernel
theorem dX11_tower_105 : decode cX11_tower 105 = .ok (.iload_n 2, 1) := by decide +kernel
theorem dX11_tower_106 : decode cX11_tower 106 = .ok (.ireturn, 1) := by decide +kernel
theorem dX11_placeOf_0 : decode cX11_placeOf 0 = .ok (.iconst 2, 1) := by decide +kernel
theorem dX11_placeOf_1 : decode cX11_placeOf 1 = .ok (.iload_n 0, 1) := by decide +kernel
theorem dX11_placeOf_2 : decode cX11_placeOf 2 = .ok (.imul, 1) := by decide +kernel
theorem dX11_placeOf_3 : decode cX11_placeOf 3 = .ok (.iload_n 1, 1) := by decide +kernel
theorem dX11_placeOf_4 : decode cX11_placeOf 4 = .ok (.ifCond .eq 7, 3) := by decide +kernel
theorem dX11_placeOf_7 : decode cX11_placeOf 7 = .ok (.iconst 1, 1) := by decide +kernel
theorem dX11_placeOf_8 : decode cX11_placeOf 8 = .ok (.goto 4, 3) := by decide +kernel
theorem dX11_placeOf_11 : decode cX11_placeOf 11 = .ok (.iconst 0, 1) := by decide +kernel
theorem dX11_placeOf_12 : decode cX11_placeOf 12 = .ok (.iadd, 1) := by decide +kernel
theorem dX11_placeOf_13 : decode cX11_placeOf 13 = .ok (.ireturn, 1) := by decide +kernel
theorem dX11_hang_0 : decode cX11_hang 0 = .ok (.iload_n 1, 1) := by decide +kernel
theorem dX11_hang_1 : decode cX11_hang 1 = .ok (.invokestatic 193, 3) := by decide +kernel
theorem dX11_hang_4 : decode cX11_hang 4 = .ok (.ifCond .eq 11, 3) := by decide +kernel
theorem dX11_hang_7 : decode cX11_hang 7 = .ok (.aload_n 0, 1) := by decide +kernel
theorem dX11_hang_8 : decode cX11_hang 8 = .ok (.iload_n 2, 1) := by decide +kernel
theorem dX11_hang_9 : decode cX11_hang 9 = .ok (.invokevirtual 176, 3) := by decide +kernel
theorem dX11_hang_12 : decode cX11_hang 12 = .ok (.ifCond .ne 5, 3) := by decide +kernel
theorem dX11_hang_15 : decode cX11_hang 15 = .ok (.iconst (-1), 1) := by decide +kernel
theorem dX11_hang_16 : decode cX11_hang 16 = .ok (.ireturn, 1) := by decide +kernel
theorem dX11_hang_17 : decode cX11_hang 17 = .ok (.aload_n 0, 1) := by decide +kernel
theorem dX11_hang_18 : decode cX11_hang 18 = .ok (.getfield 72, 3) := by decide +kernel
theorem dX11_hang_21 : decode cX11_hang 21 = .ok (.iload_n 1, 1) := by decide +kernel
theorem dX11_hang_22 : decode cX11_hang 22 = .ok (.baload, 1) := by decide +kernel
theorem dX11_hang_23 : decode cX11_hang 23 = .ok (.ifCond .ne 9, 3) := by decide +kernel
theorem dX11_hang_26 : decode cX11_hang 26 = .ok (.aload_n 0, 1) := by decide +kernel
theorem dX11_hang_27 : decode cX11_hang 27 = .ok (.iconst 1, 1) := by decide +kernel
theorem dX11_hang_28 : decode cX11_hang 28 = .ok (.invokevirtual 153, 3) := by decide +kernel
theorem dX11_hang_31 : decode cX11_hang 31 = .ok (.ireturn, 1) := by decide +kernel
theorem dX11_hang_32 : decode cX11_hang 32 = .ok (.aload_n 0, 1) := by decide +kernel
theorem dX11_hang_33 : decode cX11_hang 33 = .ok (.getfield 59, 3) := by decide +kernel
theorem dX11_hang_36 : decode cX11_hang 36 = .ok (.iload_n 2, 1) := by decide +kernel
theorem dX11_hang_37 : decode cX11_hang 37 = .ok (.iaload, 1) := by decide +kernel
theorem dX11_hang_38 : decode cX11_hang 38 = .ok (.ifCond .lt 6, 3) := by decide +kernel
theorem dX11_hang_41 : decode cX11_hang 41 = .ok (.bipush (-4), 2) := by decide +kernel
theorem dX11_hang_43 : decode cX11_hang 43 = .ok (.ireturn, 1) := by decide +kernel
theorem dX11_hang_44 : decode cX11_hang 44 = .ok (.iload_n 1, 1) := by decide +kernel
theorem dX11_hang_45 : decode cX11_hang 45 = .ok (.iload_n 3, 1) := by decide +kernel
theorem dX11_hang_46 : decode cX11_hang 46 = .ok (.invokestatic 200, 3) := by decide +kernel
theorem dX11_hang_49 : decode cX11_hang 49 = .ok (.istore 4, 2) := by decide +kernel
theorem dX11_hang_51 : decode cX11_hang 51 = .ok (.aload_n 0, 1) := by decide +kernel
theorem dX11_hang_52 : decode cX11_hang 52 = .ok (.getfield 99, 3) := by decide +kernel
theorem dX11_hang_55 : decode cX11_hang 55 = .ok (.iload 4, 2) := by decide +kernel
theorem dX11_hang_57 : decode cX11_hang 57 = .ok (.iaload, 1) := by decide +kernel
theorem dX11_hang_58 : decode cX11_hang 58 = .ok (.istore 5, 2) := by decide +kernel
theorem dX11_hang_60 : decode cX11_hang 60 = .ok (.aload_n 0, 1) := by decide +kernel
theorem dX11_hang_61 : decode cX11_hang 61 = .ok (.iload 4, 2) := by decide +kernel
theorem dX11_hang_63 : decode cX11_hang 63 = .ok (.invokevirtual 196, 3) := by decide +kernel
theorem dX11_hang_66 : decode cX11_hang 66 = .ok (.aload_n 0, 1) := by decide +kernel
theorem dX11_hang_67 : decode cX11_hang 67 = .ok (.getfield 99, 3) := by decide +kernel
theorem dX11_hang_70 : decode cX11_hang 70 = .ok (.iload 4, 2) := by decide +kernel
theorem dX11_hang_72 : decode cX11_hang 72 = .ok (.iload_n 2, 1) := by decide +kernel
theorem dX11_hang_73 : decode cX11_hang 73 = .ok (.iastore, 1) := by decide +kernel
theorem dX11_hang_74 : decode cX11_hang 74 = .ok (.aload_n 0, 1) := by decide +kernel
theorem dX11_hang_75 : decode cX11_hang 75 = .ok (.getfield 59, 3) := by decide +kernel
theorem dX11_hang_78 : decode cX11_hang 78 = .ok (.iload_n 2, 1) := by decide +kernel
theorem dX11_hang_79 : decode cX11_hang 79 = .ok (.iload 4, 2) := by decide +kernel
theorem dX11_hang_81 : decode cX11_hang 81 = .ok (.iastore, 1) := by decide +kernel
theorem dX11_hang_82 : decode cX11_hang 82 = .ok (.aload_n 0, 1) := by decide +kernel
theorem dX11_hang_83 : decode cX11_hang 83 = .ok (.getfield 56, 3) := by decide +kernel
theorem dX11_hang_86 : decode cX11_hang 86 = .ok (.iload_n 2, 1) := by decide +kernel
theorem dX11_hang_87 : decode cX11_hang 87 = .ok (.iconst 0, 1) := by decide +kernel
theorem dX11_hang_88 : decode cX11_hang 88 = .ok (.iastore, 1) := by decide +kernel
theorem dX11_hang_89 : decode cX11_hang 89 = .ok (.iload 5, 2) := by decide +kernel
theorem dX11_hang_91 : decode cX11_hang 91 = .ok (.ireturn, 1) := by decide +kernel
theorem dX11_askedPlace_0 : decode cX11_askedPlace 0 = .ok (.aload_n 0, 1) := by decide +kernel
theorem dX11_askedPlace_1 : decode cX11_askedPlace 1 = .ok (.iload_n 1, 1) := by decide +kernel
theorem dX11_askedPlace_2 : decode cX11_askedPlace 2 = .ok (.invokevirtual 203, 3) := by decide +kernel
theorem dX11_askedPlace_5 : decode cX11_askedPlace 5 = .ok (.istore_n 3, 1) := by decide +kernel
theorem dX11_askedPlace_6 : decode cX11_askedPlace 6 = .ok (.iload_n 3, 1) := by decide +kernel
theorem dX11_askedPlace_7 : decode cX11_askedPlace 7 = .ok (.ifCond .ge 7, 3) := by decide +kernel
theorem dX11_askedPlace_10 : decode cX11_askedPlace 10 = .ok (.iload_n 3, 1) := by decide +kernel
theorem dX11_askedPlace_11 : decode cX11_askedPlace 11 = .ok (.goto 25, 3) := by decide +kernel
theorem dX11_askedPlace_14 : decode cX11_askedPlace 14 = .ok (.aload_n 0, 1) := by decide +kernel
theorem dX11_askedPlace_15 : decode cX11_askedPlace 15 = .ok (.getfield 99, 3) := by decide +kernel
theorem dX11_askedPlace_18 : decode cX11_askedPlace 18 = .ok (.iload_n 1, 1) := by decide +kernel
theorem dX11_askedPlace_19 : decode cX11_askedPlace 19 = .ok (.iload_n 2, 1) := by decide +kernel
theorem dX11_askedPlace_20 : decode cX11_askedPlace 20 = .ok (.invokestatic 200, 3) := by decide +kernel
theorem dX11_askedPlace_23 : decode cX11_askedPlace 23 = .ok (.iaload, 1) := by decide +kernel
theorem dX11_askedPlace_24 : decode cX11_askedPlace 24 = .ok (.ifCond .ge 11, 3) := by decide +kernel
theorem dX11_askedPlace_27 : decode cX11_askedPlace 27 = .ok (.aload_n 0, 1) := by decide +kernel
theorem dX11_askedPlace_28 : decode cX11_askedPlace 28 = .ok (.iconst 1, 1) := by decide +kernel
theorem dX11_askedPlace_29 : decode cX11_askedPlace 29 = .ok (.invokevirtual 153, 3) := by decide +kernel
theorem dX11_askedPlace_32 : decode cX11_askedPlace 32 = .ok (.goto 4, 3) := by decide +kernel
theorem dX11_askedPlace_35 : decode cX11_askedPlace 35 = .ok (.iconst 0, 1) := by decide +kernel
theorem dX11_askedPlace_36 : decode cX11_askedPlace 36 = .ok (.ireturn, 1) := by decide +kernel
theorem dX11_unhang_0 : decode cX11_unhang 0 = .ok (.aload_n 0, 1) := by decide +kernel
theorem dX11_unhang_1 : decode cX11_unhang 1 = .ok (.iload_n 1, 1) := by decide +kernel
theorem dX11_unhang_2 : decode cX11_unhang 2 = .ok (.iload_n 2, 1) := by decide +kernel
theorem dX11_unhang_3 : decode cX11_unhang 3 = .ok (.invokevirtual 206, 3) := by decide +kernel
theorem dX11_unhang_6 : decode cX11_unhang 6 = .ok (.istore_n 3, 1) := by decide +kernel
theorem dX11_unhang_7 : decode cX11_unhang 7 = .ok (.iload_n 3, 1) := by decide +kernel
theorem dX11_unhang_8 : decode cX11_unhang 8 = .ok (.ifCond .ge 5, 3) := by decide +kernel
theorem dX11_unhang_11 : decode cX11_unhang 11 = .ok (.iload_n 3, 1) := by decide +kernel
theorem dX11_unhang_12 : decode cX11_unhang 12 = .ok (.ireturn, 1) := by decide +kernel
theorem dX11_unhang_13 : decode cX11_unhang 13 = .ok (.aload_n 0, 1) := by decide +kernel
theorem dX11_unhang_14 : decode cX11_unhang 14 = .ok (.getfield 99, 3) := by decide +kernel
theorem dX11_unhang_17 : decode cX11_unhang 17 = .ok (.iload_n 1, 1) := by decide +kernel
theorem dX11_unhang_18 : decode cX11_unhang 18 = .ok (.iload_n 2, 1) := by decide +kernel
theorem dX11_unhang_19 : decode cX11_unhang 19 = .ok (.invokestatic 200, 3) := by decide +kernel
theorem dX11_unhang_22 : decode cX11_unhang 22 = .ok (.iaload, 1) := by decide +kernel
theorem dX11_unhang_23 : decode cX11_unhang 23 = .ok (.istore 4, 2) := by decide +kernel
theorem dX11_unhang_25 : decode cX11_unhang 25 = .ok (.aload_n 0, 1) := by decide +kernel
theorem dX11_unhang_26 : decode cX11_unhang 26 = .ok (.iload_n 1, 1) := by decide +kernel
theorem dX11_unhang_27 : decode cX11_unhang 27 = .ok (.iload_n 2, 1) := by decide +kernel
theorem dX11_unhang_28 : decode cX11_unhang 28 = .ok (.invokestatic 200, 3) := by decide +kernel
theorem dX11_unhang_31 : decode cX11_unhang 31 = .ok (.invokevirtual 196, 3) := by decide +kernel
theorem dX11_unhang_34 : decode cX11_unhang 34 = .ok (.iload 4, 2) := by decide +kernel
theorem dX11_unhang_36 : decode cX11_unhang 36 = .ok (.ireturn, 1) := by decide +kernel
theorem dX11_hands_0 : decode cX11_hands 0 = .ok (.iload_n 2, 1) := by decide +kernel
theorem dX11_hands_1 : decode cX11_hands 1 = .ok (.iconst 0, 1) := by decide +kernel
theorem dX11_hands_2 : decode cX11_hands 2 = .ok (.sipush 1439, 3) := by decide +kernel
theorem dX11_hands_5 : decode cX11_hands 5 = .ok (.invokestatic 145, 3) := by decide +kernel
theorem dX11_hands_8 : decode cX11_hands 8 = .ok (.ifCond .ne 5, 3) := by decide +kernel
theorem dX11_hands_11 : decode cX11_hands 11 = .ok (.iconst (-1), 1) := by decide +kernel
theorem dX11_hands_12 : decode cX11_hands 12 = .ok (.ireturn, 1) := by decide +kernel
theorem dX11_hands_13 : decode cX11_hands 13 = .ok (.aload_n 0, 1) := by decide +kernel
theorem dX11_hands_14 : decode cX11_hands 14 = .ok (.iload_n 1, 1) := by decide +kernel
theorem dX11_hands_15 : decode cX11_hands 15 = .ok (.invokevirtual 203, 3) := by decide +kernel
theorem dX11_hands_18 : decode cX11_hands 18 = .ok (.istore_n 3, 1) := by decide +kernel
theorem dX11_hands_19 : decode cX11_hands 19 = .ok (.iload_n 3, 1) := by decide +kernel
theorem dX11_hands_20 : decode cX11_hands 20 = .ok (.ifCond .ge 5, 3) := by decide +kernel
theorem dX11_hands_23 : decode cX11_hands 23 = .ok (.iload_n 3, 1) := by decide +kernel
theorem dX11_hands_24 : decode cX11_hands 24 = .ok (.ireturn, 1) := by decide +kernel
theorem dX11_hands_25 : decode cX11_hands 25 = .ok (.aload_n 0, 1) := by decide +kernel
theorem dX11_hands_26 : decode cX11_hands 26 = .ok (.getfield 75, 3) := by decide +kernel
theorem dX11_hands_29 : decode cX11_hands 29 = .ok (.iload_n 1, 1) := by decide +kernel
theorem dX11_hands_30 : decode cX11_hands 30 = .ok (.iaload, 1) := by decide +kernel
theorem dX11_hands_31 : decode cX11_hands 31 = .ok (.istore 4, 2) := by decide +kernel
theorem dX11_hands_33 : decode cX11_hands 33 = .ok (.aload_n 0, 1) := by decide +kernel
theorem dX11_hands_34 : decode cX11_hands 34 = .ok (.getfield 75, 3) := by decide +kernel
theorem dX11_hands_37 : decode cX11_hands 37 = .ok (.iload_n 1, 1) := by decide +kernel
theorem dX11_hands_38 : decode cX11_hands 38 = .ok (.iload_n 2, 1) := by decide +kernel
theorem dX11_hands_39 : decode cX11_hands 39 = .ok (.iastore, 1) := by decide +kernel
theorem dX11_hands_40 : decode cX11_hands 40 = .ok (.iload 4, 2) := by decide +kernel
theorem dX11_hands_42 : decode cX11_hands 42 = .ok (.ireturn, 1) := by decide +kernel
theorem dX11_silenceOf_0 : decode cX11_silenceOf 0 = .ok (.aload_n 0, 1) := by decide +kernel
theorem dX11_silenceOf_1 : decode cX11_silenceOf 1 = .ok (.getfield 93, 3) := by decide +kernel
theorem dX11_silenceOf_4 : decode cX11_silenceOf 4 = .ok (.iload_n 1, 1) := by decide +kernel
theorem dX11_silenceOf_5 : decode cX11_silenceOf 5 = .ok (.iaload, 1) := by decide +kernel
theorem dX11_silenceOf_6 : decode cX11_silenceOf 6 = .ok (.bipush 24, 2) := by decide +kernel
theorem dX11_silenceOf_8 : decode cX11_silenceOf 8 = .ok (.iadd, 1) := by decide +kernel
theorem dX11_silenceOf_9 : decode cX11_silenceOf 9 = .ok (.aload_n 0, 1) := by decide +kernel
theorem dX11_silenceOf_10 : decode cX11_silenceOf 10 = .ok (.getfield 90, 3) := by decide +kernel
theorem dX11_silenceOf_13 : decode cX11_silenceOf 13 = .ok (.iload_n 1, 1) := by decide +kernel
theorem dX11_silenceOf_14 : decode cX11_silenceOf 14 = .ok (.iaload, 1) := by decide +kernel
theorem dX11_silenceOf_15 : decode cX11_silenceOf 15 = .ok (.isub, 1) := by decide +kernel
theorem dX11_silenceOf_16 : decode cX11_silenceOf 16 = .ok (.bipush 24, 2) := by decide +kernel
theorem dX11_silenceOf_18 : decode cX11_silenceOf 18 = .ok (.irem, 1) := by decide +kernel
theorem dX11_silenceOf_19 : decode cX11_silenceOf 19 = .ok (.istore_n 2, 1) := by decide +kernel
theorem dX11_silenceOf_20 : decode cX11_silenceOf 20 = .ok (.aload_n 0, 1) := by decide +kernel
theorem dX11_silenceOf_21 : decode cX11_silenceOf 21 = .ok (.getfield 75, 3) := by decide +kernel
theorem dX11_silenceOf_24 : decode cX11_silenceOf 24 = .ok (.iload_n 1, 1) := by decide +kernel
theorem dX11_silenceOf_25 : decode cX11_silenceOf 25 = .ok (.iaload, 1) := by decide +kernel
theorem dX11_silenceOf_26 : decode cX11_silenceOf 26 = .ok (.bipush 60, 2) := by decide +kernel
theorem dX11_silenceOf_28 : decode cX11_silenceOf 28 = .ok (.idiv, 1) := by decide +kernel
theorem dX11_silenceOf_29 : decode cX11_silenceOf 29 = .ok (.bipush 24, 2) := by decide +kernel
theorem dX11_silenceOf_31 : decode cX11_silenceOf 31 = .ok (.iadd, 1) := by decide +kernel
theorem dX11_silenceOf_32 : decode cX11_silenceOf 32 = .ok (.aload_n 0, 1) := by decide +kernel
theorem dX11_silenceOf_33 : decode cX11_silenceOf 33 = .ok (.getfield 90, 3) := by decide +kernel
theorem dX11_silenceOf_36 : decode cX11_silenceOf 36 = .ok (.iload_n 1, 1) := by decide +kernel
theorem dX11_silenceOf_37 : decode cX11_silenceOf 37 = .ok (.iaload, 1) := by decide +kernel
theorem dX11_silenceOf_38 : decode cX11_silenceOf 38 = .ok (.isub, 1) := by decide +kernel
theorem dX11_silenceOf_39 : decode cX11_silenceOf 39 = .ok (.bipush 24, 2) := by decide +kernel
theorem dX11_silenceOf_41 : decode cX11_silenceOf 41 = .ok (.irem, 1) := by decide +kernel
theorem dX11_silenceOf_42 : decode cX11_silenceOf 42 = .ok (.istore_n 3, 1) := by decide +kernel
theorem dX11_silenceOf_43 : decode cX11_silenceOf 43 = .ok (.iload_n 3, 1) := by decide +kernel
theorem dX11_silenceOf_44 : decode cX11_silenceOf 44 = .ok (.iload_n 2, 1) := by decide +kernel
theorem dX11_silenceOf_45 : decode cX11_silenceOf 45 = .ok (.if_icmp .ge 14, 3) := by decide +kernel
theorem dX11_silenceOf_48 : decode cX11_silenceOf 48 = .ok (.aload_n 0, 1) := by decide +kernel
theorem dX11_silenceOf_49 : decode cX11_silenceOf 49 = .ok (.getfield 96, 3) := by decide +kernel
theorem dX11_silenceOf_52 : decode cX11_silenceOf 52 = .ok (.iload_n 1, 1) := by decide +kernel
theorem dX11_silenceOf_53 : decode cX11_silenceOf 53 = .ok (.iaload, 1) := by decide +kernel
theorem dX11_silenceOf_54 : decode cX11_silenceOf 54 = .ok (.iconst 1, 1) := by decide +kernel
theorem dX11_silenceOf_55 : decode cX11_silenceOf 55 = .ok (.iadd, 1) := by decide +kernel
theorem dX11_silenceOf_56 : decode cX11_silenceOf 56 = .ok (.goto 4, 3) := by decide +kernel
theorem dX11_silenceOf_59 : decode cX11_silenceOf 59 = .ok (.iconst 0, 1) := by decide +kernel
theorem dX11_silenceOf_60 : decode cX11_silenceOf 60 = .ok (.ireturn, 1) := by decide +kernel
theorem dX11_hourOf_0 : decode cX11_hourOf 0 = .ok (.iload_n 0, 1) := by decide +kernel
theorem dX11_hourOf_1 : decode cX11_hourOf 1 = .ok (.bipush 60, 2) := by decide +kernel
theorem dX11_hourOf_3 : decode cX11_hourOf 3 = .ok (.idiv, 1) := by decide +kernel
theorem dX11_hourOf_4 : decode cX11_hourOf 4 = .ok (.bipush 11, 2) := by decide +kernel
theorem dX11_hourOf_6 : decode cX11_hourOf 6 = .ok (.iadd, 1) := by decide +kernel
theorem dX11_hourOf_7 : decode cX11_hourOf 7 = .ok (.bipush 12, 2) := by decide +kernel
theorem dX11_hourOf_9 : decode cX11_hourOf 9 = .ok (.irem, 1) := by decide +kernel
theorem dX11_hourOf_10 : decode cX11_hourOf 10 = .ok (.iconst 1, 1) := by decide +kernel
theorem dX11_hourOf_11 : decode cX11_hourOf 11 = .ok (.iadd, 1) := by decide +kernel
theorem dX11_hourOf_12 : decode cX11_hourOf 12 = .ok (.ireturn, 1) := by decide +kernel
theorem dX11_hourNow_0 : decode cX11_hourNow 0 = .ok (.aload_n 0, 1) := by decide +kernel
theorem dX11_hourNow_1 : decode cX11_hourNow 1 = .ok (.getfield 75, 3) := by decide +kernel
theorem dX11_hourNow_4 : decode cX11_hourNow 4 = .ok (.iload_n 1, 1) := by decide +kernel
theorem dX11_hourNow_5 : decode cX11_hourNow 5 = .ok (.iaload, 1) := by decide +kernel
theorem dX11_hourNow_6 : decode cX11_hourNow 6 = .ok (.invokestatic 209, 3) := by decide +kernel
theorem dX11_hourNow_9 : decode cX11_hourNow 9 = .ok (.ireturn, 1) := by decide +kernel
theorem dX11_quarterNow_0 : decode cX11_quarterNow 0 = .ok (.aload_n 0, 1) := by decide +kernel
theorem dX11_quarterNow_1 : decode cX11_quarterNow 1 = .ok (.getfield 75, 3) := by decide +kernel
theorem dX11_quarterNow_4 : decode cX11_quarterNow 4 = .ok (.iload_n 1, 1) := by decide +kernel
theorem dX11_quarterNow_5 : decode cX11_quarterNow 5 = .ok (.iaload, 1) := by decide +kernel
theorem dX11_quarterNow_6 : decode cX11_quarterNow 6 = .ok (.bipush 60, 2) := by decide +kernel
theorem dX11_quarterNow_8 : decode cX11_quarterNow 8 = .ok (.irem, 1) := by decide +kernel
theorem dX11_quarterNow_9 : decode cX11_quarterNow 9 = .ok (.bipush 15, 2) := by decide +kernel
theorem dX11_quarterNow_11 : decode cX11_quarterNow 11 = .ok (.idiv, 1) := by decide +kernel
theorem dX11_quarterNow_12 : decode cX11_quarterNow 12 = .ok (.istore_n 2, 1) := by decide +kernel
theorem dX11_quarterNow_13 : decode cX11_quarterNow 13 = .ok (.iload_n 2, 1) := by decide +kernel
theorem dX11_quarterNow_14 : decode cX11_quarterNow 14 = .ok (.ifCond .ne 7, 3) := by decide +kernel
theorem dX11_quarterNow_17 : decode cX11_quarterNow 17 = .ok (.iconst 4, 1) := by decide +kernel
theorem dX11_quarterNow_18 : decode cX11_quarterNow 18 = .ok (.goto 4, 3) := by decide +kernel
theorem dX11_quarterNow_21 : decode cX11_quarterNow 21 = .ok (.iload_n 2, 1) := by decide +kernel
theorem dX11_quarterNow_22 : decode cX11_quarterNow 22 = .ok (.ireturn, 1) := by decide +kernel
theorem dX11_offGoes_0 : decode cX11_offGoes 0 = .ok (.aload_n 0, 1) := by decide +kernel
theorem dX11_offGoes_1 : decode cX11_offGoes 1 = .ok (.getfield 99, 3) := by decide +kernel
theorem dX11_offGoes_4 : decode cX11_offGoes 4 = .ok (.iload_n 1, 1) := by decide +kernel
theorem dX11_offGoes_5 : decode cX11_offGoes 5 = .ok (.iload_n 2, 1) := by decide +kernel
theorem dX11_offGoes_6 : decode cX11_offGoes 6 = .ok (.invokestatic 200, 3) := by decide +kernel
theorem dX11_offGoes_9 : decode cX11_offGoes 9 = .ok (.iaload, 1) := by decide +kernel
theorem dX11_offGoes_10 : decode cX11_offGoes 10 = .ok (.istore_n 3, 1) := by decide +kernel
theorem dX11_offGoes_11 : decode cX11_offGoes 11 = .ok (.iload_n 2, 1) := by decide +kernel
theorem dX11_offGoes_12 : decode cX11_offGoes 12 = .ok (.ifCond .eq 11, 3) := by decide +kernel
theorem dX11_offGoes_15 : decode cX11_offGoes 15 = .ok (.aload_n 0, 1) := by decide +kernel
theorem dX11_offGoes_16 : decode cX11_offGoes 16 = .ok (.iload_n 1, 1) := by decide +kernel
theorem dX11_offGoes_17 : decode cX11_offGoes 17 = .ok (.invokevirtual 212, 3) := by decide +kernel
theorem dX11_offGoes_20 : decode cX11_offGoes 20 = .ok (.goto 8, 3) := by decide +kernel
theorem dX11_offGoes_23 : decode cX11_offGoes 23 = .ok (.aload_n 0, 1) := by decide +kernel
theorem dX11_offGoes_24 : decode cX11_offGoes 24 = .ok (.iload_n 1, 1) := by decide +kernel
theorem dX11_offGoes_25 : decode cX11_offGoes 25 = .ok (.invokevirtual 215, 3) := by decide +kernel
theorem dX11_offGoes_28 : decode cX11_offGoes 28 = .ok (.istore 4, 2) := by decide +kernel
theorem dX11_offGoes_30 : decode cX11_offGoes 30 = .ok (.aload_n 0, 1) := by decide +kernel
theorem dX11_offGoes_31 : decode cX11_offGoes 31 = .ok (.getfield 68, 3) := by decide +kernel
theorem dX11_offGoes_34 : decode cX11_offGoes 34 = .ok (.iload_n 3, 1) := by decide +kernel
theorem dX11_offGoes_35 : decode cX11_offGoes 35 = .ok (.aload_n 0, 1) := by decide +kernel
theorem dX11_offGoes_36 : decode cX11_offGoes 36 = .ok (.iload_n 3, 1) := by decide +kernel
theorem dX11_offGoes_37 : decode cX11_offGoes 37 = .ok (.invokevirtual 180, 3) := by decide +kernel
theorem dX11_offGoes_40 : decode cX11_offGoes 40 = .ok (.ifCond .eq 28, 3) := by decide +kernel
theorem dX11_offGoes_43 : decode cX11_offGoes 43 = .ok (.aload_n 0, 1) := by decide +kernel
theorem dX11_offGoes_44 : decode cX11_offGoes 44 = .ok (.getfield 35, 3) := by decide +kernel
theorem dX11_offGoes_47 : decode cX11_offGoes 47 = .ok (.iload_n 3, 1) := by decide +kernel
theorem dX11_offGoes_48 : decode cX11_offGoes 48 = .ok (.iaload, 1) := by decide +kernel
theorem dX11_offGoes_49 : decode cX11_offGoes 49 = .ok (.aload_n 0, 1) := by decide +kernel
theorem dX11_offGoes_50 : decode cX11_offGoes 50 = .ok (.getfield 29, 3) := by decide +kernel
theorem dX11_offGoes_53 : decode cX11_offGoes 53 = .ok (.iload_n 3, 1) := by decide +kernel
theorem dX11_offGoes_54 : decode cX11_offGoes 54 = .ok (.iaload, 1) := by decide +kernel
theorem dX11_offGoes_55 : decode cX11_offGoes 55 = .ok (.iconst 1, 1) := by decide +kernel
theorem dX11_offGoes_56 : decode cX11_offGoes 56 = .ok (.isub, 1) := by decide +kernel
theorem dX11_offGoes_57 : decode cX11_offGoes 57 = .ok (.if_icmp .ne 7, 3) := by decide +kernel
theorem dX11_offGoes_60 : decode cX11_offGoes 60 = .ok (.iconst 1, 1) := by decide +kernel
theorem dX11_offGoes_61 : decode cX11_offGoes 61 = .ok (.goto 22, 3) := by decide +kernel
theorem dX11_offGoes_64 : decode cX11_offGoes 64 = .ok (.iconst 0, 1) := by decide +kernel
theorem dX11_offGoes_65 : decode cX11_offGoes 65 = .ok (.goto 18, 3) := by decide +kernel
theorem dX11_offGoes_68 : decode cX11_offGoes 68 = .ok (.iload_n 2, 1) := by decide +kernel
theorem dX11_offGoes_69 : decode cX11_offGoes 69 = .ok (.ifCond .eq 13, 3) := by decide +kernel
theorem dX11_offGoes_72 : decode cX11_offGoes 72 = .ok (.iload 4, 2) := by decide +kernel
theorem dX11_offGoes_74 : decode cX11_offGoes 74 = .ok (.iconst 4, 1) := by decide +kernel
theorem dX11_offGoes_75 : decode cX11_offGoes 75 = .ok (.if_icmp .ne 7, 3) := by decide +kernel
