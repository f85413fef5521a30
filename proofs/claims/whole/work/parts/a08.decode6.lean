theorem dX7_isGood_237 : decode cX7_isGood 237 = .ok (.if_icmp .eq 69, 3) := by decide +kernel
theorem dX7_isGood_240 : decode cX7_isGood 240 = .ok (.aload_n 0, 1) := by decide +kernel
theorem dX7_isGood_241 : decode cX7_isGood 241 = .ok (.getfield 51, 3) := by decide +kernel
theorem dX7_isGood_244 : decode cX7_isGood 244 = .ok (.iconst 2, 1) := by decide +kernel
theorem dX7_isGood_245 : decode cX7_isGood 245 = .ok (.iaload, 1) := by decide +kernel
theorem dX7_isGood_246 : decode cX7_isGood 246 = .ok (.i2l, 1) := by decide +kernel
theorem dX7_isGood_247 : decode cX7_isGood 247 = .ok (.lconst 0, 1) := by decide +kernel
theorem dX7_isGood_248 : decode cX7_isGood 248 = .ok (.ldc2_w 87, 3) := by decide +kernel
theorem dX7_isGood_251 : decode cX7_isGood 251 = .ok (.invokestatic 62, 3) := by decide +kernel
theorem dX7_isGood_254 : decode cX7_isGood 254 = .ok (.ifCond .eq 52, 3) := by decide +kernel
theorem dX7_isGood_257 : decode cX7_isGood 257 = .ok (.aload_n 0, 1) := by decide +kernel
theorem dX7_isGood_258 : decode cX7_isGood 258 = .ok (.getfield 51, 3) := by decide +kernel
theorem dX7_isGood_261 : decode cX7_isGood 261 = .ok (.iconst 3, 1) := by decide +kernel
theorem dX7_isGood_262 : decode cX7_isGood 262 = .ok (.iaload, 1) := by decide +kernel
theorem dX7_isGood_263 : decode cX7_isGood 263 = .ok (.i2l, 1) := by decide +kernel
theorem dX7_isGood_264 : decode cX7_isGood 264 = .ok (.lconst 0, 1) := by decide +kernel
theorem dX7_isGood_265 : decode cX7_isGood 265 = .ok (.ldc2_w 89, 3) := by decide +kernel
theorem dX7_isGood_268 : decode cX7_isGood 268 = .ok (.invokestatic 62, 3) := by decide +kernel
theorem dX7_isGood_271 : decode cX7_isGood 271 = .ok (.ifCond .eq 35, 3) := by decide +kernel
theorem dX7_isGood_274 : decode cX7_isGood 274 = .ok (.aload_n 0, 1) := by decide +kernel
theorem dX7_isGood_275 : decode cX7_isGood 275 = .ok (.getfield 51, 3) := by decide +kernel
theorem dX7_isGood_278 : decode cX7_isGood 278 = .ok (.iconst 4, 1) := by decide +kernel
theorem dX7_isGood_279 : decode cX7_isGood 279 = .ok (.iaload, 1) := by decide +kernel
theorem dX7_isGood_280 : decode cX7_isGood 280 = .ok (.i2l, 1) := by decide +kernel
theorem dX7_isGood_281 : decode cX7_isGood 281 = .ok (.lconst 0, 1) := by decide +kernel
theorem dX7_isGood_282 : decode cX7_isGood 282 = .ok (.ldc2_w 91, 3) := by decide +kernel
theorem dX7_isGood_285 : decode cX7_isGood 285 = .ok (.invokestatic 62, 3) := by decide +kernel
theorem dX7_isGood_288 : decode cX7_isGood 288 = .ok (.ifCond .eq 18, 3) := by decide +kernel
theorem dX7_isGood_291 : decode cX7_isGood 291 = .ok (.aload_n 0, 1) := by decide +kernel
theorem dX7_isGood_292 : decode cX7_isGood 292 = .ok (.getfield 17, 3) := by decide +kernel
theorem dX7_isGood_295 : decode cX7_isGood 295 = .ok (.iconst 1, 1) := by decide +kernel
theorem dX7_isGood_296 : decode cX7_isGood 296 = .ok (.iaload, 1) := by decide +kernel
theorem dX7_isGood_297 : decode cX7_isGood 297 = .ok (.bipush 7, 2) := by decide +kernel
theorem dX7_isGood_299 : decode cX7_isGood 299 = .ok (.if_icmp .ge 7, 3) := by decide +kernel
theorem dX7_isGood_302 : decode cX7_isGood 302 = .ok (.iconst 1, 1) := by decide +kernel
theorem dX7_isGood_303 : decode cX7_isGood 303 = .ok (.goto 4, 3) := by decide +kernel
theorem dX7_isGood_306 : decode cX7_isGood 306 = .ok (.iconst 0, 1) := by decide +kernel
theorem dX7_isGood_307 : decode cX7_isGood 307 = .ok (.istore_n 2, 1) := by decide +kernel
theorem dX7_isGood_308 : decode cX7_isGood 308 = .ok (.iconst 0, 1) := by decide +kernel
theorem dX7_isGood_309 : decode cX7_isGood 309 = .ok (.istore_n 3, 1) := by decide +kernel
theorem dX7_isGood_310 : decode cX7_isGood 310 = .ok (.iload_n 3, 1) := by decide +kernel
theorem dX7_isGood_311 : decode cX7_isGood 311 = .ok (.iconst 5, 1) := by decide +kernel
theorem dX7_isGood_312 : decode cX7_isGood 312 = .ok (.if_icmp .ge 37, 3) := by decide +kernel
theorem dX7_isGood_315 : decode cX7_isGood 315 = .ok (.iload_n 2, 1) := by decide +kernel
theorem dX7_isGood_316 : decode cX7_isGood 316 = .ok (.ifCond .eq 33, 3) := by decide +kernel
theorem dX7_isGood_319 : decode cX7_isGood 319 = .ok (.aload_n 0, 1) := by decide +kernel
theorem dX7_isGood_320 : decode cX7_isGood 320 = .ok (.getfield 20, 3) := by decide +kernel
theorem dX7_isGood_323 : decode cX7_isGood 323 = .ok (.bipush 35, 2) := by decide +kernel
theorem dX7_isGood_325 : decode cX7_isGood 325 = .ok (.iconst 5, 1) := by decide +kernel
theorem dX7_isGood_326 : decode cX7_isGood 326 = .ok (.aload_n 0, 1) := by decide +kernel
theorem dX7_isGood_327 : decode cX7_isGood 327 = .ok (.getfield 17, 3) := by decide +kernel
theorem dX7_isGood_330 : decode cX7_isGood 330 = .ok (.iconst 1, 1) := by decide +kernel
theorem dX7_isGood_331 : decode cX7_isGood 331 = .ok (.iaload, 1) := by decide +kernel
theorem dX7_isGood_332 : decode cX7_isGood 332 = .ok (.imul, 1) := by decide +kernel
theorem dX7_isGood_333 : decode cX7_isGood 333 = .ok (.iadd, 1) := by decide +kernel
theorem dX7_isGood_334 : decode cX7_isGood 334 = .ok (.iload_n 3, 1) := by decide +kernel
theorem dX7_isGood_335 : decode cX7_isGood 335 = .ok (.iadd, 1) := by decide +kernel
theorem dX7_isGood_336 : decode cX7_isGood 336 = .ok (.aload_n 0, 1) := by decide +kernel
theorem dX7_isGood_337 : decode cX7_isGood 337 = .ok (.getfield 51, 3) := by decide +kernel
theorem dX7_isGood_340 : decode cX7_isGood 340 = .ok (.iload_n 3, 1) := by decide +kernel
theorem dX7_isGood_341 : decode cX7_isGood 341 = .ok (.iaload, 1) := by decide +kernel
theorem dX7_isGood_342 : decode cX7_isGood 342 = .ok (.iastore, 1) := by decide +kernel
theorem dX7_isGood_343 : decode cX7_isGood 343 = .ok (.iinc 3 1, 3) := by decide +kernel
theorem dX7_isGood_346 : decode cX7_isGood 346 = .ok (.goto (-36), 3) := by decide +kernel
theorem dX7_isGood_349 : decode cX7_isGood 349 = .ok (.aload_n 0, 1) := by decide +kernel
theorem dX7_isGood_350 : decode cX7_isGood 350 = .ok (.getfield 17, 3) := by decide +kernel
theorem dX7_isGood_353 : decode cX7_isGood 353 = .ok (.iconst 1, 1) := by decide +kernel
theorem dX7_isGood_354 : decode cX7_isGood 354 = .ok (.dup2, 1) := by decide +kernel
theorem dX7_isGood_355 : decode cX7_isGood 355 = .ok (.iaload, 1) := by decide +kernel
theorem dX7_isGood_356 : decode cX7_isGood 356 = .ok (.iload_n 2, 1) := by decide +kernel
theorem dX7_isGood_357 : decode cX7_isGood 357 = .ok (.ifCond .eq 7, 3) := by decide +kernel
theorem dX7_isGood_360 : decode cX7_isGood 360 = .ok (.iconst 1, 1) := by decide +kernel
theorem dX7_isGood_361 : decode cX7_isGood 361 = .ok (.goto 4, 3) := by decide +kernel
theorem dX7_isGood_364 : decode cX7_isGood 364 = .ok (.iconst 0, 1) := by decide +kernel
theorem dX7_isGood_365 : decode cX7_isGood 365 = .ok (.iadd, 1) := by decide +kernel
theorem dX7_isGood_366 : decode cX7_isGood 366 = .ok (.iastore, 1) := by decide +kernel
theorem dX7_isGood_367 : decode cX7_isGood 367 = .ok (.iload_n 2, 1) := by decide +kernel
theorem dX7_isGood_368 : decode cX7_isGood 368 = .ok (.ireturn, 1) := by decide +kernel
theorem dX7_begins_0 : decode cX7_begins 0 = .ok (.aload_n 0, 1) := by decide +kernel
theorem dX7_begins_1 : decode cX7_begins 1 = .ok (.getfield 17, 3) := by decide +kernel
theorem dX7_begins_4 : decode cX7_begins 4 = .ok (.iconst 1, 1) := by decide +kernel
theorem dX7_begins_5 : decode cX7_begins 5 = .ok (.iconst 0, 1) := by decide +kernel
theorem dX7_begins_6 : decode cX7_begins 6 = .ok (.iastore, 1) := by decide +kernel
theorem dX7_begins_7 : decode cX7_begins 7 = .ok (.aload_n 0, 1) := by decide +kernel
theorem dX7_begins_8 : decode cX7_begins 8 = .ok (.getfield 13, 3) := by decide +kernel
theorem dX7_begins_11 : decode cX7_begins 11 = .ok (.iconst 2, 1) := by decide +kernel
theorem dX7_begins_12 : decode cX7_begins 12 = .ok (.iconst 0, 1) := by decide +kernel
theorem dX7_begins_13 : decode cX7_begins 13 = .ok (.iastore, 1) := by decide +kernel
theorem dX7_begins_14 : decode cX7_begins 14 = .ok (.aload_n 0, 1) := by decide +kernel
theorem dX7_begins_15 : decode cX7_begins 15 = .ok (.getfield 13, 3) := by decide +kernel
theorem dX7_begins_18 : decode cX7_begins 18 = .ok (.iconst 3, 1) := by decide +kernel
theorem dX7_begins_19 : decode cX7_begins 19 = .ok (.iconst 1, 1) := by decide +kernel
theorem dX7_begins_20 : decode cX7_begins 20 = .ok (.iastore, 1) := by decide +kernel
theorem dX7_begins_21 : decode cX7_begins 21 = .ok (.iconst 0, 1) := by decide +kernel
theorem dX7_begins_22 : decode cX7_begins 22 = .ok (.istore_n 1, 1) := by decide +kernel
theorem dX7_begins_23 : decode cX7_begins 23 = .ok (.iload_n 1, 1) := by decide +kernel
theorem dX7_begins_24 : decode cX7_begins 24 = .ok (.bipush 7, 2) := by decide +kernel
theorem dX7_begins_26 : decode cX7_begins 26 = .ok (.if_icmp .ge 19, 3) := by decide +kernel
theorem dX7_begins_29 : decode cX7_begins 29 = .ok (.aload_n 0, 1) := by decide +kernel
theorem dX7_begins_30 : decode cX7_begins 30 = .ok (.getfield 23, 3) := by decide +kernel
theorem dX7_begins_33 : decode cX7_begins 33 = .ok (.bipush 7, 2) := by decide +kernel
theorem dX7_begins_35 : decode cX7_begins 35 = .ok (.iload_n 1, 1) := by decide +kernel
theorem dX7_begins_36 : decode cX7_begins 36 = .ok (.iadd, 1) := by decide +kernel
theorem dX7_begins_37 : decode cX7_begins 37 = .ok (.iconst 0, 1) := by decide +kernel
theorem dX7_begins_38 : decode cX7_begins 38 = .ok (.iastore, 1) := by decide +kernel
theorem dX7_begins_39 : decode cX7_begins 39 = .ok (.iinc 1 1, 3) := by decide +kernel
theorem dX7_begins_42 : decode cX7_begins 42 = .ok (.goto (-19), 3) := by decide +kernel
theorem dX7_begins_45 : decode cX7_begins 45 = .ok (.return_, 1) := by decide +kernel
theorem dX7_takes_0 : decode cX7_takes 0 = .ok (.aload_n 0, 1) := by decide +kernel
theorem dX7_takes_1 : decode cX7_takes 1 = .ok (.getfield 17, 3) := by decide +kernel
theorem dX7_takes_4 : decode cX7_takes 4 = .ok (.iconst 0, 1) := by decide +kernel
theorem dX7_takes_5 : decode cX7_takes 5 = .ok (.aload_n 0, 1) := by decide +kernel
theorem dX7_takes_6 : decode cX7_takes 6 = .ok (.getfield 17, 3) := by decide +kernel
theorem dX7_takes_9 : decode cX7_takes 9 = .ok (.iconst 1, 1) := by decide +kernel
theorem dX7_takes_10 : decode cX7_takes 10 = .ok (.iaload, 1) := by decide +kernel
theorem dX7_takes_11 : decode cX7_takes 11 = .ok (.iastore, 1) := by decide +kernel
theorem dX7_takes_12 : decode cX7_takes 12 = .ok (.aload_n 0, 1) := by decide +kernel
theorem dX7_takes_13 : decode cX7_takes 13 = .ok (.getfield 13, 3) := by decide +kernel
theorem dX7_takes_16 : decode cX7_takes 16 = .ok (.iconst 0, 1) := by decide +kernel
theorem dX7_takes_17 : decode cX7_takes 17 = .ok (.aload_n 0, 1) := by decide +kernel
theorem dX7_takes_18 : decode cX7_takes 18 = .ok (.getfield 13, 3) := by decide +kernel
theorem dX7_takes_21 : decode cX7_takes 21 = .ok (.iconst 2, 1) := by decide +kernel
theorem dX7_takes_22 : decode cX7_takes 22 = .ok (.iaload, 1) := by decide +kernel
theorem dX7_takes_23 : decode cX7_takes 23 = .ok (.iastore, 1) := by decide +kernel
theorem dX7_takes_24 : decode cX7_takes 24 = .ok (.aload_n 0, 1) := by decide +kernel
theorem dX7_takes_25 : decode cX7_takes 25 = .ok (.getfield 13, 3) := by decide +kernel
theorem dX7_takes_28 : decode cX7_takes 28 = .ok (.iconst 1, 1) := by decide +kernel
theorem dX7_takes_29 : decode cX7_takes 29 = .ok (.aload_n 0, 1) := by decide +kernel
theorem dX7_takes_30 : decode cX7_takes 30 = .ok (.getfield 13, 3) := by decide +kernel
theorem dX7_takes_33 : decode cX7_takes 33 = .ok (.iconst 3, 1) := by decide +kernel
theorem dX7_takes_34 : decode cX7_takes 34 = .ok (.iaload, 1) := by decide +kernel
theorem dX7_takes_35 : decode cX7_takes 35 = .ok (.iastore, 1) := by decide +kernel
theorem dX7_takes_36 : decode cX7_takes 36 = .ok (.iconst 0, 1) := by decide +kernel
theorem dX7_takes_37 : decode cX7_takes 37 = .ok (.istore_n 1, 1) := by decide +kernel
theorem dX7_takes_38 : decode cX7_takes 38 = .ok (.iload_n 1, 1) := by decide +kernel
theorem dX7_takes_39 : decode cX7_takes 39 = .ok (.bipush 35, 2) := by decide +kernel
theorem dX7_takes_41 : decode cX7_takes 41 = .ok (.if_icmp .ge 45, 3) := by decide +kernel
theorem dX7_takes_44 : decode cX7_takes 44 = .ok (.aload_n 0, 1) := by decide +kernel
theorem dX7_takes_45 : decode cX7_takes 45 = .ok (.getfield 20, 3) := by decide +kernel
theorem dX7_takes_48 : decode cX7_takes 48 = .ok (.iload_n 1, 1) := by decide +kernel
theorem dX7_takes_49 : decode cX7_takes 49 = .ok (.aload_n 0, 1) := by decide +kernel
theorem dX7_takes_50 : decode cX7_takes 50 = .ok (.getfield 20, 3) := by decide +kernel
theorem dX7_takes_53 : decode cX7_takes 53 = .ok (.bipush 35, 2) := by decide +kernel
theorem dX7_takes_55 : decode cX7_takes 55 = .ok (.iload_n 1, 1) := by decide +kernel
theorem dX7_takes_56 : decode cX7_takes 56 = .ok (.iadd, 1) := by decide +kernel
theorem dX7_takes_57 : decode cX7_takes 57 = .ok (.iaload, 1) := by decide +kernel
theorem dX7_takes_58 : decode cX7_takes 58 = .ok (.iastore, 1) := by decide +kernel
theorem dX7_takes_59 : decode cX7_takes 59 = .ok (.iload_n 1, 1) := by decide +kernel
theorem dX7_takes_60 : decode cX7_takes 60 = .ok (.bipush 7, 2) := by decide +kernel
theorem dX7_takes_62 : decode cX7_takes 62 = .ok (.if_icmp .ge 18, 3) := by decide +kernel
theorem dX7_takes_65 : decode cX7_takes 65 = .ok (.aload_n 0, 1) := by decide +kernel
theorem dX7_takes_66 : decode cX7_takes 66 = .ok (.getfield 23, 3) := by decide +kernel
theorem dX7_takes_69 : decode cX7_takes 69 = .ok (.iload_n 1, 1) := by decide +kernel
theorem dX7_takes_70 : decode cX7_takes 70 = .ok (.aload_n 0, 1) := by decide +kernel
theorem dX7_takes_71 : decode cX7_takes 71 = .ok (.getfield 23, 3) := by decide +kernel
theorem dX7_takes_74 : decode cX7_takes 74 = .ok (.bipush 7, 2) := by decide +kernel
theorem dX7_takes_76 : decode cX7_takes 76 = .ok (.iload_n 1, 1) := by decide +kernel
theorem dX7_takes_77 : decode cX7_takes 77 = .ok (.iadd, 1) := by decide +kernel
theorem dX7_takes_78 : decode cX7_takes 78 = .ok (.iaload, 1) := by decide +kernel
theorem dX7_takes_79 : decode cX7_takes 79 = .ok (.iastore, 1) := by decide +kernel
theorem dX7_takes_80 : decode cX7_takes 80 = .ok (.iinc 1 1, 3) := by decide +kernel
theorem dX7_takes_83 : decode cX7_takes 83 = .ok (.goto (-45), 3) := by decide +kernel
theorem dX7_takes_86 : decode cX7_takes 86 = .ok (.aload_n 0, 1) := by decide +kernel
theorem dX7_takes_87 : decode cX7_takes 87 = .ok (.getfield 26, 3) := by decide +kernel
theorem dX7_takes_90 : decode cX7_takes 90 = .ok (.iconst 0, 1) := by decide +kernel
theorem dX7_takes_91 : decode cX7_takes 91 = .ok (.iconst 0, 1) := by decide +kernel
theorem dX7_takes_92 : decode cX7_takes 92 = .ok (.iastore, 1) := by decide +kernel
theorem dX7_takes_93 : decode cX7_takes 93 = .ok (.aload_n 0, 1) := by decide +kernel
theorem dX7_takes_94 : decode cX7_takes 94 = .ok (.getfield 32, 3) := by decide +kernel
theorem dX7_takes_97 : decode cX7_takes 97 = .ok (.iconst 0, 1) := by decide +kernel
theorem dX7_takes_98 : decode cX7_takes 98 = .ok (.iconst 0, 1) := by decide +kernel
theorem dX7_takes_99 : decode cX7_takes 99 = .ok (.iastore, 1) := by decide +kernel
theorem dX7_takes_100 : decode cX7_takes 100 = .ok (.aload_n 0, 1) := by decide +kernel
theorem dX7_takes_101 : decode cX7_takes 101 = .ok (.iconst 0, 1) := by decide +kernel
theorem dX7_takes_102 : decode cX7_takes 102 = .ok (.putfield 93, 3) := by decide +kernel
theorem dX7_takes_105 : decode cX7_takes 105 = .ok (.aload_n 0, 1) := by decide +kernel
theorem dX7_takes_106 : decode cX7_takes 106 = .ok (.iconst 0, 1) := by decide +kernel
theorem dX7_takes_107 : decode cX7_takes 107 = .ok (.putfield 96, 3) := by decide +kernel
theorem dX7_takes_110 : decode cX7_takes 110 = .ok (.return_, 1) := by decide +kernel
theorem dX7_fault_0 : decode cX7_fault 0 = .ok (.aload_n 0, 1) := by decide +kernel
theorem dX7_fault_1 : decode cX7_fault 1 = .ok (.iconst 0, 1) := by decide +kernel
theorem dX7_fault_2 : decode cX7_fault 2 = .ok (.putfield 70, 3) := by decide +kernel
theorem dX7_fault_5 : decode cX7_fault 5 = .ok (.aload_n 0, 1) := by decide +kernel
theorem dX7_fault_6 : decode cX7_fault 6 = .ok (.invokevirtual 54, 3) := by decide +kernel
theorem dX7_fault_9 : decode cX7_fault 9 = .ok (.aload_n 0, 1) := by decide +kernel
theorem dX7_fault_10 : decode cX7_fault 10 = .ok (.getfield 70, 3) := by decide +kernel
theorem dX7_fault_13 : decode cX7_fault 13 = .ok (.aload_n 0, 1) := by decide +kernel
theorem dX7_fault_14 : decode cX7_fault 14 = .ok (.getfield 66, 3) := by decide +kernel
theorem dX7_fault_17 : decode cX7_fault 17 = .ok (.if_icmp .ge 20, 3) := by decide +kernel
theorem dX7_fault_20 : decode cX7_fault 20 = .ok (.aload_n 0, 1) := by decide +kernel
theorem dX7_fault_21 : decode cX7_fault 21 = .ok (.getfield 70, 3) := by decide +kernel
theorem dX7_fault_24 : decode cX7_fault 24 = .ok (.istore_n 1, 1) := by decide +kernel
theorem dX7_fault_25 : decode cX7_fault 25 = .ok (.aload_n 0, 1) := by decide +kernel
theorem dX7_fault_26 : decode cX7_fault 26 = .ok (.invokevirtual 99, 3) := by decide +kernel
theorem dX7_fault_29 : decode cX7_fault 29 = .ok (.ifCond .ne 5, 3) := by decide +kernel
theorem dX7_fault_32 : decode cX7_fault 32 = .ok (.iload_n 1, 1) := by decide +kernel
theorem dX7_fault_33 : decode cX7_fault 33 = .ok (.ireturn, 1) := by decide +kernel
theorem dX7_fault_34 : decode cX7_fault 34 = .ok (.goto (-25), 3) := by decide +kernel
theorem dX7_fault_37 : decode cX7_fault 37 = .ok (.bipush (-4), 2) := by decide +kernel
theorem dX7_fault_39 : decode cX7_fault 39 = .ok (.ireturn, 1) := by decide +kernel
theorem dX7_lay_0 : decode cX7_lay 0 = .ok (.aload_n 0, 1) := by decide +kernel
theorem dX7_lay_1 : decode cX7_lay 1 = .ok (.invokevirtual 103, 3) := by decide +kernel
theorem dX7_lay_4 : decode cX7_lay 4 = .ok (.bipush (-4), 2) := by decide +kernel
theorem dX7_lay_6 : decode cX7_lay 6 = .ok (.if_icmp .ne 12, 3) := by decide +kernel
theorem dX7_lay_9 : decode cX7_lay 9 = .ok (.aload_n 0, 1) := by decide +kernel
theorem dX7_lay_10 : decode cX7_lay 10 = .ok (.getfield 17, 3) := by decide +kernel
theorem dX7_lay_13 : decode cX7_lay 13 = .ok (.iconst 1, 1) := by decide +kernel
theorem dX7_lay_14 : decode cX7_lay 14 = .ok (.iaload, 1) := by decide +kernel
theorem dX7_lay_15 : decode cX7_lay 15 = .ok (.ifCond .ne 6, 3) := by decide +kernel
theorem dX7_lay_18 : decode cX7_lay 18 = .ok (.bipush (-2), 2) := by decide +kernel
theorem dX7_lay_20 : decode cX7_lay 20 = .ok (.ireturn, 1) := by decide +kernel
theorem dX7_lay_21 : decode cX7_lay 21 = .ok (.aload_n 0, 1) := by decide +kernel
theorem dX7_lay_22 : decode cX7_lay 22 = .ok (.invokevirtual 57, 3) := by decide +kernel
theorem dX7_lay_25 : decode cX7_lay 25 = .ok (.aload_n 0, 1) := by decide +kernel
theorem dX7_lay_26 : decode cX7_lay 26 = .ok (.getfield 17, 3) := by decide +kernel
theorem dX7_lay_29 : decode cX7_lay 29 = .ok (.iconst 0, 1) := by decide +kernel
theorem dX7_lay_30 : decode cX7_lay 30 = .ok (.iaload, 1) := by decide +kernel
theorem dX7_lay_31 : decode cX7_lay 31 = .ok (.ireturn, 1) := by decide +kernel
theorem dX7_isMouth_0 : decode cX7_isMouth 0 = .ok (.iload_n 1, 1) := by decide +kernel
theorem dX7_isMouth_1 : decode cX7_isMouth 1 = .ok (.i2l, 1) := by decide +kernel
theorem dX7_isMouth_2 : decode cX7_isMouth 2 = .ok (.lconst 0, 1) := by decide +kernel
theorem dX7_isMouth_3 : decode cX7_isMouth 3 = .ok (.aload_n 0, 1) := by decide +kernel
theorem dX7_isMouth_4 : decode cX7_isMouth 4 = .ok (.getfield 17, 3) := by decide +kernel
theorem dX7_isMouth_7 : decode cX7_isMouth 7 = .ok (.iconst 0, 1) := by decide +kernel
theorem dX7_isMouth_8 : decode cX7_isMouth 8 = .ok (.iaload, 1) := by decide +kernel
theorem dX7_isMouth_9 : decode cX7_isMouth 9 = .ok (.iconst 1, 1) := by decide +kernel
theorem dX7_isMouth_10 : decode cX7_isMouth 10 = .ok (.isub, 1) := by decide +kernel
theorem dX7_isMouth_11 : decode cX7_isMouth 11 = .ok (.i2l, 1) := by decide +kernel
theorem dX7_isMouth_12 : decode cX7_isMouth 12 = .ok (.invokestatic 62, 3) := by decide +kernel
theorem dX7_isMouth_15 : decode cX7_isMouth 15 = .ok (.ireturn, 1) := by decide +kernel
theorem dX7_isSense_0 : decode cX7_isSense 0 = .ok (.iload_n 0, 1) := by decide +kernel
theorem dX7_isSense_1 : decode cX7_isSense 1 = .ok (.i2l, 1) := by decide +kernel
theorem dX7_isSense_2 : decode cX7_isSense 2 = .ok (.lconst 0, 1) := by decide +kernel
theorem dX7_isSense_3 : decode cX7_isSense 3 = .ok (.ldc2_w 106, 3) := by decide +kernel
theorem dX7_isSense_6 : decode cX7_isSense 6 = .ok (.invokestatic 62, 3) := by decide +kernel
theorem dX7_isSense_9 : decode cX7_isSense 9 = .ok (.ireturn, 1) := by decide +kernel
theorem dX7_mouth_0 : decode cX7_mouth 0 = .ok (.aload_n 0, 1) := by decide +kernel
theorem dX7_mouth_1 : decode cX7_mouth 1 = .ok (.iload_n 1, 1) := by decide +kernel
theorem dX7_mouth_2 : decode cX7_mouth 2 = .ok (.invokevirtual 108, 3) := by decide +kernel
theorem dX7_mouth_5 : decode cX7_mouth 5 = .ok (.ifCond .eq 28, 3) := by decide +kernel
theorem dX7_mouth_8 : decode cX7_mouth 8 = .ok (.iload_n 2, 1) := by decide +kernel
theorem dX7_mouth_9 : decode cX7_mouth 9 = .ok (.i2l, 1) := by decide +kernel
theorem dX7_mouth_10 : decode cX7_mouth 10 = .ok (.lconst 0, 1) := by decide +kernel
theorem dX7_mouth_11 : decode cX7_mouth 11 = .ok (.ldc2_w 111, 3) := by decide +kernel
theorem dX7_mouth_14 : decode cX7_mouth 14 = .ok (.invokestatic 62, 3) := by decide +kernel
theorem dX7_mouth_17 : decode cX7_mouth 17 = .ok (.ifCond .eq 16, 3) := by decide +kernel
theorem dX7_mouth_20 : decode cX7_mouth 20 = .ok (.aload_n 0, 1) := by decide +kernel
theorem dX7_mouth_21 : decode cX7_mouth 21 = .ok (.getfield 20, 3) := by decide +kernel
theorem dX7_mouth_24 : decode cX7_mouth 24 = .ok (.iconst 5, 1) := by decide +kernel
theorem dX7_mouth_25 : decode cX7_mouth 25 = .ok (.iload_n 1, 1) := by decide +kernel
theorem dX7_mouth_26 : decode cX7_mouth 26 = .ok (.imul, 1) := by decide +kernel
theorem dX7_mouth_27 : decode cX7_mouth 27 = .ok (.iload_n 2, 1) := by decide +kernel
theorem dX7_mouth_28 : decode cX7_mouth 28 = .ok (.iadd, 1) := by decide +kernel
theorem dX7_mouth_29 : decode cX7_mouth 29 = .ok (.iaload, 1) := by decide +kernel
theorem dX7_mouth_30 : decode cX7_mouth 30 = .ok (.goto 4, 3) := by decide +kernel
theorem dX7_mouth_33 : decode cX7_mouth 33 = .ok (.iconst (-1), 1) := by decide +kernel
theorem dX7_mouth_34 : decode cX7_mouth 34 = .ok (.ireturn, 1) := by decide +kernel
theorem dX7_made_0 : decode cX7_made 0 = .ok (.iload_n 0, 1) := by decide +kernel
theorem dX7_made_1 : decode cX7_made 1 = .ok (.tableswitch 116 1 5 #[35, 46, 68, 81, 101], 35) := by decide +kernel
theorem dX7_made_36 : decode cX7_made 36 = .ok (.iload_n 1, 1) := by decide +kernel
theorem dX7_made_37 : decode cX7_made 37 = .ok (.iconst 2, 1) := by decide +kernel
theorem dX7_made_38 : decode cX7_made 38 = .ok (.if_icmp .ne 7, 3) := by decide +kernel
theorem dX7_made_41 : decode cX7_made 41 = .ok (.iconst 3, 1) := by decide +kernel
theorem dX7_made_42 : decode cX7_made 42 = .ok (.goto 4, 3) := by decide +kernel
theorem dX7_made_45 : decode cX7_made 45 = .ok (.iload_n 1, 1) := by decide +kernel
theorem dX7_made_46 : decode cX7_made 46 = .ok (.ireturn, 1) := by decide +kernel
theorem dX7_made_47 : decode cX7_made 47 = .ok (.iload_n 1, 1) := by decide +kernel
theorem dX7_made_48 : decode cX7_made 48 = .ok (.i2l, 1) := by decide +kernel
theorem dX7_made_49 : decode cX7_made 49 = .ok (.ldc2_w 111, 3) := by decide +kernel
theorem dX7_made_52 : decode cX7_made 52 = .ok (.ldc2_w 113, 3) := by decide +kernel
theorem dX7_made_55 : decode cX7_made 55 = .ok (.invokestatic 62, 3) := by decide +kernel
theorem dX7_made_58 : decode cX7_made 58 = .ok (.ifCond .eq 9, 3) := by decide +kernel
theorem dX7_made_61 : decode cX7_made 61 = .ok (.iload_n 1, 1) := by decide +kernel
theorem dX7_made_62 : decode cX7_made 62 = .ok (.iconst 1, 1) := by decide +kernel
theorem dX7_made_63 : decode cX7_made 63 = .ok (.iadd, 1) := by decide +kernel
theorem dX7_made_64 : decode cX7_made 64 = .ok (.goto 4, 3) := by decide +kernel
theorem dX7_made_67 : decode cX7_made 67 = .ok (.iload_n 1, 1) := by decide +kernel
theorem dX7_made_68 : decode cX7_made 68 = .ok (.ireturn, 1) := by decide +kernel
theorem dX7_made_69 : decode cX7_made 69 = .ok (.iload_n 1, 1) := by decide +kernel
theorem dX7_made_70 : decode cX7_made 70 = .ok (.bipush 8, 2) := by decide +kernel
theorem dX7_made_72 : decode cX7_made 72 = .ok (.if_icmp .ne 8, 3) := by decide +kernel
theorem dX7_made_75 : decode cX7_made 75 = .ok (.bipush 9, 2) := by decide +kernel
theorem dX7_made_77 : decode cX7_made 77 = .ok (.goto 4, 3) := by decide +kernel
theorem dX7_made_80 : decode cX7_made 80 = .ok (.iload_n 1, 1) := by decide +kernel
theorem dX7_made_81 : decode cX7_made 81 = .ok (.ireturn, 1) := by decide +kernel
theorem dX7_made_82 : decode cX7_made 82 = .ok (.iload_n 1, 1) := by decide +kernel
theorem dX7_made_83 : decode cX7_made 83 = .ok (.iconst 1, 1) := by decide +kernel
theorem dX7_made_84 : decode cX7_made 84 = .ok (.if_icmp .ne 7, 3) := by decide +kernel
theorem dX7_made_87 : decode cX7_made 87 = .ok (.iconst 2, 1) := by decide +kernel
theorem dX7_made_88 : decode cX7_made 88 = .ok (.goto 13, 3) := by decide +kernel
theorem dX7_made_91 : decode cX7_made 91 = .ok (.iload_n 1, 1) := by decide +kernel
theorem dX7_made_92 : decode cX7_made 92 = .ok (.iconst 2, 1) := by decide +kernel
theorem dX7_made_93 : decode cX7_made 93 = .ok (.if_icmp .ne 7, 3) := by decide +kernel
theorem dX7_made_96 : decode cX7_made 96 = .ok (.iconst 1, 1) := by decide +kernel
theorem dX7_made_97 : decode cX7_made 97 = .ok (.goto 4, 3) := by decide +kernel
theorem dX7_made_100 : decode cX7_made 100 = .ok (.iload_n 1, 1) := by decide +kernel
theorem dX7_made_101 : decode cX7_made 101 = .ok (.ireturn, 1) := by decide +kernel
theorem dX7_made_102 : decode cX7_made 102 = .ok (.iload_n 1, 1) := by decide +kernel
theorem dX7_made_103 : decode cX7_made 103 = .ok (.ifCond .eq 8, 3) := by decide +kernel
theorem dX7_made_106 : decode cX7_made 106 = .ok (.iload_n 1, 1) := by decide +kernel
theorem dX7_made_107 : decode cX7_made 107 = .ok (.iconst 3, 1) := by decide +kernel
theorem dX7_made_108 : decode cX7_made 108 = .ok (.if_icmp .ne 7, 3) := by decide +kernel
theorem dX7_made_111 : decode cX7_made 111 = .ok (.iconst 1, 1) := by decide +kernel
theorem dX7_made_112 : decode cX7_made 112 = .ok (.goto 4, 3) := by decide +kernel
theorem dX7_made_115 : decode cX7_made 115 = .ok (.iload_n 1, 1) := by decide +kernel
theorem dX7_made_116 : decode cX7_made 116 = .ok (.ireturn, 1) := by decide +kernel
theorem dX7_made_117 : decode cX7_made 117 = .ok (.iload_n 1, 1) := by decide +kernel
theorem dX7_made_118 : decode cX7_made 118 = .ok (.ireturn, 1) := by decide +kernel
theorem dX7_makes_0 : decode cX7_makes 0 = .ok (.iload_n 1, 1) := by decide +kernel
theorem dX7_makes_1 : decode cX7_makes 1 = .ok (.i2l, 1) := by decide +kernel
theorem dX7_makes_2 : decode cX7_makes 2 = .ok (.lconst 0, 1) := by decide +kernel
theorem dX7_makes_3 : decode cX7_makes 3 = .ok (.ldc2_w 87, 3) := by decide +kernel
theorem dX7_makes_6 : decode cX7_makes 6 = .ok (.invokestatic 62, 3) := by decide +kernel
theorem dX7_makes_9 : decode cX7_makes 9 = .ok (.ifCond .eq 18, 3) := by decide +kernel
theorem dX7_makes_12 : decode cX7_makes 12 = .ok (.iload_n 2, 1) := by decide +kernel
theorem dX7_makes_13 : decode cX7_makes 13 = .ok (.invokestatic 115, 3) := by decide +kernel
theorem dX7_makes_16 : decode cX7_makes 16 = .ok (.ifCond .eq 11, 3) := by decide +kernel
theorem dX7_makes_19 : decode cX7_makes 19 = .ok (.iload_n 1, 1) := by decide +kernel
theorem dX7_makes_20 : decode cX7_makes 20 = .ok (.iload_n 2, 1) := by decide +kernel
theorem dX7_makes_21 : decode cX7_makes 21 = .ok (.invokestatic 118, 3) := by decide +kernel
theorem dX7_makes_24 : decode cX7_makes 24 = .ok (.goto 4, 3) := by decide +kernel
theorem dX7_makes_27 : decode cX7_makes 27 = .ok (.iconst (-1), 1) := by decide +kernel
theorem dX7_makes_28 : decode cX7_makes 28 = .ok (.ireturn, 1) := by decide +kernel
theorem dX7_known_0 : decode cX7_known 0 = .ok (.aload_n 0, 1) := by decide +kernel
theorem dX7_known_1 : decode cX7_known 1 = .ok (.getfield 93, 3) := by decide +kernel
theorem dX7_known_4 : decode cX7_known 4 = .ok (.bipush 8, 2) := by decide +kernel
theorem dX7_known_6 : decode cX7_known 6 = .ok (.if_icmp .ne 41, 3) := by decide +kernel
theorem dX7_known_9 : decode cX7_known 9 = .ok (.iconst 0, 1) := by decide +kernel
theorem dX7_known_10 : decode cX7_known 10 = .ok (.istore_n 2, 1) := by decide +kernel
theorem dX7_known_11 : decode cX7_known 11 = .ok (.iload_n 2, 1) := by decide +kernel
theorem dX7_known_12 : decode cX7_known 12 = .ok (.bipush 7, 2) := by decide +kernel
theorem dX7_known_14 : decode cX7_known 14 = .ok (.if_icmp .ge 23, 3) := by decide +kernel
theorem dX7_known_17 : decode cX7_known 17 = .ok (.aload_n 0, 1) := by decide +kernel
theorem dX7_known_18 : decode cX7_known 18 = .ok (.getfield 38, 3) := by decide +kernel
theorem dX7_known_21 : decode cX7_known 21 = .ok (.iload_n 2, 1) := by decide +kernel
theorem dX7_known_22 : decode cX7_known 22 = .ok (.aload_n 0, 1) := by decide +kernel
theorem dX7_known_23 : decode cX7_known 23 = .ok (.getfield 38, 3) := by decide +kernel
theorem dX7_known_26 : decode cX7_known 26 = .ok (.iload_n 2, 1) := by decide +kernel
theorem dX7_known_27 : decode cX7_known 27 = .ok (.iconst 1, 1) := by decide +kernel
theorem dX7_known_28 : decode cX7_known 28 = .ok (.iadd, 1) := by decide +kernel
theorem dX7_known_29 : decode cX7_known 29 = .ok (.iaload, 1) := by decide +kernel
theorem dX7_known_30 : decode cX7_known 30 = .ok (.iastore, 1) := by decide +kernel
theorem dX7_known_31 : decode cX7_known 31 = .ok (.iinc 2 1, 3) := by decide +kernel
theorem dX7_known_34 : decode cX7_known 34 = .ok (.goto (-23), 3) := by decide +kernel
theorem dX7_known_37 : decode cX7_known 37 = .ok (.aload_n 0, 1) := by decide +kernel
theorem dX7_known_38 : decode cX7_known 38 = .ok (.dup, 1) := by decide +kernel
theorem dX7_known_39 : decode cX7_known 39 = .ok (.getfield 93, 3) := by decide +kernel
theorem dX7_known_42 : decode cX7_known 42 = .ok (.iconst 1, 1) := by decide +kernel
theorem dX7_known_43 : decode cX7_known 43 = .ok (.isub, 1) := by decide +kernel
theorem dX7_known_44 : decode cX7_known 44 = .ok (.putfield 93, 3) := by decide +kernel
theorem dX7_known_47 : decode cX7_known 47 = .ok (.aload_n 0, 1) := by decide +kernel
theorem dX7_known_48 : decode cX7_known 48 = .ok (.getfield 38, 3) := by decide +kernel
theorem dX7_known_51 : decode cX7_known 51 = .ok (.aload_n 0, 1) := by decide +kernel
theorem dX7_known_52 : decode cX7_known 52 = .ok (.getfield 93, 3) := by decide +kernel
theorem dX7_known_55 : decode cX7_known 55 = .ok (.iload_n 1, 1) := by decide +kernel
theorem dX7_known_56 : decode cX7_known 56 = .ok (.iastore, 1) := by decide +kernel
theorem dX7_known_57 : decode cX7_known 57 = .ok (.aload_n 0, 1) := by decide +kernel
theorem dX7_known_58 : decode cX7_known 58 = .ok (.dup, 1) := by decide +kernel
theorem dX7_known_59 : decode cX7_known 59 = .ok (.getfield 93, 3) := by decide +kernel
theorem dX7_known_62 : decode cX7_known 62 = .ok (.iconst 1, 1) := by decide +kernel
theorem dX7_known_63 : decode cX7_known 63 = .ok (.iadd, 1) := by decide +kernel
theorem dX7_known_64 : decode cX7_known 64 = .ok (.putfield 93, 3) := by decide +kernel
theorem dX7_known_67 : decode cX7_known 67 = .ok (.return_, 1) := by decide +kernel
theorem dX7_seat_0 : decode cX7_seat 0 = .ok (.aload_n 0, 1) := by decide +kernel
theorem dX7_seat_1 : decode cX7_seat 1 = .ok (.iload_n 1, 1) := by decide +kernel
theorem dX7_seat_2 : decode cX7_seat 2 = .ok (.invokevirtual 108, 3) := by decide +kernel
theorem dX7_seat_5 : decode cX7_seat 5 = .ok (.ifCond .ne 5, 3) := by decide +kernel
theorem dX7_seat_8 : decode cX7_seat 8 = .ok (.iconst (-1), 1) := by decide +kernel
theorem dX7_seat_9 : decode cX7_seat 9 = .ok (.ireturn, 1) := by decide +kernel
theorem dX7_seat_10 : decode cX7_seat 10 = .ok (.iconst 0, 1) := by decide +kernel
theorem dX7_seat_11 : decode cX7_seat 11 = .ok (.istore_n 2, 1) := by decide +kernel
theorem dX7_seat_12 : decode cX7_seat 12 = .ok (.iload_n 2, 1) := by decide +kernel
theorem dX7_seat_13 : decode cX7_seat 13 = .ok (.aload_n 0, 1) := by decide +kernel
theorem dX7_seat_14 : decode cX7_seat 14 = .ok (.getfield 26, 3) := by decide +kernel
theorem dX7_seat_17 : decode cX7_seat 17 = .ok (.iconst 0, 1) := by decide +kernel
theorem dX7_seat_18 : decode cX7_seat 18 = .ok (.iaload, 1) := by decide +kernel
theorem dX7_seat_19 : decode cX7_seat 19 = .ok (.if_icmp .ge 22, 3) := by decide +kernel
theorem dX7_seat_22 : decode cX7_seat 22 = .ok (.aload_n 0, 1) := by decide +kernel
theorem dX7_seat_23 : decode cX7_seat 23 = .ok (.getfield 29, 3) := by decide +kernel
theorem dX7_seat_26 : decode cX7_seat 26 = .ok (.iload_n 2, 1) := by decide +kernel
theorem dX7_seat_27 : decode cX7_seat 27 = .ok (.iaload, 1) := by decide +kernel
theorem dX7_seat_28 : decode cX7_seat 28 = .ok (.iload_n 1, 1) := by decide +kernel
theorem dX7_seat_29 : decode cX7_seat 29 = .ok (.if_icmp .ne 6, 3) := by decide +kernel
theorem dX7_seat_32 : decode cX7_seat 32 = .ok (.bipush (-2), 2) := by decide +kernel
theorem dX7_seat_34 : decode cX7_seat 34 = .ok (.ireturn, 1) := by decide +kernel
theorem dX7_seat_35 : decode cX7_seat 35 = .ok (.iinc 2 1, 3) := by decide +kernel
theorem dX7_seat_38 : decode cX7_seat 38 = .ok (.goto (-26), 3) := by decide +kernel
theorem dX7_seat_41 : decode cX7_seat 41 = .ok (.aload_n 0, 1) := by decide +kernel
theorem dX7_seat_42 : decode cX7_seat 42 = .ok (.getfield 29, 3) := by decide +kernel
theorem dX7_seat_45 : decode cX7_seat 45 = .ok (.aload_n 0, 1) := by decide +kernel
theorem dX7_seat_46 : decode cX7_seat 46 = .ok (.getfield 26, 3) := by decide +kernel
theorem dX7_seat_49 : decode cX7_seat 49 = .ok (.iconst 0, 1) := by decide +kernel
theorem dX7_seat_50 : decode cX7_seat 50 = .ok (.iaload, 1) := by decide +kernel
theorem dX7_seat_51 : decode cX7_seat 51 = .ok (.iload_n 1, 1) := by decide +kernel
theorem dX7_seat_52 : decode cX7_seat 52 = .ok (.iastore, 1) := by decide +kernel
theorem dX7_seat_53 : decode cX7_seat 53 = .ok (.aload_n 0, 1) := by decide +kernel
theorem dX7_seat_54 : decode cX7_seat 54 = .ok (.getfield 26, 3) := by decide +kernel
theorem dX7_seat_57 : decode cX7_seat 57 = .ok (.iconst 0, 1) := by decide +kernel
theorem dX7_seat_58 : decode cX7_seat 58 = .ok (.dup2, 1) := by decide +kernel
theorem dX7_seat_59 : decode cX7_seat 59 = .ok (.iaload, 1) := by decide +kernel
theorem dX7_seat_60 : decode cX7_seat 60 = .ok (.iconst 1, 1) := by decide +kernel
theorem dX7_seat_61 : decode cX7_seat 61 = .ok (.iadd, 1) := by decide +kernel
theorem dX7_seat_62 : decode cX7_seat 62 = .ok (.iastore, 1) := by decide +kernel
theorem dX7_seat_63 : decode cX7_seat 63 = .ok (.aload_n 0, 1) := by decide +kernel
theorem dX7_seat_64 : decode cX7_seat 64 = .ok (.iload_n 1, 1) := by decide +kernel
theorem dX7_seat_65 : decode cX7_seat 65 = .ok (.invokevirtual 122, 3) := by decide +kernel
theorem dX7_seat_68 : decode cX7_seat 68 = .ok (.aload_n 0, 1) := by decide +kernel
theorem dX7_seat_69 : decode cX7_seat 69 = .ok (.getfield 26, 3) := by decide +kernel
theorem dX7_seat_72 : decode cX7_seat 72 = .ok (.iconst 0, 1) := by decide +kernel
theorem dX7_seat_73 : decode cX7_seat 73 = .ok (.iaload, 1) := by decide +kernel
theorem dX7_seat_74 : decode cX7_seat 74 = .ok (.ireturn, 1) := by decide +kernel
theorem dX7_unseat_0 : decode cX7_unseat 0 = .ok (.aload_n 0, 1) := by decide +kernel
theorem dX7_unseat_1 : decode cX7_unseat 1 = .ok (.getfield 26, 3) := by decide +kernel
theorem dX7_unseat_4 : decode cX7_unseat 4 = .ok (.iconst 0, 1) := by decide +kernel
theorem dX7_unseat_5 : decode cX7_unseat 5 = .ok (.iaload, 1) := by decide +kernel
theorem dX7_unseat_6 : decode cX7_unseat 6 = .ok (.ifCond .ne 6, 3) := by decide +kernel
theorem dX7_unseat_9 : decode cX7_unseat 9 = .ok (.bipush (-2), 2) := by decide +kernel
theorem dX7_unseat_11 : decode cX7_unseat 11 = .ok (.ireturn, 1) := by decide +kernel
theorem dX7_unseat_12 : decode cX7_unseat 12 = .ok (.aload_n 0, 1) := by decide +kernel
theorem dX7_unseat_13 : decode cX7_unseat 13 = .ok (.getfield 26, 3) := by decide +kernel
theorem dX7_unseat_16 : decode cX7_unseat 16 = .ok (.iconst 0, 1) := by decide +kernel
theorem dX7_unseat_17 : decode cX7_unseat 17 = .ok (.dup2, 1) := by decide +kernel
theorem dX7_unseat_18 : decode cX7_unseat 18 = .ok (.iaload, 1) := by decide +kernel
theorem dX7_unseat_19 : decode cX7_unseat 19 = .ok (.iconst 1, 1) := by decide +kernel
theorem dX7_unseat_20 : decode cX7_unseat 20 = .ok (.isub, 1) := by decide +kernel
theorem dX7_unseat_21 : decode cX7_unseat 21 = .ok (.iastore, 1) := by decide +kernel
theorem dX7_unseat_22 : decode cX7_unseat 22 = .ok (.aload_n 0, 1) := by decide +kernel
theorem dX7_unseat_23 : decode cX7_unseat 23 = .ok (.bipush 10, 2) := by decide +kernel
theorem dX7_unseat_25 : decode cX7_unseat 25 = .ok (.aload_n 0, 1) := by decide +kernel
theorem dX7_unseat_26 : decode cX7_unseat 26 = .ok (.getfield 29, 3) := by decide +kernel
theorem dX7_unseat_29 : decode cX7_unseat 29 = .ok (.aload_n 0, 1) := by decide +kernel
theorem dX7_unseat_30 : decode cX7_unseat 30 = .ok (.getfield 26, 3) := by decide +kernel
theorem dX7_unseat_33 : decode cX7_unseat 33 = .ok (.iconst 0, 1) := by decide +kernel
theorem dX7_unseat_34 : decode cX7_unseat 34 = .ok (.iaload, 1) := by decide +kernel
theorem dX7_unseat_35 : decode cX7_unseat 35 = .ok (.iaload, 1) := by decide +kernel
theorem dX7_unseat_36 : decode cX7_unseat 36 = .ok (.iadd, 1) := by decide +kernel
theorem dX7_unseat_37 : decode cX7_unseat 37 = .ok (.invokevirtual 122, 3) := by decide +kernel
theorem dX7_unseat_40 : decode cX7_unseat 40 = .ok (.aload_n 0, 1) := by decide +kernel
theorem dX7_unseat_41 : decode cX7_unseat 41 = .ok (.getfield 29, 3) := by decide +kernel
theorem dX7_unseat_44 : decode cX7_unseat 44 = .ok (.aload_n 0, 1) := by decide +kernel
theorem dX7_unseat_45 : decode cX7_unseat 45 = .ok (.getfield 26, 3) := by decide +kernel
theorem dX7_unseat_48 : decode cX7_unseat 48 = .ok (.iconst 0, 1) := by decide +kernel
theorem dX7_unseat_49 : decode cX7_unseat 49 = .ok (.iaload, 1) := by decide +kernel
theorem dX7_unseat_50 : decode cX7_unseat 50 = .ok (.iaload, 1) := by decide +kernel
theorem dX7_unseat_51 : decode cX7_unseat 51 = .ok (.ireturn, 1) := by decide +kernel
theorem dX7_undo_0 : decode cX7_undo 0 = .ok (.aload_n 0, 1) := by decide +kernel
theorem dX7_undo_1 : decode cX7_undo 1 = .ok (.getfield 93, 3) := by decide +kernel
theorem dX7_undo_4 : decode cX7_undo 4 = .ok (.ifCond .ne 6, 3) := by decide +kernel
theorem dX7_undo_7 : decode cX7_undo 7 = .ok (.bipush (-2), 2) := by decide +kernel
theorem dX7_undo_9 : decode cX7_undo 9 = .ok (.ireturn, 1) := by decide +kernel
theorem dX7_undo_10 : decode cX7_undo 10 = .ok (.aload_n 0, 1) := by decide +kernel
theorem dX7_undo_11 : decode cX7_undo 11 = .ok (.dup, 1) := by decide +kernel
theorem dX7_undo_12 : decode cX7_undo 12 = .ok (.getfield 93, 3) := by decide +kernel
theorem dX7_undo_15 : decode cX7_undo 15 = .ok (.iconst 1, 1) := by decide +kernel
theorem dX7_undo_16 : decode cX7_undo 16 = .ok (.isub, 1) := by decide +kernel
theorem dX7_undo_17 : decode cX7_undo 17 = .ok (.putfield 93, 3) := by decide +kernel
theorem dX7_undo_20 : decode cX7_undo 20 = .ok (.aload_n 0, 1) := by decide +kernel
theorem dX7_undo_21 : decode cX7_undo 21 = .ok (.getfield 38, 3) := by decide +kernel
theorem dX7_undo_24 : decode cX7_undo 24 = .ok (.aload_n 0, 1) := by decide +kernel
theorem dX7_undo_25 : decode cX7_undo 25 = .ok (.getfield 93, 3) := by decide +kernel
theorem dX7_undo_28 : decode cX7_undo 28 = .ok (.iaload, 1) := by decide +kernel
theorem dX7_undo_29 : decode cX7_undo 29 = .ok (.bipush 10, 2) := by decide +kernel
theorem dX7_undo_31 : decode cX7_undo 31 = .ok (.if_icmp .ge 16, 3) := by decide +kernel
theorem dX7_undo_34 : decode cX7_undo 34 = .ok (.aload_n 0, 1) := by decide +kernel
theorem dX7_undo_35 : decode cX7_undo 35 = .ok (.getfield 26, 3) := by decide +kernel
theorem dX7_undo_38 : decode cX7_undo 38 = .ok (.iconst 0, 1) := by decide +kernel
theorem dX7_undo_39 : decode cX7_undo 39 = .ok (.dup2, 1) := by decide +kernel
theorem dX7_undo_40 : decode cX7_undo 40 = .ok (.iaload, 1) := by decide +kernel
theorem dX7_undo_41 : decode cX7_undo 41 = .ok (.iconst 1, 1) := by decide +kernel
theorem dX7_undo_42 : decode cX7_undo 42 = .ok (.isub, 1) := by decide +kernel
theorem dX7_undo_43 : decode cX7_undo 43 = .ok (.iastore, 1) := by decide +kernel
theorem dX7_undo_44 : decode cX7_undo 44 = .ok (.goto 36, 3) := by decide +kernel
theorem dX7_undo_47 : decode cX7_undo 47 = .ok (.aload_n 0, 1) := by decide +kernel
theorem dX7_undo_48 : decode cX7_undo 48 = .ok (.getfield 29, 3) := by decide +kernel
theorem dX7_undo_51 : decode cX7_undo 51 = .ok (.aload_n 0, 1) := by decide +kernel
theorem dX7_undo_52 : decode cX7_undo 52 = .ok (.getfield 26, 3) := by decide +kernel
theorem dX7_undo_55 : decode cX7_undo 55 = .ok (.iconst 0, 1) := by decide +kernel
theorem dX7_undo_56 : decode cX7_undo 56 = .ok (.iaload, 1) := by decide +kernel
theorem dX7_undo_57 : decode cX7_undo 57 = .ok (.aload_n 0, 1) := by decide +kernel
theorem dX7_undo_58 : decode cX7_undo 58 = .ok (.getfield 38, 3) := by decide +kernel
theorem dX7_undo_61 : decode cX7_undo 61 = .ok (.aload_n 0, 1) := by decide +kernel
theorem dX7_undo_62 : decode cX7_undo 62 = .ok (.getfield 93, 3) := by decide +kernel
theorem dX7_undo_65 : decode cX7_undo 65 = .ok (.iaload, 1) := by decide +kernel
theorem dX7_undo_66 : decode cX7_undo 66 = .ok (.bipush 10, 2) := by decide +kernel
theorem dX7_undo_68 : decode cX7_undo 68 = .ok (.isub, 1) := by decide +kernel
theorem dX7_undo_69 : decode cX7_undo 69 = .ok (.iastore, 1) := by decide +kernel
theorem dX7_undo_70 : decode cX7_undo 70 = .ok (.aload_n 0, 1) := by decide +kernel
theorem dX7_undo_71 : decode cX7_undo 71 = .ok (.getfield 26, 3) := by decide +kernel
theorem dX7_undo_74 : decode cX7_undo 74 = .ok (.iconst 0, 1) := by decide +kernel
theorem dX7_undo_75 : decode cX7_undo 75 = .ok (.dup2, 1) := by decide +kernel
theorem dX7_undo_76 : decode cX7_undo 76 = .ok (.iaload, 1) := by decide +kernel
theorem dX7_undo_77 : decode cX7_undo 77 = .ok (.iconst 1, 1) := by decide +kernel
theorem dX7_undo_78 : decode cX7_undo 78 = .ok (.iadd, 1) := by decide +kernel
theorem dX7_undo_79 : decode cX7_undo 79 = .ok (.iastore, 1) := by decide +kernel
theorem dX7_undo_80 : decode cX7_undo 80 = .ok (.aload_n 0, 1) := by decide +kernel
theorem dX7_undo_81 : decode cX7_undo 81 = .ok (.getfield 93, 3) := by decide +kernel
theorem dX7_undo_84 : decode cX7_undo 84 = .ok (.ireturn, 1) := by decide +kernel
theorem dX7_chain_0 : decode cX7_chain 0 = .ok (.iload_n 1, 1) := by decide +kernel
theorem dX7_chain_1 : decode cX7_chain 1 = .ok (.ifCond .ge 7, 3) := by decide +kernel
theorem dX7_chain_4 : decode cX7_chain 4 = .ok (.iconst (-1), 1) := by decide +kernel
theorem dX7_chain_5 : decode cX7_chain 5 = .ok (.goto 24, 3) := by decide +kernel
theorem dX7_chain_8 : decode cX7_chain 8 = .ok (.iload_n 1, 1) := by decide +kernel
theorem dX7_chain_9 : decode cX7_chain 9 = .ok (.aload_n 0, 1) := by decide +kernel
theorem dX7_chain_10 : decode cX7_chain 10 = .ok (.getfield 26, 3) := by decide +kernel
theorem dX7_chain_13 : decode cX7_chain 13 = .ok (.iconst 0, 1) := by decide +kernel
theorem dX7_chain_14 : decode cX7_chain 14 = .ok (.iaload, 1) := by decide +kernel
theorem dX7_chain_15 : decode cX7_chain 15 = .ok (.if_icmp .ge 12, 3) := by decide +kernel
theorem dX7_chain_18 : decode cX7_chain 18 = .ok (.aload_n 0, 1) := by decide +kernel
theorem dX7_chain_19 : decode cX7_chain 19 = .ok (.getfield 29, 3) := by decide +kernel
theorem dX7_chain_22 : decode cX7_chain 22 = .ok (.iload_n 1, 1) := by decide +kernel
theorem dX7_chain_23 : decode cX7_chain 23 = .ok (.iaload, 1) := by decide +kernel
theorem dX7_chain_24 : decode cX7_chain 24 = .ok (.goto 5, 3) := by decide +kernel
theorem dX7_chain_27 : decode cX7_chain 27 = .ok (.bipush (-4), 2) := by decide +kernel
theorem dX7_chain_29 : decode cX7_chain 29 = .ok (.ireturn, 1) := by decide +kernel
theorem dX7_speaks_0 : decode cX7_speaks 0 = .ok (.aload_n 0, 1) := by decide +kernel
theorem dX7_speaks_1 : decode cX7_speaks 1 = .ok (.getfield 20, 3) := by decide +kernel
theorem dX7_speaks_4 : decode cX7_speaks 4 = .ok (.iconst 5, 1) := by decide +kernel
theorem dX7_speaks_5 : decode cX7_speaks 5 = .ok (.iload_n 1, 1) := by decide +kernel
theorem dX7_speaks_6 : decode cX7_speaks 6 = .ok (.imul, 1) := by decide +kernel
theorem dX7_speaks_7 : decode cX7_speaks 7 = .ok (.iaload, 1) := by decide +kernel
theorem dX7_speaks_8 : decode cX7_speaks 8 = .ok (.iload_n 2, 1) := by decide +kernel
theorem dX7_speaks_9 : decode cX7_speaks 9 = .ok (.if_icmp .ne 16, 3) := by decide +kernel
theorem dX7_speaks_12 : decode cX7_speaks 12 = .ok (.aload_n 0, 1) := by decide +kernel
theorem dX7_speaks_13 : decode cX7_speaks 13 = .ok (.getfield 20, 3) := by decide +kernel
theorem dX7_speaks_16 : decode cX7_speaks 16 = .ok (.iconst 5, 1) := by decide +kernel
theorem dX7_speaks_17 : decode cX7_speaks 17 = .ok (.iload_n 1, 1) := by decide +kernel
theorem dX7_speaks_18 : decode cX7_speaks 18 = .ok (.imul, 1) := by decide +kernel
theorem dX7_speaks_19 : decode cX7_speaks 19 = .ok (.iconst 1, 1) := by decide +kernel
theorem dX7_speaks_20 : decode cX7_speaks 20 = .ok (.iadd, 1) := by decide +kernel
theorem dX7_speaks_21 : decode cX7_speaks 21 = .ok (.iaload, 1) := by decide +kernel
theorem dX7_speaks_22 : decode cX7_speaks 22 = .ok (.goto 29, 3) := by decide +kernel
theorem dX7_speaks_25 : decode cX7_speaks 25 = .ok (.aload_n 0, 1) := by decide +kernel
theorem dX7_speaks_26 : decode cX7_speaks 26 = .ok (.getfield 20, 3) := by decide +kernel
theorem dX7_speaks_29 : decode cX7_speaks 29 = .ok (.iconst 5, 1) := by decide +kernel
theorem dX7_speaks_30 : decode cX7_speaks 30 = .ok (.iload_n 1, 1) := by decide +kernel
theorem dX7_speaks_31 : decode cX7_speaks 31 = .ok (.imul, 1) := by decide +kernel
theorem dX7_speaks_32 : decode cX7_speaks 32 = .ok (.iconst 1, 1) := by decide +kernel
theorem dX7_speaks_33 : decode cX7_speaks 33 = .ok (.iadd, 1) := by decide +kernel
theorem dX7_speaks_34 : decode cX7_speaks 34 = .ok (.iaload, 1) := by decide +kernel
theorem dX7_speaks_35 : decode cX7_speaks 35 = .ok (.iload_n 2, 1) := by decide +kernel
theorem dX7_speaks_36 : decode cX7_speaks 36 = .ok (.if_icmp .ne 14, 3) := by decide +kernel
theorem dX7_speaks_39 : decode cX7_speaks 39 = .ok (.aload_n 0, 1) := by decide +kernel
theorem dX7_speaks_40 : decode cX7_speaks 40 = .ok (.getfield 20, 3) := by decide +kernel
theorem dX7_speaks_43 : decode cX7_speaks 43 = .ok (.iconst 5, 1) := by decide +kernel
theorem dX7_speaks_44 : decode cX7_speaks 44 = .ok (.iload_n 1, 1) := by decide +kernel
theorem dX7_speaks_45 : decode cX7_speaks 45 = .ok (.imul, 1) := by decide +kernel
theorem dX7_speaks_46 : decode cX7_speaks 46 = .ok (.iaload, 1) := by decide +kernel
theorem dX7_speaks_47 : decode cX7_speaks 47 = .ok (.goto 4, 3) := by decide +kernel
theorem dX7_speaks_50 : decode cX7_speaks 50 = .ok (.iconst (-1), 1) := by decide +kernel
theorem dX7_speaks_51 : decode cX7_speaks 51 = .ok (.ireturn, 1) := by decide +kernel
theorem dX7_judged_0 : decode cX7_judged 0 = .ok (.aload_n 0, 1) := by decide +kernel
theorem dX7_judged_1 : decode cX7_judged 1 = .ok (.getfield 13, 3) := by decide +kernel
theorem dX7_judged_4 : decode cX7_judged 4 = .ok (.iconst 0, 1) := by decide +kernel
theorem dX7_judged_5 : decode cX7_judged 5 = .ok (.iaload, 1) := by decide +kernel
theorem dX7_judged_6 : decode cX7_judged 6 = .ok (.istore_n 1, 1) := by decide +kernel
theorem dX7_judged_7 : decode cX7_judged 7 = .ok (.iconst 0, 1) := by decide +kernel
theorem dX7_judged_8 : decode cX7_judged 8 = .ok (.istore_n 2, 1) := by decide +kernel
theorem dX7_judged_9 : decode cX7_judged 9 = .ok (.iload_n 2, 1) := by decide +kernel
theorem dX7_judged_10 : decode cX7_judged 10 = .ok (.aload_n 0, 1) := by decide +kernel
theorem dX7_judged_11 : decode cX7_judged 11 = .ok (.getfield 26, 3) := by decide +kernel
theorem dX7_judged_14 : decode cX7_judged 14 = .ok (.iconst 0, 1) := by decide +kernel
theorem dX7_judged_15 : decode cX7_judged 15 = .ok (.iaload, 1) := by decide +kernel
theorem dX7_judged_16 : decode cX7_judged 16 = .ok (.if_icmp .ge 27, 3) := by decide +kernel
theorem dX7_judged_19 : decode cX7_judged 19 = .ok (.aload_n 0, 1) := by decide +kernel
theorem dX7_judged_20 : decode cX7_judged 20 = .ok (.aload_n 0, 1) := by decide +kernel
theorem dX7_judged_21 : decode cX7_judged 21 = .ok (.getfield 29, 3) := by decide +kernel
theorem dX7_judged_24 : decode cX7_judged 24 = .ok (.iload_n 2, 1) := by decide +kernel
theorem dX7_judged_25 : decode cX7_judged 25 = .ok (.iaload, 1) := by decide +kernel
theorem dX7_judged_26 : decode cX7_judged 26 = .ok (.iload_n 1, 1) := by decide +kernel
theorem dX7_judged_27 : decode cX7_judged 27 = .ok (.invokevirtual 126, 3) := by decide +kernel
theorem dX7_judged_30 : decode cX7_judged 30 = .ok (.istore_n 1, 1) := by decide +kernel
theorem dX7_judged_31 : decode cX7_judged 31 = .ok (.iload_n 1, 1) := by decide +kernel
theorem dX7_judged_32 : decode cX7_judged 32 = .ok (.ifCond .ge 5, 3) := by decide +kernel
theorem dX7_judged_35 : decode cX7_judged 35 = .ok (.iload_n 2, 1) := by decide +kernel
theorem dX7_judged_36 : decode cX7_judged 36 = .ok (.ireturn, 1) := by decide +kernel
theorem dX7_judged_37 : decode cX7_judged 37 = .ok (.iinc 2 1, 3) := by decide +kernel
theorem dX7_judged_40 : decode cX7_judged 40 = .ok (.goto (-31), 3) := by decide +kernel
theorem dX7_judged_43 : decode cX7_judged 43 = .ok (.iload_n 1, 1) := by decide +kernel
theorem dX7_judged_44 : decode cX7_judged 44 = .ok (.aload_n 0, 1) := by decide +kernel
theorem dX7_judged_45 : decode cX7_judged 45 = .ok (.getfield 13, 3) := by decide +kernel
theorem dX7_judged_48 : decode cX7_judged 48 = .ok (.iconst 1, 1) := by decide +kernel
theorem dX7_judged_49 : decode cX7_judged 49 = .ok (.iaload, 1) := by decide +kernel
theorem dX7_judged_50 : decode cX7_judged 50 = .ok (.if_icmp .ne 8, 3) := by decide +kernel
theorem dX7_judged_53 : decode cX7_judged 53 = .ok (.bipush (-4), 2) := by decide +kernel
theorem dX7_judged_55 : decode cX7_judged 55 = .ok (.goto 9, 3) := by decide +kernel
theorem dX7_judged_58 : decode cX7_judged 58 = .ok (.aload_n 0, 1) := by decide +kernel
theorem dX7_judged_59 : decode cX7_judged 59 = .ok (.getfield 26, 3) := by decide +kernel
theorem dX7_judged_62 : decode cX7_judged 62 = .ok (.iconst 0, 1) := by decide +kernel
theorem dX7_judged_63 : decode cX7_judged 63 = .ok (.iaload, 1) := by decide +kernel
theorem dX7_judged_64 : decode cX7_judged 64 = .ok (.ireturn, 1) := by decide +kernel
theorem dX7_word_0 : decode cX7_word 0 = .ok (.iload_n 1, 1) := by decide +kernel
theorem dX7_word_1 : decode cX7_word 1 = .ok (.invokestatic 115, 3) := by decide +kernel
theorem dX7_word_4 : decode cX7_word 4 = .ok (.ifCond .ne 5, 3) := by decide +kernel
theorem dX7_word_7 : decode cX7_word 7 = .ok (.iconst (-1), 1) := by decide +kernel
theorem dX7_word_8 : decode cX7_word 8 = .ok (.ireturn, 1) := by decide +kernel
theorem dX7_word_9 : decode cX7_word 9 = .ok (.aload_n 0, 1) := by decide +kernel
theorem dX7_word_10 : decode cX7_word 10 = .ok (.getfield 32, 3) := by decide +kernel
theorem dX7_word_13 : decode cX7_word 13 = .ok (.iconst 0, 1) := by decide +kernel
theorem dX7_word_14 : decode cX7_word 14 = .ok (.iaload, 1) := by decide +kernel
theorem dX7_word_15 : decode cX7_word 15 = .ok (.bipush 12, 2) := by decide +kernel
