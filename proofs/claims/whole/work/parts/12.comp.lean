theorem wm_259 : (.methodLink RX3 79 yX1_raiseLeast : Cond) ∈ wsG := wG_of 449 (by decide +kernel) (by decide +kernel)
theorem wm_260 : (.methodLink RX3 83 yX1_lowerGreatest : Cond) ∈ wsG := wG_of 450 (by decide +kernel) (by decide +kernel)
theorem wm_261 : (.fieldLink RX3 70 "RangeDesk$Num" "least" "J" : Cond) ∈ wsG := wG_of 105 (by decide +kernel) (by decide +kernel)
theorem wm_262 : (.constantLong RX3 74 (-1) : Cond) ∈ wsG := wG_of 447 (by decide +kernel) (by decide +kernel)
theorem wm_263 : (.fieldLink RX3 76 "RangeDesk$Num" "greatest" "J" : Cond) ∈ wsG := wG_of 109 (by decide +kernel) (by decide +kernel)
theorem wm_264 : (.methodLink RX3 98 yX1_raiseSignedLeast : Cond) ∈ wsG := wG_of 451 (by decide +kernel) (by decide +kernel)
theorem wm_265 : (.methodLink RX3 101 yX1_lowerSignedGreatest : Cond) ∈ wsG := wG_of 452 (by decide +kernel) (by decide +kernel)
theorem wm_266 : (.fieldLink RX3 86 "RangeDesk$Num" "signedLeast" "J" : Cond) ∈ wsG := wG_of 113 (by decide +kernel) (by decide +kernel)
theorem wm_267 : (.constantLong RX3 91 9223372036854775807 : Cond) ∈ wsG := wG_of 490 (by decide +kernel) (by decide +kernel)
theorem wm_268 : (.fieldLink RX3 93 "RangeDesk$Num" "signedGreatest" "J" : Cond) ∈ wsG := wG_of 117 (by decide +kernel) (by decide +kernel)
theorem wm_269 : (.constantLong RX3 96 (-9223372036854775808) : Cond) ∈ wsG := wG_of 491 (by decide +kernel) (by decide +kernel)
theorem wm_270 : (.methodLink RX3 110 yX1_setBits : Cond) ∈ wsG := wG_of 448 (by decide +kernel) (by decide +kernel)
theorem wm_271 : (.methodLink RX3 21 yX1_become : Cond) ∈ wsG := wG_of 423 (by decide +kernel) (by decide +kernel)
theorem wm_272 : (.fieldLink RX3 104 "RangeDesk$Num" "value" "J" : Cond) ∈ wsG := wG_of 98 (by decide +kernel) (by decide +kernel)
theorem wm_273 : (.fieldLink RX3 107 "RangeDesk$Num" "mask" "J" : Cond) ∈ wsG := wG_of 102 (by decide +kernel) (by decide +kernel)
theorem wm_274 : (.methodLink RX3 114 yX1_isExact : Cond) ∈ wsG := wG_of 467 (by decide +kernel) (by decide +kernel)
theorem wm_275 : (.code yJL_bitCount cJL_bitCount 2 (some .int) : Cond) ∈ wsG := wG_of 470 (by decide +kernel) (by decide +kernel)
theorem wm_276 : (.methodLink RX3 135 yJL_bitCount : Cond) ∈ wsG := wG_of 468 (by decide +kernel) (by decide +kernel)
theorem wm_277 : (.static yJL_bitCount : Cond) ∈ wsG := wG_of 469 (by decide +kernel) (by decide +kernel)
theorem wm_278 : (.code yX3_isSigned cX3_isSigned 1 (some .boolean) : Cond) ∈ wsG := wG_of 430 (by decide +kernel) (by decide +kernel)
theorem wm_279 : (.methodLink RX3 29 yX3_isSigned : Cond) ∈ wsG := wG_of 428 (by decide +kernel) (by decide +kernel)
theorem wm_280 : (.static yX3_isSigned : Cond) ∈ wsG := wG_of 429 (by decide +kernel) (by decide +kernel)
theorem wm_281 : (.constantLong RX3 141 4294967295 : Cond) ∈ wsG := wG_of 432 (by decide +kernel) (by decide +kernel)
theorem wm_282 : (.constantLong RX3 139 2147483647 : Cond) ∈ wsG := wG_of 431 (by decide +kernel) (by decide +kernel)
theorem wm_283 : (.code yX1_exclude cX1_exclude 3 (some .boolean) : Cond) ∈ wsG := wG_of 485 (by decide +kernel) (by decide +kernel)
theorem wm_284 : (.methodLink RX3 117 yX1_exclude : Cond) ∈ wsG := wG_of 482 (by decide +kernel) (by decide +kernel)
theorem wm_285 : (.instanceMethod yX1_exclude : Cond) ∈ wsG := wG_of 483 (by decide +kernel) (by decide +kernel)
theorem wm_286 : (.selects RX1 yX1_exclude yX1_exclude : Cond) ∈ wsG := wG_of 484 (by decide +kernel) (by decide +kernel)
theorem wm_287 : (.methodLink RX3 121 yX1_mayBeOne : Cond) ∈ wsG := wG_of 463 (by decide +kernel) (by decide +kernel)
theorem wm_288 : (.code yX3_isOneBit cX3_isOneBit 1 (some .boolean) : Cond) ∈ wsG := wG_of 466 (by decide +kernel) (by decide +kernel)
theorem wm_289 : (.methodLink RX3 125 yX3_isOneBit : Cond) ∈ wsG := wG_of 464 (by decide +kernel) (by decide +kernel)
theorem wm_290 : (.static yX3_isOneBit : Cond) ∈ wsG := wG_of 465 (by decide +kernel) (by decide +kernel)
theorem wm_291 : (.code yX1_learnOnes cX1_learnOnes 3 none : Cond) ∈ wsG := wG_of 477 (by decide +kernel) (by decide +kernel)
theorem wm_292 : (.methodLink RX3 129 yX1_learnOnes : Cond) ∈ wsG := wG_of 474 (by decide +kernel) (by decide +kernel)
theorem wm_293 : (.instanceMethod yX1_learnOnes : Cond) ∈ wsG := wG_of 475 (by decide +kernel) (by decide +kernel)
theorem wm_294 : (.selects RX1 yX1_learnOnes yX1_learnOnes : Cond) ∈ wsG := wG_of 476 (by decide +kernel) (by decide +kernel)
theorem wm_295 : (.code yX1_learnZeros cX1_learnZeros 3 none : Cond) ∈ wsG := wG_of 502 (by decide +kernel) (by decide +kernel)
theorem wm_296 : (.methodLink RX3 132 yX1_learnZeros : Cond) ∈ wsG := wG_of 499 (by decide +kernel) (by decide +kernel)
theorem wm_297 : (.instanceMethod yX1_learnZeros : Cond) ∈ wsG := wG_of 500 (by decide +kernel) (by decide +kernel)
theorem wm_298 : (.selects RX1 yX1_learnZeros yX1_learnZeros : Cond) ∈ wsG := wG_of 501 (by decide +kernel) (by decide +kernel)
theorem wm_299 : (.code yX3_same cX3_same 1 (some .boolean) : Cond) ∈ wsG := wG_of 446 (by decide +kernel) (by decide +kernel)
theorem wm_300 : (.methodLink RX3 45 yX3_same : Cond) ∈ wsG := wG_of 443 (by decide +kernel) (by decide +kernel)
theorem wm_301 : (.instanceMethod yX3_same : Cond) ∈ wsG := wG_of 445 (by decide +kernel) (by decide +kernel)
theorem wm_302 : (.selects RX3 yX3_same yX3_same : Cond) ∈ wsG := wG_of 25 (by decide +kernel) (by decide +kernel)
theorem wm_303 : (.code yX3_above cX3_above 2 (some .boolean) : Cond) ∈ wsG := wG_of 455 (by decide +kernel) (by decide +kernel)
theorem wm_304 : (.methodLink RX3 48 yX3_above : Cond) ∈ wsG := wG_of 453 (by decide +kernel) (by decide +kernel)
theorem wm_305 : (.static yX3_above : Cond) ∈ wsG := wG_of 454 (by decide +kernel) (by decide +kernel)
theorem wm_306 : (.code yX3_notBelow cX3_notBelow 2 (some .boolean) : Cond) ∈ wsG := wG_of 458 (by decide +kernel) (by decide +kernel)
theorem wm_307 : (.methodLink RX3 52 yX3_notBelow : Cond) ∈ wsG := wG_of 456 (by decide +kernel) (by decide +kernel)
theorem wm_308 : (.static yX3_notBelow : Cond) ∈ wsG := wG_of 457 (by decide +kernel) (by decide +kernel)
theorem wm_309 : (.code yX3_meet cX3_meet 4 (some .boolean) : Cond) ∈ wsG := wG_of 462 (by decide +kernel) (by decide +kernel)
theorem wm_310 : (.methodLink RX3 55 yX3_meet : Cond) ∈ wsG := wG_of 459 (by decide +kernel) (by decide +kernel)
theorem wm_311 : (.instanceMethod yX3_meet : Cond) ∈ wsG := wG_of 461 (by decide +kernel) (by decide +kernel)
theorem wm_312 : (.selects RX3 yX3_meet yX3_meet : Cond) ∈ wsG := wG_of 26 (by decide +kernel) (by decide +kernel)
theorem wm_313 : (.code yX3_notSame cX3_notSame 4 (some .boolean) : Cond) ∈ wsG := wG_of 481 (by decide +kernel) (by decide +kernel)
theorem wm_314 : (.methodLink RX3 58 yX3_notSame : Cond) ∈ wsG := wG_of 478 (by decide +kernel) (by decide +kernel)
theorem wm_315 : (.instanceMethod yX3_notSame : Cond) ∈ wsG := wG_of 480 (by decide +kernel) (by decide +kernel)
theorem wm_316 : (.selects RX3 yX3_notSame yX3_notSame : Cond) ∈ wsG := wG_of 27 (by decide +kernel) (by decide +kernel)
theorem wm_317 : (.code yX3_greater cX3_greater 2 (some .boolean) : Cond) ∈ wsG := wG_of 489 (by decide +kernel) (by decide +kernel)
theorem wm_318 : (.methodLink RX3 61 yX3_greater : Cond) ∈ wsG := wG_of 487 (by decide +kernel) (by decide +kernel)
theorem wm_319 : (.static yX3_greater : Cond) ∈ wsG := wG_of 488 (by decide +kernel) (by decide +kernel)
theorem wm_320 : (.code yX3_notLess cX3_notLess 2 (some .boolean) : Cond) ∈ wsG := wG_of 494 (by decide +kernel) (by decide +kernel)
theorem wm_321 : (.methodLink RX3 64 yX3_notLess : Cond) ∈ wsG := wG_of 492 (by decide +kernel) (by decide +kernel)
theorem wm_322 : (.static yX3_notLess : Cond) ∈ wsG := wG_of 493 (by decide +kernel) (by decide +kernel)
theorem wm_323 : (.code yX3_notMeet cX3_notMeet 4 (some .boolean) : Cond) ∈ wsG := wG_of 498 (by decide +kernel) (by decide +kernel)
theorem wm_324 : (.methodLink RX3 67 yX3_notMeet : Cond) ∈ wsG := wG_of 495 (by decide +kernel) (by decide +kernel)
theorem wm_325 : (.instanceMethod yX3_notMeet : Cond) ∈ wsG := wG_of 497 (by decide +kernel) (by decide +kernel)
theorem wm_326 : (.selects RX3 yX3_notMeet yX3_notMeet : Cond) ∈ wsG := wG_of 28 (by decide +kernel) (by decide +kernel)
theorem wm_327 : (.code yX3_apply cX3_apply 2 (some .boolean) : Cond) ∈ wsG := wG_of 442 (by decide +kernel) (by decide +kernel)
theorem wm_328 : (.methodLink RX3 38 yX3_apply : Cond) ∈ wsG := wG_of 439 (by decide +kernel) (by decide +kernel)
theorem wm_329 : (.instanceMethod yX3_apply : Cond) ∈ wsG := wG_of 441 (by decide +kernel) (by decide +kernel)
theorem wm_330 : (.selects RX3 yX3_apply yX3_apply : Cond) ∈ wsG := wG_of 24 (by decide +kernel) (by decide +kernel)
theorem wm_331 : (.methodLink RX3 41 yX1_settle : Cond) ∈ wsG := wG_of 503 (by decide +kernel) (by decide +kernel)
theorem wm_332 : (.code yX3_learn cX3_learn 2 (some .boolean) : Cond) ∈ wsG := wG_of 438 (by decide +kernel) (by decide +kernel)
theorem wm_333 : (.methodLink RX3 35 yX3_learn : Cond) ∈ wsG := wG_of 435 (by decide +kernel) (by decide +kernel)
theorem wm_334 : (.instanceMethod yX3_learn : Cond) ∈ wsG := wG_of 437 (by decide +kernel) (by decide +kernel)
theorem wm_335 : (.selects RX3 yX3_learn yX3_learn : Cond) ∈ wsG := wG_of 23 (by decide +kernel) (by decide +kernel)
theorem wm_336 : (.code yX3_fitsNarrow cX3_fitsNarrow 4 (some .boolean) : Cond) ∈ wsG := wG_of 427 (by decide +kernel) (by decide +kernel)
theorem wm_337 : (.methodLink RX3 25 yX3_fitsNarrow : Cond) ∈ wsG := wG_of 424 (by decide +kernel) (by decide +kernel)
theorem wm_338 : (.instanceMethod yX3_fitsNarrow : Cond) ∈ wsG := wG_of 426 (by decide +kernel) (by decide +kernel)
theorem wm_339 : (.selects RX3 yX3_fitsNarrow yX3_fitsNarrow : Cond) ∈ wsG := wG_of 22 (by decide +kernel) (by decide +kernel)
theorem wm_340 : (.methodLink RX3 32 yX1_narrow : Cond) ∈ wsG := wG_of 434 (by decide +kernel) (by decide +kernel)
theorem dX3_above_0 : decode cX3_above 0 = .ok (.aload_n 1, 1) := by decide +kernel
theorem dX3_above_1 : decode cX3_above 1 = .ok (.getfield 70, 3) := by decide +kernel
theorem dX3_above_4 : decode cX3_above 4 = .ok (.ldc2_w 74, 3) := by decide +kernel
theorem dX3_above_7 : decode cX3_above 7 = .ok (.lcmp, 1) := by decide +kernel
theorem dX3_above_8 : decode cX3_above 8 = .ok (.ifCond .eq 12, 3) := by decide +kernel
theorem dX3_above_11 : decode cX3_above 11 = .ok (.aload_n 0, 1) := by decide +kernel
theorem dX3_above_12 : decode cX3_above 12 = .ok (.getfield 76, 3) := by decide +kernel
theorem dX3_above_15 : decode cX3_above 15 = .ok (.lconst 0, 1) := by decide +kernel
theorem dX3_above_16 : decode cX3_above 16 = .ok (.lcmp, 1) := by decide +kernel
theorem dX3_above_17 : decode cX3_above 17 = .ok (.ifCond .ne 5, 3) := by decide +kernel
theorem dX3_above_20 : decode cX3_above 20 = .ok (.iconst 0, 1) := by decide +kernel
theorem dX3_above_21 : decode cX3_above 21 = .ok (.ireturn, 1) := by decide +kernel
theorem dX3_above_22 : decode cX3_above 22 = .ok (.aload_n 0, 1) := by decide +kernel
theorem dX3_above_23 : decode cX3_above 23 = .ok (.aload_n 1, 1) := by decide +kernel
theorem dX3_above_24 : decode cX3_above 24 = .ok (.getfield 70, 3) := by decide +kernel
theorem dX3_above_27 : decode cX3_above 27 = .ok (.lconst 1, 1) := by decide +kernel
theorem dX3_above_28 : decode cX3_above 28 = .ok (.ladd, 1) := by decide +kernel
theorem dX3_above_29 : decode cX3_above 29 = .ok (.invokevirtual 79, 3) := by decide +kernel
theorem dX3_above_32 : decode cX3_above 32 = .ok (.aload_n 1, 1) := by decide +kernel
theorem dX3_above_33 : decode cX3_above 33 = .ok (.aload_n 0, 1) := by decide +kernel
theorem dX3_above_34 : decode cX3_above 34 = .ok (.getfield 76, 3) := by decide +kernel
theorem dX3_above_37 : decode cX3_above 37 = .ok (.lconst 1, 1) := by decide +kernel
theorem dX3_above_38 : decode cX3_above 38 = .ok (.lsub, 1) := by decide +kernel
theorem dX3_above_39 : decode cX3_above 39 = .ok (.invokevirtual 83, 3) := by decide +kernel
theorem dX3_above_42 : decode cX3_above 42 = .ok (.iconst 1, 1) := by decide +kernel
theorem dX3_above_43 : decode cX3_above 43 = .ok (.ireturn, 1) := by decide +kernel
theorem dX3_notBelow_0 : decode cX3_notBelow 0 = .ok (.aload_n 0, 1) := by decide +kernel
theorem dX3_notBelow_1 : decode cX3_notBelow 1 = .ok (.aload_n 1, 1) := by decide +kernel
theorem dX3_notBelow_2 : decode cX3_notBelow 2 = .ok (.getfield 70, 3) := by decide +kernel
theorem dX3_notBelow_5 : decode cX3_notBelow 5 = .ok (.invokevirtual 79, 3) := by decide +kernel
theorem dX3_notBelow_8 : decode cX3_notBelow 8 = .ok (.aload_n 1, 1) := by decide +kernel
theorem dX3_notBelow_9 : decode cX3_notBelow 9 = .ok (.aload_n 0, 1) := by decide +kernel
theorem dX3_notBelow_10 : decode cX3_notBelow 10 = .ok (.getfield 76, 3) := by decide +kernel
theorem dX3_notBelow_13 : decode cX3_notBelow 13 = .ok (.invokevirtual 83, 3) := by decide +kernel
theorem dX3_notBelow_16 : decode cX3_notBelow 16 = .ok (.iconst 1, 1) := by decide +kernel
theorem dX3_notBelow_17 : decode cX3_notBelow 17 = .ok (.ireturn, 1) := by decide +kernel
theorem dX3_greater_0 : decode cX3_greater 0 = .ok (.aload_n 1, 1) := by decide +kernel
theorem dX3_greater_1 : decode cX3_greater 1 = .ok (.getfield 86, 3) := by decide +kernel
theorem dX3_greater_4 : decode cX3_greater 4 = .ok (.ldc2_w 91, 3) := by decide +kernel
theorem dX3_greater_7 : decode cX3_greater 7 = .ok (.lcmp, 1) := by decide +kernel
theorem dX3_greater_8 : decode cX3_greater 8 = .ok (.ifCond .eq 14, 3) := by decide +kernel
theorem dX3_greater_11 : decode cX3_greater 11 = .ok (.aload_n 0, 1) := by decide +kernel
theorem dX3_greater_12 : decode cX3_greater 12 = .ok (.getfield 93, 3) := by decide +kernel
theorem dX3_greater_15 : decode cX3_greater 15 = .ok (.ldc2_w 96, 3) := by decide +kernel
theorem dX3_greater_18 : decode cX3_greater 18 = .ok (.lcmp, 1) := by decide +kernel
theorem dX3_greater_19 : decode cX3_greater 19 = .ok (.ifCond .ne 5, 3) := by decide +kernel
theorem dX3_greater_22 : decode cX3_greater 22 = .ok (.iconst 0, 1) := by decide +kernel
theorem dX3_greater_23 : decode cX3_greater 23 = .ok (.ireturn, 1) := by decide +kernel
theorem dX3_greater_24 : decode cX3_greater 24 = .ok (.aload_n 0, 1) := by decide +kernel
theorem dX3_greater_25 : decode cX3_greater 25 = .ok (.aload_n 1, 1) := by decide +kernel
theorem dX3_greater_26 : decode cX3_greater 26 = .ok (.getfield 86, 3) := by decide +kernel
theorem dX3_greater_29 : decode cX3_greater 29 = .ok (.lconst 1, 1) := by decide +kernel
theorem dX3_greater_30 : decode cX3_greater 30 = .ok (.ladd, 1) := by decide +kernel
theorem dX3_greater_31 : decode cX3_greater 31 = .ok (.invokevirtual 98, 3) := by decide +kernel
theorem dX3_greater_34 : decode cX3_greater 34 = .ok (.aload_n 1, 1) := by decide +kernel
theorem dX3_greater_35 : decode cX3_greater 35 = .ok (.aload_n 0, 1) := by decide +kernel
theorem dX3_greater_36 : decode cX3_greater 36 = .ok (.getfield 93, 3) := by decide +kernel
theorem dX3_greater_39 : decode cX3_greater 39 = .ok (.lconst 1, 1) := by decide +kernel
theorem dX3_greater_40 : decode cX3_greater 40 = .ok (.lsub, 1) := by decide +kernel
theorem dX3_greater_41 : decode cX3_greater 41 = .ok (.invokevirtual 101, 3) := by decide +kernel
theorem dX3_greater_44 : decode cX3_greater 44 = .ok (.iconst 1, 1) := by decide +kernel
theorem dX3_greater_45 : decode cX3_greater 45 = .ok (.ireturn, 1) := by decide +kernel
theorem dX3_notLess_0 : decode cX3_notLess 0 = .ok (.aload_n 0, 1) := by decide +kernel
theorem dX3_notLess_1 : decode cX3_notLess 1 = .ok (.aload_n 1, 1) := by decide +kernel
theorem dX3_notLess_2 : decode cX3_notLess 2 = .ok (.getfield 86, 3) := by decide +kernel
theorem dX3_notLess_5 : decode cX3_notLess 5 = .ok (.invokevirtual 98, 3) := by decide +kernel
theorem dX3_notLess_8 : decode cX3_notLess 8 = .ok (.aload_n 1, 1) := by decide +kernel
theorem dX3_notLess_9 : decode cX3_notLess 9 = .ok (.aload_n 0, 1) := by decide +kernel
theorem dX3_notLess_10 : decode cX3_notLess 10 = .ok (.getfield 93, 3) := by decide +kernel
theorem dX3_notLess_13 : decode cX3_notLess 13 = .ok (.invokevirtual 101, 3) := by decide +kernel
theorem dX3_notLess_16 : decode cX3_notLess 16 = .ok (.iconst 1, 1) := by decide +kernel
theorem dX3_notLess_17 : decode cX3_notLess 17 = .ok (.ireturn, 1) := by decide +kernel
theorem dX3_same_0 : decode cX3_same 0 = .ok (.aload_n 0, 1) := by decide +kernel
theorem dX3_same_1 : decode cX3_same 1 = .ok (.getfield 12, 3) := by decide +kernel
theorem dX3_same_4 : decode cX3_same 4 = .ok (.getfield 104, 3) := by decide +kernel
theorem dX3_same_7 : decode cX3_same 7 = .ok (.aload_n 0, 1) := by decide +kernel
theorem dX3_same_8 : decode cX3_same 8 = .ok (.getfield 18, 3) := by decide +kernel
theorem dX3_same_11 : decode cX3_same 11 = .ok (.getfield 104, 3) := by decide +kernel
theorem dX3_same_14 : decode cX3_same 14 = .ok (.lxor, 1) := by decide +kernel
theorem dX3_same_15 : decode cX3_same 15 = .ok (.aload_n 0, 1) := by decide +kernel
theorem dX3_same_16 : decode cX3_same 16 = .ok (.getfield 12, 3) := by decide +kernel
theorem dX3_same_19 : decode cX3_same 19 = .ok (.getfield 107, 3) := by decide +kernel
theorem dX3_same_22 : decode cX3_same 22 = .ok (.aload_n 0, 1) := by decide +kernel
theorem dX3_same_23 : decode cX3_same 23 = .ok (.getfield 18, 3) := by decide +kernel
theorem dX3_same_26 : decode cX3_same 26 = .ok (.getfield 107, 3) := by decide +kernel
theorem dX3_same_29 : decode cX3_same 29 = .ok (.lor, 1) := by decide +kernel
theorem dX3_same_30 : decode cX3_same 30 = .ok (.ldc2_w 74, 3) := by decide +kernel
theorem dX3_same_33 : decode cX3_same 33 = .ok (.lxor, 1) := by decide +kernel
theorem dX3_same_34 : decode cX3_same 34 = .ok (.land, 1) := by decide +kernel
theorem dX3_same_35 : decode cX3_same 35 = .ok (.lconst 0, 1) := by decide +kernel
theorem dX3_same_36 : decode cX3_same 36 = .ok (.lcmp, 1) := by decide +kernel
theorem dX3_same_37 : decode cX3_same 37 = .ok (.ifCond .eq 5, 3) := by decide +kernel
theorem dX3_same_40 : decode cX3_same 40 = .ok (.iconst 0, 1) := by decide +kernel
theorem dX3_same_41 : decode cX3_same 41 = .ok (.ireturn, 1) := by decide +kernel
theorem dX3_same_42 : decode cX3_same 42 = .ok (.aload_n 0, 1) := by decide +kernel
theorem dX3_same_43 : decode cX3_same 43 = .ok (.getfield 12, 3) := by decide +kernel
theorem dX3_same_46 : decode cX3_same 46 = .ok (.aload_n 0, 1) := by decide +kernel
theorem dX3_same_47 : decode cX3_same 47 = .ok (.getfield 12, 3) := by decide +kernel
theorem dX3_same_50 : decode cX3_same 50 = .ok (.getfield 104, 3) := by decide +kernel
theorem dX3_same_53 : decode cX3_same 53 = .ok (.aload_n 0, 1) := by decide +kernel
theorem dX3_same_54 : decode cX3_same 54 = .ok (.getfield 18, 3) := by decide +kernel
theorem dX3_same_57 : decode cX3_same 57 = .ok (.getfield 104, 3) := by decide +kernel
theorem dX3_same_60 : decode cX3_same 60 = .ok (.lor, 1) := by decide +kernel
theorem dX3_same_61 : decode cX3_same 61 = .ok (.aload_n 0, 1) := by decide +kernel
theorem dX3_same_62 : decode cX3_same 62 = .ok (.getfield 12, 3) := by decide +kernel
theorem dX3_same_65 : decode cX3_same 65 = .ok (.getfield 107, 3) := by decide +kernel
theorem dX3_same_68 : decode cX3_same 68 = .ok (.aload_n 0, 1) := by decide +kernel
theorem dX3_same_69 : decode cX3_same 69 = .ok (.getfield 18, 3) := by decide +kernel
theorem dX3_same_72 : decode cX3_same 72 = .ok (.getfield 107, 3) := by decide +kernel
theorem dX3_same_75 : decode cX3_same 75 = .ok (.land, 1) := by decide +kernel
theorem dX3_same_76 : decode cX3_same 76 = .ok (.invokevirtual 110, 3) := by decide +kernel
theorem dX3_same_79 : decode cX3_same 79 = .ok (.aload_n 0, 1) := by decide +kernel
theorem dX3_same_80 : decode cX3_same 80 = .ok (.getfield 12, 3) := by decide +kernel
theorem dX3_same_83 : decode cX3_same 83 = .ok (.aload_n 0, 1) := by decide +kernel
theorem dX3_same_84 : decode cX3_same 84 = .ok (.getfield 18, 3) := by decide +kernel
theorem dX3_same_87 : decode cX3_same 87 = .ok (.getfield 70, 3) := by decide +kernel
theorem dX3_same_90 : decode cX3_same 90 = .ok (.invokevirtual 79, 3) := by decide +kernel
theorem dX3_same_93 : decode cX3_same 93 = .ok (.aload_n 0, 1) := by decide +kernel
theorem dX3_same_94 : decode cX3_same 94 = .ok (.getfield 12, 3) := by decide +kernel
theorem dX3_same_97 : decode cX3_same 97 = .ok (.aload_n 0, 1) := by decide +kernel
theorem dX3_same_98 : decode cX3_same 98 = .ok (.getfield 18, 3) := by decide +kernel
theorem dX3_same_101 : decode cX3_same 101 = .ok (.getfield 76, 3) := by decide +kernel
theorem dX3_same_104 : decode cX3_same 104 = .ok (.invokevirtual 83, 3) := by decide +kernel
theorem dX3_same_107 : decode cX3_same 107 = .ok (.aload_n 0, 1) := by decide +kernel
theorem dX3_same_108 : decode cX3_same 108 = .ok (.getfield 12, 3) := by decide +kernel
theorem dX3_same_111 : decode cX3_same 111 = .ok (.aload_n 0, 1) := by decide +kernel
theorem dX3_same_112 : decode cX3_same 112 = .ok (.getfield 18, 3) := by decide +kernel
theorem dX3_same_115 : decode cX3_same 115 = .ok (.getfield 86, 3) := by decide +kernel
theorem dX3_same_118 : decode cX3_same 118 = .ok (.invokevirtual 98, 3) := by decide +kernel
theorem dX3_same_121 : decode cX3_same 121 = .ok (.aload_n 0, 1) := by decide +kernel
theorem dX3_same_122 : decode cX3_same 122 = .ok (.getfield 12, 3) := by decide +kernel
theorem dX3_same_125 : decode cX3_same 125 = .ok (.aload_n 0, 1) := by decide +kernel
theorem dX3_same_126 : decode cX3_same 126 = .ok (.getfield 18, 3) := by decide +kernel
theorem dX3_same_129 : decode cX3_same 129 = .ok (.getfield 93, 3) := by decide +kernel
theorem dX3_same_132 : decode cX3_same 132 = .ok (.invokevirtual 101, 3) := by decide +kernel
theorem dX3_same_135 : decode cX3_same 135 = .ok (.aload_n 0, 1) := by decide +kernel
theorem dX3_same_136 : decode cX3_same 136 = .ok (.getfield 18, 3) := by decide +kernel
theorem dX3_same_139 : decode cX3_same 139 = .ok (.aload_n 0, 1) := by decide +kernel
theorem dX3_same_140 : decode cX3_same 140 = .ok (.getfield 12, 3) := by decide +kernel
theorem dX3_same_143 : decode cX3_same 143 = .ok (.invokevirtual 21, 3) := by decide +kernel
theorem dX3_same_146 : decode cX3_same 146 = .ok (.iconst 1, 1) := by decide +kernel
theorem dX3_same_147 : decode cX3_same 147 = .ok (.ireturn, 1) := by decide +kernel
theorem dX3_isOneBit_0 : decode cX3_isOneBit 0 = .ok (.aload_n 0, 1) := by decide +kernel
theorem dX3_isOneBit_1 : decode cX3_isOneBit 1 = .ok (.invokevirtual 114, 3) := by decide +kernel
theorem dX3_isOneBit_4 : decode cX3_isOneBit 4 = .ok (.ifCond .eq 18, 3) := by decide +kernel
theorem dX3_isOneBit_7 : decode cX3_isOneBit 7 = .ok (.aload_n 0, 1) := by decide +kernel
theorem dX3_isOneBit_8 : decode cX3_isOneBit 8 = .ok (.getfield 104, 3) := by decide +kernel
theorem dX3_isOneBit_11 : decode cX3_isOneBit 11 = .ok (.invokestatic 135, 3) := by decide +kernel
theorem dX3_isOneBit_14 : decode cX3_isOneBit 14 = .ok (.iconst 1, 1) := by decide +kernel
theorem dX3_isOneBit_15 : decode cX3_isOneBit 15 = .ok (.if_icmp .ne 7, 3) := by decide +kernel
theorem dX3_isOneBit_18 : decode cX3_isOneBit 18 = .ok (.iconst 1, 1) := by decide +kernel
theorem dX3_isOneBit_19 : decode cX3_isOneBit 19 = .ok (.goto 4, 3) := by decide +kernel
theorem dX3_isOneBit_22 : decode cX3_isOneBit 22 = .ok (.iconst 0, 1) := by decide +kernel
theorem dX3_isOneBit_23 : decode cX3_isOneBit 23 = .ok (.ireturn, 1) := by decide +kernel
theorem dX3_isSigned_0 : decode cX3_isSigned 0 = .ok (.iload_n 0, 1) := by decide +kernel
theorem dX3_isSigned_1 : decode cX3_isSigned 1 = .ok (.iconst 5, 1) := by decide +kernel
theorem dX3_isSigned_2 : decode cX3_isSigned 2 = .ok (.if_icmp .eq 21, 3) := by decide +kernel
theorem dX3_isSigned_5 : decode cX3_isSigned 5 = .ok (.iload_n 0, 1) := by decide +kernel
theorem dX3_isSigned_6 : decode cX3_isSigned 6 = .ok (.bipush 6, 2) := by decide +kernel
theorem dX3_isSigned_8 : decode cX3_isSigned 8 = .ok (.if_icmp .eq 15, 3) := by decide +kernel
theorem dX3_isSigned_11 : decode cX3_isSigned 11 = .ok (.iload_n 0, 1) := by decide +kernel
theorem dX3_isSigned_12 : decode cX3_isSigned 12 = .ok (.bipush 9, 2) := by decide +kernel
theorem dX3_isSigned_14 : decode cX3_isSigned 14 = .ok (.if_icmp .eq 9, 3) := by decide +kernel
theorem dX3_isSigned_17 : decode cX3_isSigned 17 = .ok (.iload_n 0, 1) := by decide +kernel
theorem dX3_isSigned_18 : decode cX3_isSigned 18 = .ok (.bipush 10, 2) := by decide +kernel
theorem dX3_isSigned_20 : decode cX3_isSigned 20 = .ok (.if_icmp .ne 7, 3) := by decide +kernel
theorem dX3_isSigned_23 : decode cX3_isSigned 23 = .ok (.iconst 1, 1) := by decide +kernel
theorem dX3_isSigned_24 : decode cX3_isSigned 24 = .ok (.goto 4, 3) := by decide +kernel
theorem dX3_isSigned_27 : decode cX3_isSigned 27 = .ok (.iconst 0, 1) := by decide +kernel
theorem dX3_isSigned_28 : decode cX3_isSigned 28 = .ok (.ireturn, 1) := by decide +kernel
theorem dX3_fitsNarrow_0 : decode cX3_fitsNarrow 0 = .ok (.iload_n 1, 1) := by decide +kernel
theorem dX3_fitsNarrow_1 : decode cX3_fitsNarrow 1 = .ok (.invokestatic 29, 3) := by decide +kernel
theorem dX3_fitsNarrow_4 : decode cX3_fitsNarrow 4 = .ok (.ifCond .eq 9, 3) := by decide +kernel
theorem dX3_fitsNarrow_7 : decode cX3_fitsNarrow 7 = .ok (.ldc2_w 139, 3) := by decide +kernel
theorem dX3_fitsNarrow_10 : decode cX3_fitsNarrow 10 = .ok (.goto 6, 3) := by decide +kernel
theorem dX3_fitsNarrow_13 : decode cX3_fitsNarrow 13 = .ok (.ldc2_w 141, 3) := by decide +kernel
theorem dX3_fitsNarrow_16 : decode cX3_fitsNarrow 16 = .ok (.lstore_n 2, 1) := by decide +kernel
theorem dX3_fitsNarrow_17 : decode cX3_fitsNarrow 17 = .ok (.aload_n 0, 1) := by decide +kernel
theorem dX3_fitsNarrow_18 : decode cX3_fitsNarrow 18 = .ok (.getfield 12, 3) := by decide +kernel
theorem dX3_fitsNarrow_21 : decode cX3_fitsNarrow 21 = .ok (.getfield 76, 3) := by decide +kernel
theorem dX3_fitsNarrow_24 : decode cX3_fitsNarrow 24 = .ok (.lload_n 2, 1) := by decide +kernel
theorem dX3_fitsNarrow_25 : decode cX3_fitsNarrow 25 = .ok (.invokestatic 143, 3) := by decide +kernel
theorem dX3_fitsNarrow_28 : decode cX3_fitsNarrow 28 = .ok (.ifCond .ne 21, 3) := by decide +kernel
theorem dX3_fitsNarrow_31 : decode cX3_fitsNarrow 31 = .ok (.aload_n 0, 1) := by decide +kernel
theorem dX3_fitsNarrow_32 : decode cX3_fitsNarrow 32 = .ok (.getfield 18, 3) := by decide +kernel
theorem dX3_fitsNarrow_35 : decode cX3_fitsNarrow 35 = .ok (.getfield 76, 3) := by decide +kernel
theorem dX3_fitsNarrow_38 : decode cX3_fitsNarrow 38 = .ok (.lload_n 2, 1) := by decide +kernel
theorem dX3_fitsNarrow_39 : decode cX3_fitsNarrow 39 = .ok (.invokestatic 143, 3) := by decide +kernel
theorem dX3_fitsNarrow_42 : decode cX3_fitsNarrow 42 = .ok (.ifCond .ne 7, 3) := by decide +kernel
theorem dX3_fitsNarrow_45 : decode cX3_fitsNarrow 45 = .ok (.iconst 1, 1) := by decide +kernel
theorem dX3_fitsNarrow_46 : decode cX3_fitsNarrow 46 = .ok (.goto 4, 3) := by decide +kernel
theorem dX3_fitsNarrow_49 : decode cX3_fitsNarrow 49 = .ok (.iconst 0, 1) := by decide +kernel
theorem dX3_fitsNarrow_50 : decode cX3_fitsNarrow 50 = .ok (.ireturn, 1) := by decide +kernel
theorem dX3_notSame_0 : decode cX3_notSame 0 = .ok (.aload_n 0, 1) := by decide +kernel
theorem dX3_notSame_1 : decode cX3_notSame 1 = .ok (.getfield 12, 3) := by decide +kernel
theorem dX3_notSame_4 : decode cX3_notSame 4 = .ok (.invokevirtual 114, 3) := by decide +kernel
theorem dX3_notSame_7 : decode cX3_notSame 7 = .ok (.istore_n 1, 1) := by decide +kernel
theorem dX3_notSame_8 : decode cX3_notSame 8 = .ok (.aload_n 0, 1) := by decide +kernel
theorem dX3_notSame_9 : decode cX3_notSame 9 = .ok (.getfield 12, 3) := by decide +kernel
theorem dX3_notSame_12 : decode cX3_notSame 12 = .ok (.getfield 104, 3) := by decide +kernel
theorem dX3_notSame_15 : decode cX3_notSame 15 = .ok (.lstore_n 2, 1) := by decide +kernel
theorem dX3_notSame_16 : decode cX3_notSame 16 = .ok (.aload_n 0, 1) := by decide +kernel
theorem dX3_notSame_17 : decode cX3_notSame 17 = .ok (.getfield 18, 3) := by decide +kernel
theorem dX3_notSame_20 : decode cX3_notSame 20 = .ok (.invokevirtual 114, 3) := by decide +kernel
theorem dX3_notSame_23 : decode cX3_notSame 23 = .ok (.ifCond .eq 22, 3) := by decide +kernel
theorem dX3_notSame_26 : decode cX3_notSame 26 = .ok (.aload_n 0, 1) := by decide +kernel
theorem dX3_notSame_27 : decode cX3_notSame 27 = .ok (.getfield 12, 3) := by decide +kernel
theorem dX3_notSame_30 : decode cX3_notSame 30 = .ok (.aload_n 0, 1) := by decide +kernel
theorem dX3_notSame_31 : decode cX3_notSame 31 = .ok (.getfield 18, 3) := by decide +kernel
theorem dX3_notSame_34 : decode cX3_notSame 34 = .ok (.getfield 104, 3) := by decide +kernel
theorem dX3_notSame_37 : decode cX3_notSame 37 = .ok (.invokevirtual 117, 3) := by decide +kernel
theorem dX3_notSame_40 : decode cX3_notSame 40 = .ok (.ifCond .ne 5, 3) := by decide +kernel
theorem dX3_notSame_43 : decode cX3_notSame 43 = .ok (.iconst 0, 1) := by decide +kernel
theorem dX3_notSame_44 : decode cX3_notSame 44 = .ok (.ireturn, 1) := by decide +kernel
theorem dX3_notSame_45 : decode cX3_notSame 45 = .ok (.iload_n 1, 1) := by decide +kernel
theorem dX3_notSame_46 : decode cX3_notSame 46 = .ok (.ifCond .eq 14, 3) := by decide +kernel
theorem dX3_notSame_49 : decode cX3_notSame 49 = .ok (.aload_n 0, 1) := by decide +kernel
theorem dX3_notSame_50 : decode cX3_notSame 50 = .ok (.getfield 18, 3) := by decide +kernel
theorem dX3_notSame_53 : decode cX3_notSame 53 = .ok (.lload_n 2, 1) := by decide +kernel
theorem dX3_notSame_54 : decode cX3_notSame 54 = .ok (.invokevirtual 117, 3) := by decide +kernel
theorem dX3_notSame_57 : decode cX3_notSame 57 = .ok (.ifCond .eq 7, 3) := by decide +kernel
theorem dX3_notSame_60 : decode cX3_notSame 60 = .ok (.iconst 1, 1) := by decide +kernel
theorem dX3_notSame_61 : decode cX3_notSame 61 = .ok (.goto 4, 3) := by decide +kernel
theorem dX3_notSame_64 : decode cX3_notSame 64 = .ok (.iconst 0, 1) := by decide +kernel
theorem dX3_notSame_65 : decode cX3_notSame 65 = .ok (.ireturn, 1) := by decide +kernel
theorem dX3_meet_0 : decode cX3_meet 0 = .ok (.aload_n 0, 1) := by decide +kernel
theorem dX3_meet_1 : decode cX3_meet 1 = .ok (.getfield 12, 3) := by decide +kernel
theorem dX3_meet_4 : decode cX3_meet 4 = .ok (.invokevirtual 121, 3) := by decide +kernel
theorem dX3_meet_7 : decode cX3_meet 7 = .ok (.aload_n 0, 1) := by decide +kernel
theorem dX3_meet_8 : decode cX3_meet 8 = .ok (.getfield 18, 3) := by decide +kernel
theorem dX3_meet_11 : decode cX3_meet 11 = .ok (.invokevirtual 121, 3) := by decide +kernel
theorem dX3_meet_14 : decode cX3_meet 14 = .ok (.land, 1) := by decide +kernel
theorem dX3_meet_15 : decode cX3_meet 15 = .ok (.lconst 0, 1) := by decide +kernel
theorem dX3_meet_16 : decode cX3_meet 16 = .ok (.lcmp, 1) := by decide +kernel
theorem dX3_meet_17 : decode cX3_meet 17 = .ok (.ifCond .ne 5, 3) := by decide +kernel
theorem dX3_meet_20 : decode cX3_meet 20 = .ok (.iconst 0, 1) := by decide +kernel
theorem dX3_meet_21 : decode cX3_meet 21 = .ok (.ireturn, 1) := by decide +kernel
theorem dX3_meet_22 : decode cX3_meet 22 = .ok (.aload_n 0, 1) := by decide +kernel
theorem dX3_meet_23 : decode cX3_meet 23 = .ok (.getfield 12, 3) := by decide +kernel
theorem dX3_meet_26 : decode cX3_meet 26 = .ok (.invokestatic 125, 3) := by decide +kernel
theorem dX3_meet_29 : decode cX3_meet 29 = .ok (.istore_n 1, 1) := by decide +kernel
theorem dX3_meet_30 : decode cX3_meet 30 = .ok (.aload_n 0, 1) := by decide +kernel
theorem dX3_meet_31 : decode cX3_meet 31 = .ok (.getfield 12, 3) := by decide +kernel
theorem dX3_meet_34 : decode cX3_meet 34 = .ok (.getfield 104, 3) := by decide +kernel
theorem dX3_meet_37 : decode cX3_meet 37 = .ok (.lstore_n 2, 1) := by decide +kernel
theorem dX3_meet_38 : decode cX3_meet 38 = .ok (.aload_n 0, 1) := by decide +kernel
theorem dX3_meet_39 : decode cX3_meet 39 = .ok (.getfield 18, 3) := by decide +kernel
theorem dX3_meet_42 : decode cX3_meet 42 = .ok (.invokestatic 125, 3) := by decide +kernel
theorem dX3_meet_45 : decode cX3_meet 45 = .ok (.ifCond .eq 17, 3) := by decide +kernel
theorem dX3_meet_48 : decode cX3_meet 48 = .ok (.aload_n 0, 1) := by decide +kernel
theorem dX3_meet_49 : decode cX3_meet 49 = .ok (.getfield 12, 3) := by decide +kernel
theorem dX3_meet_52 : decode cX3_meet 52 = .ok (.aload_n 0, 1) := by decide +kernel
theorem dX3_meet_53 : decode cX3_meet 53 = .ok (.getfield 18, 3) := by decide +kernel
theorem dX3_meet_56 : decode cX3_meet 56 = .ok (.getfield 104, 3) := by decide +kernel
theorem dX3_meet_59 : decode cX3_meet 59 = .ok (.invokevirtual 129, 3) := by decide +kernel
theorem dX3_meet_62 : decode cX3_meet 62 = .ok (.iload_n 1, 1) := by decide +kernel
theorem dX3_meet_63 : decode cX3_meet 63 = .ok (.ifCond .eq 11, 3) := by decide +kernel
theorem dX3_meet_66 : decode cX3_meet 66 = .ok (.aload_n 0, 1) := by decide +kernel
theorem dX3_meet_67 : decode cX3_meet 67 = .ok (.getfield 18, 3) := by decide +kernel
theorem dX3_meet_70 : decode cX3_meet 70 = .ok (.lload_n 2, 1) := by decide +kernel
theorem dX3_meet_71 : decode cX3_meet 71 = .ok (.invokevirtual 129, 3) := by decide +kernel
theorem dX3_meet_74 : decode cX3_meet 74 = .ok (.iconst 1, 1) := by decide +kernel
theorem dX3_meet_75 : decode cX3_meet 75 = .ok (.ireturn, 1) := by decide +kernel
theorem dX3_notMeet_0 : decode cX3_notMeet 0 = .ok (.aload_n 0, 1) := by decide +kernel
theorem dX3_notMeet_1 : decode cX3_notMeet 1 = .ok (.getfield 12, 3) := by decide +kernel
theorem dX3_notMeet_4 : decode cX3_notMeet 4 = .ok (.getfield 104, 3) := by decide +kernel
theorem dX3_notMeet_7 : decode cX3_notMeet 7 = .ok (.aload_n 0, 1) := by decide +kernel
theorem dX3_notMeet_8 : decode cX3_notMeet 8 = .ok (.getfield 18, 3) := by decide +kernel
theorem dX3_notMeet_11 : decode cX3_notMeet 11 = .ok (.getfield 104, 3) := by decide +kernel
theorem dX3_notMeet_14 : decode cX3_notMeet 14 = .ok (.land, 1) := by decide +kernel
theorem dX3_notMeet_15 : decode cX3_notMeet 15 = .ok (.lconst 0, 1) := by decide +kernel
theorem dX3_notMeet_16 : decode cX3_notMeet 16 = .ok (.lcmp, 1) := by decide +kernel
theorem dX3_notMeet_17 : decode cX3_notMeet 17 = .ok (.ifCond .eq 5, 3) := by decide +kernel
theorem dX3_notMeet_20 : decode cX3_notMeet 20 = .ok (.iconst 0, 1) := by decide +kernel
theorem dX3_notMeet_21 : decode cX3_notMeet 21 = .ok (.ireturn, 1) := by decide +kernel
theorem dX3_notMeet_22 : decode cX3_notMeet 22 = .ok (.aload_n 0, 1) := by decide +kernel
theorem dX3_notMeet_23 : decode cX3_notMeet 23 = .ok (.getfield 12, 3) := by decide +kernel
theorem dX3_notMeet_26 : decode cX3_notMeet 26 = .ok (.invokevirtual 114, 3) := by decide +kernel
theorem dX3_notMeet_29 : decode cX3_notMeet 29 = .ok (.istore_n 1, 1) := by decide +kernel
theorem dX3_notMeet_30 : decode cX3_notMeet 30 = .ok (.aload_n 0, 1) := by decide +kernel
theorem dX3_notMeet_31 : decode cX3_notMeet 31 = .ok (.getfield 12, 3) := by decide +kernel
theorem dX3_notMeet_34 : decode cX3_notMeet 34 = .ok (.getfield 104, 3) := by decide +kernel
theorem dX3_notMeet_37 : decode cX3_notMeet 37 = .ok (.lstore_n 2, 1) := by decide +kernel
theorem dX3_notMeet_38 : decode cX3_notMeet 38 = .ok (.aload_n 0, 1) := by decide +kernel
theorem dX3_notMeet_39 : decode cX3_notMeet 39 = .ok (.getfield 18, 3) := by decide +kernel
theorem dX3_notMeet_42 : decode cX3_notMeet 42 = .ok (.invokevirtual 114, 3) := by decide +kernel
theorem dX3_notMeet_45 : decode cX3_notMeet 45 = .ok (.ifCond .eq 17, 3) := by decide +kernel
theorem dX3_notMeet_48 : decode cX3_notMeet 48 = .ok (.aload_n 0, 1) := by decide +kernel
theorem dX3_notMeet_49 : decode cX3_notMeet 49 = .ok (.getfield 12, 3) := by decide +kernel
theorem dX3_notMeet_52 : decode cX3_notMeet 52 = .ok (.aload_n 0, 1) := by decide +kernel
theorem dX3_notMeet_53 : decode cX3_notMeet 53 = .ok (.getfield 18, 3) := by decide +kernel
theorem dX3_notMeet_56 : decode cX3_notMeet 56 = .ok (.getfield 104, 3) := by decide +kernel
theorem dX3_notMeet_59 : decode cX3_notMeet 59 = .ok (.invokevirtual 132, 3) := by decide +kernel
theorem dX3_notMeet_62 : decode cX3_notMeet 62 = .ok (.iload_n 1, 1) := by decide +kernel
theorem dX3_notMeet_63 : decode cX3_notMeet 63 = .ok (.ifCond .eq 11, 3) := by decide +kernel
theorem dX3_notMeet_66 : decode cX3_notMeet 66 = .ok (.aload_n 0, 1) := by decide +kernel
theorem dX3_notMeet_67 : decode cX3_notMeet 67 = .ok (.getfield 18, 3) := by decide +kernel
theorem dX3_notMeet_70 : decode cX3_notMeet 70 = .ok (.lload_n 2, 1) := by decide +kernel
theorem dX3_notMeet_71 : decode cX3_notMeet 71 = .ok (.invokevirtual 132, 3) := by decide +kernel
theorem dX3_notMeet_74 : decode cX3_notMeet 74 = .ok (.iconst 1, 1) := by decide +kernel
theorem dX3_notMeet_75 : decode cX3_notMeet 75 = .ok (.ireturn, 1) := by decide +kernel
theorem dX3_apply_0 : decode cX3_apply 0 = .ok (.iload_n 1, 1) := by decide +kernel
theorem dX3_apply_1 : decode cX3_apply 1 = .ok (.tableswitch 179 0 11 #[63, 68, 80, 92, 97, 102, 114, 126, 138, 150, 162, 174], 63) := by decide +kernel
theorem dX3_apply_64 : decode cX3_apply 64 = .ok (.aload_n 0, 1) := by decide +kernel
theorem dX3_apply_65 : decode cX3_apply 65 = .ok (.invokevirtual 45, 3) := by decide +kernel
theorem dX3_apply_68 : decode cX3_apply 68 = .ok (.ireturn, 1) := by decide +kernel
theorem dX3_apply_69 : decode cX3_apply 69 = .ok (.aload_n 0, 1) := by decide +kernel
theorem dX3_apply_70 : decode cX3_apply 70 = .ok (.getfield 12, 3) := by decide +kernel
theorem dX3_apply_73 : decode cX3_apply 73 = .ok (.aload_n 0, 1) := by decide +kernel
theorem dX3_apply_74 : decode cX3_apply 74 = .ok (.getfield 18, 3) := by decide +kernel
theorem dX3_apply_77 : decode cX3_apply 77 = .ok (.invokestatic 48, 3) := by decide +kernel
theorem dX3_apply_80 : decode cX3_apply 80 = .ok (.ireturn, 1) := by decide +kernel
theorem dX3_apply_81 : decode cX3_apply 81 = .ok (.aload_n 0, 1) := by decide +kernel
theorem dX3_apply_82 : decode cX3_apply 82 = .ok (.getfield 12, 3) := by decide +kernel
theorem dX3_apply_85 : decode cX3_apply 85 = .ok (.aload_n 0, 1) := by decide +kernel
theorem dX3_apply_86 : decode cX3_apply 86 = .ok (.getfield 18, 3) := by decide +kernel
theorem dX3_apply_89 : decode cX3_apply 89 = .ok (.invokestatic 52, 3) := by decide +kernel
theorem dX3_apply_92 : decode cX3_apply 92 = .ok (.ireturn, 1) := by decide +kernel
theorem dX3_apply_93 : decode cX3_apply 93 = .ok (.aload_n 0, 1) := by decide +kernel
theorem dX3_apply_94 : decode cX3_apply 94 = .ok (.invokevirtual 55, 3) := by decide +kernel
theorem dX3_apply_97 : decode cX3_apply 97 = .ok (.ireturn, 1) := by decide +kernel
theorem dX3_apply_98 : decode cX3_apply 98 = .ok (.aload_n 0, 1) := by decide +kernel
theorem dX3_apply_99 : decode cX3_apply 99 = .ok (.invokevirtual 58, 3) := by decide +kernel
theorem dX3_apply_102 : decode cX3_apply 102 = .ok (.ireturn, 1) := by decide +kernel
theorem dX3_apply_103 : decode cX3_apply 103 = .ok (.aload_n 0, 1) := by decide +kernel
theorem dX3_apply_104 : decode cX3_apply 104 = .ok (.getfield 12, 3) := by decide +kernel
theorem dX3_apply_107 : decode cX3_apply 107 = .ok (.aload_n 0, 1) := by decide +kernel
theorem dX3_apply_108 : decode cX3_apply 108 = .ok (.getfield 18, 3) := by decide +kernel
theorem dX3_apply_111 : decode cX3_apply 111 = .ok (.invokestatic 61, 3) := by decide +kernel
theorem dX3_apply_114 : decode cX3_apply 114 = .ok (.ireturn, 1) := by decide +kernel
theorem dX3_apply_115 : decode cX3_apply 115 = .ok (.aload_n 0, 1) := by decide +kernel
theorem dX3_apply_116 : decode cX3_apply 116 = .ok (.getfield 12, 3) := by decide +kernel
theorem dX3_apply_119 : decode cX3_apply 119 = .ok (.aload_n 0, 1) := by decide +kernel
theorem dX3_apply_120 : decode cX3_apply 120 = .ok (.getfield 18, 3) := by decide +kernel
theorem dX3_apply_123 : decode cX3_apply 123 = .ok (.invokestatic 64, 3) := by decide +kernel
theorem dX3_apply_126 : decode cX3_apply 126 = .ok (.ireturn, 1) := by decide +kernel
theorem dX3_apply_127 : decode cX3_apply 127 = .ok (.aload_n 0, 1) := by decide +kernel
theorem dX3_apply_128 : decode cX3_apply 128 = .ok (.getfield 18, 3) := by decide +kernel
theorem dX3_apply_131 : decode cX3_apply 131 = .ok (.aload_n 0, 1) := by decide +kernel
theorem dX3_apply_132 : decode cX3_apply 132 = .ok (.getfield 12, 3) := by decide +kernel
theorem dX3_apply_135 : decode cX3_apply 135 = .ok (.invokestatic 48, 3) := by decide +kernel
theorem dX3_apply_138 : decode cX3_apply 138 = .ok (.ireturn, 1) := by decide +kernel
theorem dX3_apply_139 : decode cX3_apply 139 = .ok (.aload_n 0, 1) := by decide +kernel
theorem dX3_apply_140 : decode cX3_apply 140 = .ok (.getfield 18, 3) := by decide +kernel
theorem dX3_apply_143 : decode cX3_apply 143 = .ok (.aload_n 0, 1) := by decide +kernel
theorem dX3_apply_144 : decode cX3_apply 144 = .ok (.getfield 12, 3) := by decide +kernel
theorem dX3_apply_147 : decode cX3_apply 147 = .ok (.invokestatic 52, 3) := by decide +kernel
theorem dX3_apply_150 : decode cX3_apply 150 = .ok (.ireturn, 1) := by decide +kernel
theorem dX3_apply_151 : decode cX3_apply 151 = .ok (.aload_n 0, 1) := by decide +kernel
theorem dX3_apply_152 : decode cX3_apply 152 = .ok (.getfield 18, 3) := by decide +kernel
theorem dX3_apply_155 : decode cX3_apply 155 = .ok (.aload_n 0, 1) := by decide +kernel
theorem dX3_apply_156 : decode cX3_apply 156 = .ok (.getfield 12, 3) := by decide +kernel
theorem dX3_apply_159 : decode cX3_apply 159 = .ok (.invokestatic 61, 3) := by decide +kernel
theorem dX3_apply_162 : decode cX3_apply 162 = .ok (.ireturn, 1) := by decide +kernel
theorem dX3_apply_163 : decode cX3_apply 163 = .ok (.aload_n 0, 1) := by decide +kernel
theorem dX3_apply_164 : decode cX3_apply 164 = .ok (.getfield 18, 3) := by decide +kernel
theorem dX3_apply_167 : decode cX3_apply 167 = .ok (.aload_n 0, 1) := by decide +kernel
theorem dX3_apply_168 : decode cX3_apply 168 = .ok (.getfield 12, 3) := by decide +kernel
theorem dX3_apply_171 : decode cX3_apply 171 = .ok (.invokestatic 64, 3) := by decide +kernel
theorem dX3_apply_174 : decode cX3_apply 174 = .ok (.ireturn, 1) := by decide +kernel
theorem dX3_apply_175 : decode cX3_apply 175 = .ok (.aload_n 0, 1) := by decide +kernel
theorem dX3_apply_176 : decode cX3_apply 176 = .ok (.invokevirtual 67, 3) := by decide +kernel
theorem dX3_apply_179 : decode cX3_apply 179 = .ok (.ireturn, 1) := by decide +kernel
theorem dX3_apply_180 : decode cX3_apply 180 = .ok (.iconst 0, 1) := by decide +kernel
theorem dX3_apply_181 : decode cX3_apply 181 = .ok (.ireturn, 1) := by decide +kernel
theorem dX3_learn_0 : decode cX3_learn 0 = .ok (.aload_n 0, 1) := by decide +kernel
theorem dX3_learn_1 : decode cX3_learn 1 = .ok (.iload_n 1, 1) := by decide +kernel
theorem dX3_learn_2 : decode cX3_learn 2 = .ok (.invokevirtual 38, 3) := by decide +kernel
theorem dX3_learn_5 : decode cX3_learn 5 = .ok (.ifCond .eq 27, 3) := by decide +kernel
theorem dX3_learn_8 : decode cX3_learn 8 = .ok (.aload_n 0, 1) := by decide +kernel
theorem dX3_learn_9 : decode cX3_learn 9 = .ok (.getfield 12, 3) := by decide +kernel
theorem dX3_learn_12 : decode cX3_learn 12 = .ok (.invokevirtual 41, 3) := by decide +kernel
theorem dX3_learn_15 : decode cX3_learn 15 = .ok (.ifCond .eq 17, 3) := by decide +kernel
theorem dX3_learn_18 : decode cX3_learn 18 = .ok (.aload_n 0, 1) := by decide +kernel
theorem dX3_learn_19 : decode cX3_learn 19 = .ok (.getfield 18, 3) := by decide +kernel
theorem dX3_learn_22 : decode cX3_learn 22 = .ok (.invokevirtual 41, 3) := by decide +kernel
theorem dX3_learn_25 : decode cX3_learn 25 = .ok (.ifCond .eq 7, 3) := by decide +kernel
theorem dX3_learn_28 : decode cX3_learn 28 = .ok (.iconst 1, 1) := by decide +kernel
theorem dX3_learn_29 : decode cX3_learn 29 = .ok (.goto 4, 3) := by decide +kernel
theorem dX3_learn_32 : decode cX3_learn 32 = .ok (.iconst 0, 1) := by decide +kernel
theorem dX3_learn_33 : decode cX3_learn 33 = .ok (.ireturn, 1) := by decide +kernel
theorem dX3_tell_0 : decode cX3_tell 0 = .ok (.aload_n 0, 1) := by decide +kernel
theorem dX3_tell_1 : decode cX3_tell 1 = .ok (.getfield 12, 3) := by decide +kernel
theorem dX3_tell_4 : decode cX3_tell 4 = .ok (.aload_n 2, 1) := by decide +kernel
theorem dX3_tell_5 : decode cX3_tell 5 = .ok (.invokevirtual 21, 3) := by decide +kernel
theorem dX3_tell_8 : decode cX3_tell 8 = .ok (.aload_n 0, 1) := by decide +kernel
theorem dX3_tell_9 : decode cX3_tell 9 = .ok (.getfield 18, 3) := by decide +kernel
theorem dX3_tell_12 : decode cX3_tell 12 = .ok (.aload_n 3, 1) := by decide +kernel
theorem dX3_tell_13 : decode cX3_tell 13 = .ok (.invokevirtual 21, 3) := by decide +kernel
theorem dX3_tell_16 : decode cX3_tell 16 = .ok (.iload 4, 2) := by decide +kernel
theorem dX3_tell_18 : decode cX3_tell 18 = .ok (.ifCond .eq 11, 3) := by decide +kernel
theorem dX3_tell_21 : decode cX3_tell 21 = .ok (.aload_n 0, 1) := by decide +kernel
theorem dX3_tell_22 : decode cX3_tell 22 = .ok (.iload_n 1, 1) := by decide +kernel
theorem dX3_tell_23 : decode cX3_tell 23 = .ok (.invokevirtual 25, 3) := by decide +kernel
theorem dX3_tell_26 : decode cX3_tell 26 = .ok (.ifCond .eq 7, 3) := by decide +kernel
theorem dX3_tell_29 : decode cX3_tell 29 = .ok (.iconst 1, 1) := by decide +kernel
theorem dX3_tell_30 : decode cX3_tell 30 = .ok (.goto 4, 3) := by decide +kernel
theorem dX3_tell_33 : decode cX3_tell 33 = .ok (.iconst 0, 1) := by decide +kernel
theorem dX3_tell_34 : decode cX3_tell 34 = .ok (.istore 5, 2) := by decide +kernel
theorem dX3_tell_36 : decode cX3_tell 36 = .ok (.iload 5, 2) := by decide +kernel
theorem dX3_tell_38 : decode cX3_tell 38 = .ok (.ifCond .ne 26, 3) := by decide +kernel
theorem dX3_tell_41 : decode cX3_tell 41 = .ok (.iload_n 1, 1) := by decide +kernel
theorem dX3_tell_42 : decode cX3_tell 42 = .ok (.invokestatic 29, 3) := by decide +kernel
theorem dX3_tell_45 : decode cX3_tell 45 = .ok (.ifCond .eq 5, 3) := by decide +kernel
theorem dX3_tell_48 : decode cX3_tell 48 = .ok (.iconst 1, 1) := by decide +kernel
theorem dX3_tell_49 : decode cX3_tell 49 = .ok (.ireturn, 1) := by decide +kernel
theorem dX3_tell_50 : decode cX3_tell 50 = .ok (.aload_n 0, 1) := by decide +kernel
theorem dX3_tell_51 : decode cX3_tell 51 = .ok (.getfield 12, 3) := by decide +kernel
theorem dX3_tell_54 : decode cX3_tell 54 = .ok (.invokevirtual 32, 3) := by decide +kernel
theorem dX3_tell_57 : decode cX3_tell 57 = .ok (.aload_n 0, 1) := by decide +kernel
theorem dX3_tell_58 : decode cX3_tell 58 = .ok (.getfield 18, 3) := by decide +kernel
theorem dX3_tell_61 : decode cX3_tell 61 = .ok (.invokevirtual 32, 3) := by decide +kernel
theorem dX3_tell_64 : decode cX3_tell 64 = .ok (.aload_n 0, 1) := by decide +kernel
theorem dX3_tell_65 : decode cX3_tell 65 = .ok (.iload_n 1, 1) := by decide +kernel
theorem dX3_tell_66 : decode cX3_tell 66 = .ok (.invokevirtual 35, 3) := by decide +kernel
theorem dX3_tell_69 : decode cX3_tell 69 = .ok (.ifCond .ne 5, 3) := by decide +kernel
theorem dX3_tell_72 : decode cX3_tell 72 = .ok (.iconst 0, 1) := by decide +kernel
theorem dX3_tell_73 : decode cX3_tell 73 = .ok (.ireturn, 1) := by decide +kernel
theorem dX3_tell_74 : decode cX3_tell 74 = .ok (.iload 5, 2) := by decide +kernel
theorem dX3_tell_76 : decode cX3_tell 76 = .ok (.ifCond .eq 19, 3) := by decide +kernel
theorem dX3_tell_79 : decode cX3_tell 79 = .ok (.aload_n 2, 1) := by decide +kernel
theorem dX3_tell_80 : decode cX3_tell 80 = .ok (.aload_n 0, 1) := by decide +kernel
theorem dX3_tell_81 : decode cX3_tell 81 = .ok (.getfield 12, 3) := by decide +kernel
theorem dX3_tell_84 : decode cX3_tell 84 = .ok (.invokevirtual 21, 3) := by decide +kernel
theorem dX3_tell_87 : decode cX3_tell 87 = .ok (.aload_n 3, 1) := by decide +kernel
theorem dX3_tell_88 : decode cX3_tell 88 = .ok (.aload_n 0, 1) := by decide +kernel
theorem dX3_tell_89 : decode cX3_tell 89 = .ok (.getfield 18, 3) := by decide +kernel
theorem dX3_tell_92 : decode cX3_tell 92 = .ok (.invokevirtual 21, 3) := by decide +kernel
theorem dX3_tell_95 : decode cX3_tell 95 = .ok (.iconst 1, 1) := by decide +kernel
theorem dX3_tell_96 : decode cX3_tell 96 = .ok (.ireturn, 1) := by decide +kernel
def f_X3_above (n0 : Nm) (n1 : Nm) : Nm × Nm × Int32 :=
  if (lg_cmp n1.2.2.1 (-1)) = 0 then (n0, n1, 0)
  else if (lg_cmp n0.2.2.2.1 0) = 0 then (n0, n1, 0)
  else ((f_X1_raiseLeast n0 (n1.2.2.1 + 1)), (f_X1_lowerGreatest n1 (((f_X1_raiseLeast n0 (n1.2.2.1 + 1)).2.2.2.1) - 1)), 1)
set_option maxHeartbeats 4000000 in
set_option maxRecDepth 100000 in
theorem c_X3_above (l : Launch) (D : va_G) (h0 : Nat) (h1 : Nat) (n0 : Nm) (n1 : Nm) : sp_M l yX3_above wsX3_above ({ frames := 2, cells := 0, slots := 0, locals := 45 }) D [.ref h0, .ref h1] ([(h0, .inr (1, nm_fs n0)), (h1, .inr (1, nm_fs n1))]) [] (sp_Qz D ([(h0, .inr (1, nm_fs n0)), (h1, .inr (1, nm_fs n1))]) ([(h0, .inr (1, nm_fs ((f_X3_above n0 n1).1))), (h1, .inr (1, nm_fs ((f_X3_above n0 n1).2.1)))]) [] ((f_X3_above n0 n1).2.2)) := by
  refine sp_ofW (cc := cX3_above) (nL := 2) (ret := (some .boolean)) (own := RX3) (by decide) rfl rfl (Nat.le_of_ble_eq_true rfl) ?_
  intro p e s m below meth c A ls hAe hnm C hA hP hK hD hS hl
  have hx := C.1
  have hb := C.2.1
  have hown := C.2.2.2.2.1
  have hts := C.2.2.2.2.2.1
  have hl : lv_has ls 2 [(0, .ref h0), (1, .ref h1)] := hl
  have hi1 : ∀ w ∈ u_ws RX1 TX1 6, w ∈ wsX3_above := fun w h => List.mem_cons_of_mem _ (inX1 w h)
  have hk0 := hts _ (List.mem_cons_of_mem _ wm_261)
  have hk1 := hts _ (List.mem_cons_of_mem _ wm_262)
  have hk2 := hts _ (List.mem_cons_of_mem _ wm_263)
  refine lv_aload_n hx hb dX3_above_0 rfl (lv_at hl 1 rfl) ?_
  refine va_get (D := D) (ci := 1) (v := .long n1.2.2.1) (C := RX1) (T := TX1) (N := 6) hx hb hts hi1 hown hK hP 1 rfl rfl 2 (by decide) hk0 (fun _ h9 => h9) rfl dX3_above_1 ?_
  refine lv_ldc2 (v := (-1)) hx hb hown hk1 dX3_above_4 ?_
  refine W.lcmp hx hb dX3_above_7 ?_
  refine lv_if_eq (tgt := 20) hx hb dX3_above_8 (by decide) (fun c1 => ?_) (fun c1 => ?_)
  · refine lv_iconst (v := 0) hx hb dX3_above_20 (by decide) ?_
    have e9 : f_X3_above n0 n1 = (n0, n1, 0) := (if_pos c1).trans (rfl)
    rw [e9]
    exact sp_zret C hAe hP hK hD hS (Or.inl rfl) dX3_above_21
  · refine lv_aload_n hx hb dX3_above_11 rfl (lv_at hl 0 rfl) ?_
    refine va_get (D := D) (ci := 1) (v := .long n0.2.2.2.1) (C := RX1) (T := TX1) (N := 6) hx hb hts hi1 hown hK hP 0 rfl rfl 3 (by decide) hk2 (fun _ h9 => h9) rfl dX3_above_12 ?_
    refine lv_lconst (v := 0) hx hb dX3_above_15 (by decide) ?_
    refine W.lcmp hx hb dX3_above_16 ?_
    refine lv_if_ne (tgt := 22) hx hb dX3_above_17 (by decide) (fun c2 => ?_) (fun c2 => ?_)
    · refine lv_aload_n hx hb dX3_above_22 rfl (lv_at hl 0 rfl) ?_
      refine lv_aload_n hx hb dX3_above_23 rfl (lv_at hl 1 rfl) ?_
      refine va_get (D := D) (ci := 1) (v := .long n1.2.2.1) (C := RX1) (T := TX1) (N := 6) hx hb hts hi1 hown hK hP 1 rfl rfl 2 (by decide) hk0 (fun _ h9 => h9) rfl dX3_above_24 ?_
      refine lv_lconst (v := 1) hx hb dX3_above_27 (by decide) ?_
      refine lv_ladd hx hb dX3_above_28 ?_
      refine sp_callv (sp_runV (As := [.long (n1.2.2.1 + 1)]) (rest := []) C (c_X1_raiseLeast l D h0 n0 (n1.2.2.1 + 1)) (cwV 1 hts (gV wG_c wm_259 wm_56 wm_57 wm_31 wm_54) rfl rfl rfl (by decide +kernel) ⟨Nat.le_of_ble_eq_true rfl, Nat.le_of_ble_eq_true rfl⟩) hK hP hD [0] (by decide) rfl [] rfl 0 1 rfl rfl rfl rfl hl.1 rfl (Nat.le_of_ble_eq_true rfl) dX3_above_29 ⟨Nat.le_of_ble_eq_true rfl, Nat.le_of_ble_eq_true rfl⟩) hP hD hS hA [0] rfl (sp_fc sp_f0) (fun H locs hP hD hS => ?_)
      have hP : va_P D vwCl ([(h0, .inr (1, nm_fs (f_X1_raiseLeast n0 (n1.2.2.1 + 1)))), (h1, .inr (1, nm_fs n1))]) H := hP
      have hD : va_D A ([(h0, .inr (1, nm_fs (f_X1_raiseLeast n0 (n1.2.2.1 + 1)))), (h1, .inr (1, nm_fs n1))]) := hD
      refine lv_aload_n hx hb dX3_above_32 rfl (lv_at hl 1 rfl) ?_
      refine lv_aload_n hx hb dX3_above_33 rfl (lv_at hl 0 rfl) ?_
      refine va_get (D := D) (ci := 1) (v := .long ((f_X1_raiseLeast n0 (n1.2.2.1 + 1)).2.2.2.1)) (C := RX1) (T := TX1) (N := 6) hx hb hts hi1 hown hK hP 0 rfl rfl 3 (by decide) hk2 (fun _ h9 => h9) rfl dX3_above_34 ?_
      refine lv_lconst (v := 1) hx hb dX3_above_37 (by decide) ?_
      refine lv_lsub hx hb dX3_above_38 ?_
      refine sp_callv (sp_runV (As := [.long (((f_X1_raiseLeast n0 (n1.2.2.1 + 1)).2.2.2.1) - 1)]) (rest := []) C (c_X1_lowerGreatest l D h1 n1 (((f_X1_raiseLeast n0 (n1.2.2.1 + 1)).2.2.2.1) - 1)) (cwV 1 hts (gV wG_c wm_260 wm_64 wm_65 wm_31 wm_62) rfl rfl rfl (by decide +kernel) ⟨Nat.le_of_ble_eq_true rfl, Nat.le_of_ble_eq_true rfl⟩) hK hP hD [1] (by decide) rfl [] rfl 0 1 rfl rfl rfl rfl hl.1 rfl (Nat.le_of_ble_eq_true rfl) dX3_above_39 ⟨Nat.le_of_ble_eq_true rfl, Nat.le_of_ble_eq_true rfl⟩) hP hD hS hA [1] rfl (sp_fc sp_f0) (fun H locs hP hD hS => ?_)
      have hP : va_P D vwCl ([(h0, .inr (1, nm_fs (f_X1_raiseLeast n0 (n1.2.2.1 + 1)))), (h1, .inr (1, nm_fs (f_X1_lowerGreatest n1 (((f_X1_raiseLeast n0 (n1.2.2.1 + 1)).2.2.2.1) - 1))))]) H := hP
      have hD : va_D A ([(h0, .inr (1, nm_fs (f_X1_raiseLeast n0 (n1.2.2.1 + 1)))), (h1, .inr (1, nm_fs (f_X1_lowerGreatest n1 (((f_X1_raiseLeast n0 (n1.2.2.1 + 1)).2.2.2.1) - 1))))]) := hD
      refine lv_iconst (v := 1) hx hb dX3_above_42 (by decide) ?_
      have e9 : f_X3_above n0 n1 = ((f_X1_raiseLeast n0 (n1.2.2.1 + 1)), (f_X1_lowerGreatest n1 (((f_X1_raiseLeast n0 (n1.2.2.1 + 1)).2.2.2.1) - 1)), 1) := (if_neg c1).trans ((if_neg c2).trans (rfl))
      rw [e9]
      exact sp_zret C hAe hP hK hD hS (Or.inr rfl) dX3_above_43
    · refine lv_iconst (v := 0) hx hb dX3_above_20 (by decide) ?_
      have e9 : f_X3_above n0 n1 = (n0, n1, 0) := (if_neg c1).trans ((if_pos c2).trans (rfl))
      rw [e9]
      exact sp_zret C hAe hP hK hD hS (Or.inl rfl) dX3_above_21
def f_X3_notBelow (n0 : Nm) (n1 : Nm) : Nm × Nm × Int32 :=
  ((f_X1_raiseLeast n0 n1.2.2.1), (f_X1_lowerGreatest n1 ((f_X1_raiseLeast n0 n1.2.2.1).2.2.2.1)), 1)
set_option maxHeartbeats 4000000 in
set_option maxRecDepth 100000 in
theorem c_X3_notBelow (l : Launch) (D : va_G) (h0 : Nat) (h1 : Nat) (n0 : Nm) (n1 : Nm) : sp_M l yX3_notBelow wsX3_notBelow ({ frames := 2, cells := 0, slots := 0, locals := 45 }) D [.ref h0, .ref h1] ([(h0, .inr (1, nm_fs n0)), (h1, .inr (1, nm_fs n1))]) [] (sp_Qz D ([(h0, .inr (1, nm_fs n0)), (h1, .inr (1, nm_fs n1))]) ([(h0, .inr (1, nm_fs ((f_X3_notBelow n0 n1).1))), (h1, .inr (1, nm_fs ((f_X3_notBelow n0 n1).2.1)))]) [] ((f_X3_notBelow n0 n1).2.2)) := by
  refine sp_ofW (cc := cX3_notBelow) (nL := 2) (ret := (some .boolean)) (own := RX3) (by decide) rfl rfl (Nat.le_of_ble_eq_true rfl) ?_
  intro p e s m below meth c A ls hAe hnm C hA hP hK hD hS hl
  have hx := C.1
  have hb := C.2.1
  have hown := C.2.2.2.2.1
  have hts := C.2.2.2.2.2.1
  have hl : lv_has ls 2 [(0, .ref h0), (1, .ref h1)] := hl
  have hi1 : ∀ w ∈ u_ws RX1 TX1 6, w ∈ wsX3_notBelow := fun w h => List.mem_cons_of_mem _ (inX1 w h)
  have hk0 := hts _ (List.mem_cons_of_mem _ wm_261)
  have hk1 := hts _ (List.mem_cons_of_mem _ wm_263)
  refine lv_aload_n hx hb dX3_notBelow_0 rfl (lv_at hl 0 rfl) ?_
  refine lv_aload_n hx hb dX3_notBelow_1 rfl (lv_at hl 1 rfl) ?_
  refine va_get (D := D) (ci := 1) (v := .long n1.2.2.1) (C := RX1) (T := TX1) (N := 6) hx hb hts hi1 hown hK hP 1 rfl rfl 2 (by decide) hk0 (fun _ h9 => h9) rfl dX3_notBelow_2 ?_
  refine sp_callv (sp_runV (As := [.long n1.2.2.1]) (rest := []) C (c_X1_raiseLeast l D h0 n0 n1.2.2.1) (cwV 1 hts (gV wG_c wm_259 wm_56 wm_57 wm_31 wm_54) rfl rfl rfl (by decide +kernel) ⟨Nat.le_of_ble_eq_true rfl, Nat.le_of_ble_eq_true rfl⟩) hK hP hD [0] (by decide) rfl [] rfl 0 1 rfl rfl rfl rfl hl.1 rfl (Nat.le_of_ble_eq_true rfl) dX3_notBelow_5 ⟨Nat.le_of_ble_eq_true rfl, Nat.le_of_ble_eq_true rfl⟩) hP hD hS hA [0] rfl (sp_fc sp_f0) (fun H locs hP hD hS => ?_)
  have hP : va_P D vwCl ([(h0, .inr (1, nm_fs (f_X1_raiseLeast n0 n1.2.2.1))), (h1, .inr (1, nm_fs n1))]) H := hP
  have hD : va_D A ([(h0, .inr (1, nm_fs (f_X1_raiseLeast n0 n1.2.2.1))), (h1, .inr (1, nm_fs n1))]) := hD
  refine lv_aload_n hx hb dX3_notBelow_8 rfl (lv_at hl 1 rfl) ?_
  refine lv_aload_n hx hb dX3_notBelow_9 rfl (lv_at hl 0 rfl) ?_
  refine va_get (D := D) (ci := 1) (v := .long ((f_X1_raiseLeast n0 n1.2.2.1).2.2.2.1)) (C := RX1) (T := TX1) (N := 6) hx hb hts hi1 hown hK hP 0 rfl rfl 3 (by decide) hk1 (fun _ h9 => h9) rfl dX3_notBelow_10 ?_
  refine sp_callv (sp_runV (As := [.long ((f_X1_raiseLeast n0 n1.2.2.1).2.2.2.1)]) (rest := []) C (c_X1_lowerGreatest l D h1 n1 ((f_X1_raiseLeast n0 n1.2.2.1).2.2.2.1)) (cwV 1 hts (gV wG_c wm_260 wm_64 wm_65 wm_31 wm_62) rfl rfl rfl (by decide +kernel) ⟨Nat.le_of_ble_eq_true rfl, Nat.le_of_ble_eq_true rfl⟩) hK hP hD [1] (by decide) rfl [] rfl 0 1 rfl rfl rfl rfl hl.1 rfl (Nat.le_of_ble_eq_true rfl) dX3_notBelow_13 ⟨Nat.le_of_ble_eq_true rfl, Nat.le_of_ble_eq_true rfl⟩) hP hD hS hA [1] rfl (sp_fc sp_f0) (fun H locs hP hD hS => ?_)
  have hP : va_P D vwCl ([(h0, .inr (1, nm_fs (f_X1_raiseLeast n0 n1.2.2.1))), (h1, .inr (1, nm_fs (f_X1_lowerGreatest n1 ((f_X1_raiseLeast n0 n1.2.2.1).2.2.2.1))))]) H := hP
  have hD : va_D A ([(h0, .inr (1, nm_fs (f_X1_raiseLeast n0 n1.2.2.1))), (h1, .inr (1, nm_fs (f_X1_lowerGreatest n1 ((f_X1_raiseLeast n0 n1.2.2.1).2.2.2.1))))]) := hD
  refine lv_iconst (v := 1) hx hb dX3_notBelow_16 (by decide) ?_
  have e9 : f_X3_notBelow n0 n1 = ((f_X1_raiseLeast n0 n1.2.2.1), (f_X1_lowerGreatest n1 ((f_X1_raiseLeast n0 n1.2.2.1).2.2.2.1)), 1) := rfl
  rw [e9]
  exact sp_zret C hAe hP hK hD hS (Or.inr rfl) dX3_notBelow_17
def f_X3_greater (n0 : Nm) (n1 : Nm) : Nm × Nm × Int32 :=
  if (lg_cmp n1.2.2.2.2.1 9223372036854775807) = 0 then (n0, n1, 0)
  else if (lg_cmp n0.2.2.2.2.2 (-9223372036854775808)) = 0 then (n0, n1, 0)
  else ((f_X1_raiseSignedLeast n0 (n1.2.2.2.2.1 + 1)), (f_X1_lowerSignedGreatest n1 (((f_X1_raiseSignedLeast n0 (n1.2.2.2.2.1 + 1)).2.2.2.2.2) - 1)), 1)
set_option maxHeartbeats 4000000 in
set_option maxRecDepth 100000 in
theorem c_X3_greater (l : Launch) (D : va_G) (h0 : Nat) (h1 : Nat) (n0 : Nm) (n1 : Nm) : sp_M l yX3_greater wsX3_greater ({ frames := 2, cells := 0, slots := 0, locals := 38 }) D [.ref h0, .ref h1] ([(h0, .inr (1, nm_fs n0)), (h1, .inr (1, nm_fs n1))]) [] (sp_Qz D ([(h0, .inr (1, nm_fs n0)), (h1, .inr (1, nm_fs n1))]) ([(h0, .inr (1, nm_fs ((f_X3_greater n0 n1).1))), (h1, .inr (1, nm_fs ((f_X3_greater n0 n1).2.1)))]) [] ((f_X3_greater n0 n1).2.2)) := by
  refine sp_ofW (cc := cX3_greater) (nL := 2) (ret := (some .boolean)) (own := RX3) (by decide) rfl rfl (Nat.le_of_ble_eq_true rfl) ?_
  intro p e s m below meth c A ls hAe hnm C hA hP hK hD hS hl
  have hx := C.1
  have hb := C.2.1
  have hown := C.2.2.2.2.1
  have hts := C.2.2.2.2.2.1
  have hl : lv_has ls 2 [(0, .ref h0), (1, .ref h1)] := hl
  have hi1 : ∀ w ∈ u_ws RX1 TX1 6, w ∈ wsX3_greater := fun w h => List.mem_cons_of_mem _ (inX1 w h)
  have hk0 := hts _ (List.mem_cons_of_mem _ wm_266)
  have hk1 := hts _ (List.mem_cons_of_mem _ wm_267)
  have hk2 := hts _ (List.mem_cons_of_mem _ wm_268)
  have hk3 := hts _ (List.mem_cons_of_mem _ wm_269)
  refine lv_aload_n hx hb dX3_greater_0 rfl (lv_at hl 1 rfl) ?_
  refine va_get (D := D) (ci := 1) (v := .long n1.2.2.2.2.1) (C := RX1) (T := TX1) (N := 6) hx hb hts hi1 hown hK hP 1 rfl rfl 4 (by decide) hk0 (fun _ h9 => h9) rfl dX3_greater_1 ?_
  refine lv_ldc2 (v := 9223372036854775807) hx hb hown hk1 dX3_greater_4 ?_
  refine W.lcmp hx hb dX3_greater_7 ?_
  refine lv_if_eq (tgt := 22) hx hb dX3_greater_8 (by decide) (fun c1 => ?_) (fun c1 => ?_)
  · refine lv_iconst (v := 0) hx hb dX3_greater_22 (by decide) ?_
    have e9 : f_X3_greater n0 n1 = (n0, n1, 0) := (if_pos c1).trans (rfl)
    rw [e9]
    exact sp_zret C hAe hP hK hD hS (Or.inl rfl) dX3_greater_23
  · refine lv_aload_n hx hb dX3_greater_11 rfl (lv_at hl 0 rfl) ?_
    refine va_get (D := D) (ci := 1) (v := .long n0.2.2.2.2.2) (C := RX1) (T := TX1) (N := 6) hx hb hts hi1 hown hK hP 0 rfl rfl 5 (by decide) hk2 (fun _ h9 => h9) rfl dX3_greater_12 ?_
    refine lv_ldc2 (v := (-9223372036854775808)) hx hb hown hk3 dX3_greater_15 ?_
    refine W.lcmp hx hb dX3_greater_18 ?_
    refine lv_if_ne (tgt := 24) hx hb dX3_greater_19 (by decide) (fun c2 => ?_) (fun c2 => ?_)
    · refine lv_aload_n hx hb dX3_greater_24 rfl (lv_at hl 0 rfl) ?_
      refine lv_aload_n hx hb dX3_greater_25 rfl (lv_at hl 1 rfl) ?_
      refine va_get (D := D) (ci := 1) (v := .long n1.2.2.2.2.1) (C := RX1) (T := TX1) (N := 6) hx hb hts hi1 hown hK hP 1 rfl rfl 4 (by decide) hk0 (fun _ h9 => h9) rfl dX3_greater_26 ?_
      refine lv_lconst (v := 1) hx hb dX3_greater_29 (by decide) ?_
      refine lv_ladd hx hb dX3_greater_30 ?_
      refine sp_callv (sp_runV (As := [.long (n1.2.2.2.2.1 + 1)]) (rest := []) C (c_X1_raiseSignedLeast l D h0 n0 (n1.2.2.2.2.1 + 1)) (cwV 1 hts (gV wG_c wm_264 wm_68 wm_69 wm_31 wm_66) rfl rfl rfl (by decide +kernel) ⟨Nat.le_of_ble_eq_true rfl, Nat.le_of_ble_eq_true rfl⟩) hK hP hD [0] (by decide) rfl [] rfl 0 1 rfl rfl rfl rfl hl.1 rfl (Nat.le_of_ble_eq_true rfl) dX3_greater_31 ⟨Nat.le_of_ble_eq_true rfl, Nat.le_of_ble_eq_true rfl⟩) hP hD hS hA [0] rfl (sp_fc sp_f0) (fun H locs hP hD hS => ?_)
      have hP : va_P D vwCl ([(h0, .inr (1, nm_fs (f_X1_raiseSignedLeast n0 (n1.2.2.2.2.1 + 1)))), (h1, .inr (1, nm_fs n1))]) H := hP
      have hD : va_D A ([(h0, .inr (1, nm_fs (f_X1_raiseSignedLeast n0 (n1.2.2.2.2.1 + 1)))), (h1, .inr (1, nm_fs n1))]) := hD
      refine lv_aload_n hx hb dX3_greater_34 rfl (lv_at hl 1 rfl) ?_
      refine lv_aload_n hx hb dX3_greater_35 rfl (lv_at hl 0 rfl) ?_
      refine va_get (D := D) (ci := 1) (v := .long ((f_X1_raiseSignedLeast n0 (n1.2.2.2.2.1 + 1)).2.2.2.2.2)) (C := RX1) (T := TX1) (N := 6) hx hb hts hi1 hown hK hP 0 rfl rfl 5 (by decide) hk2 (fun _ h9 => h9) rfl dX3_greater_36 ?_
      refine lv_lconst (v := 1) hx hb dX3_greater_39 (by decide) ?_
      refine lv_lsub hx hb dX3_greater_40 ?_
      refine sp_callv (sp_runV (As := [.long (((f_X1_raiseSignedLeast n0 (n1.2.2.2.2.1 + 1)).2.2.2.2.2) - 1)]) (rest := []) C (c_X1_lowerSignedGreatest l D h1 n1 (((f_X1_raiseSignedLeast n0 (n1.2.2.2.2.1 + 1)).2.2.2.2.2) - 1)) (cwV 1 hts (gV wG_c wm_265 wm_72 wm_73 wm_31 wm_70) rfl rfl rfl (by decide +kernel) ⟨Nat.le_of_ble_eq_true rfl, Nat.le_of_ble_eq_true rfl⟩) hK hP hD [1] (by decide) rfl [] rfl 0 1 rfl rfl rfl rfl hl.1 rfl (Nat.le_of_ble_eq_true rfl) dX3_greater_41 ⟨Nat.le_of_ble_eq_true rfl, Nat.le_of_ble_eq_true rfl⟩) hP hD hS hA [1] rfl (sp_fc sp_f0) (fun H locs hP hD hS => ?_)
      have hP : va_P D vwCl ([(h0, .inr (1, nm_fs (f_X1_raiseSignedLeast n0 (n1.2.2.2.2.1 + 1)))), (h1, .inr (1, nm_fs (f_X1_lowerSignedGreatest n1 (((f_X1_raiseSignedLeast n0 (n1.2.2.2.2.1 + 1)).2.2.2.2.2) - 1))))]) H := hP
      have hD : va_D A ([(h0, .inr (1, nm_fs (f_X1_raiseSignedLeast n0 (n1.2.2.2.2.1 + 1)))), (h1, .inr (1, nm_fs (f_X1_lowerSignedGreatest n1 (((f_X1_raiseSignedLeast n0 (n1.2.2.2.2.1 + 1)).2.2.2.2.2) - 1))))]) := hD
      refine lv_iconst (v := 1) hx hb dX3_greater_44 (by decide) ?_
      have e9 : f_X3_greater n0 n1 = ((f_X1_raiseSignedLeast n0 (n1.2.2.2.2.1 + 1)), (f_X1_lowerSignedGreatest n1 (((f_X1_raiseSignedLeast n0 (n1.2.2.2.2.1 + 1)).2.2.2.2.2) - 1)), 1) := (if_neg c1).trans ((if_neg c2).trans (rfl))
      rw [e9]
      exact sp_zret C hAe hP hK hD hS (Or.inr rfl) dX3_greater_45
    · refine lv_iconst (v := 0) hx hb dX3_greater_22 (by decide) ?_
      have e9 : f_X3_greater n0 n1 = (n0, n1, 0) := (if_neg c1).trans ((if_pos c2).trans (rfl))
      rw [e9]
      exact sp_zret C hAe hP hK hD hS (Or.inl rfl) dX3_greater_23
def f_X3_notLess (n0 : Nm) (n1 : Nm) : Nm × Nm × Int32 :=
  ((f_X1_raiseSignedLeast n0 n1.2.2.2.2.1), (f_X1_lowerSignedGreatest n1 ((f_X1_raiseSignedLeast n0 n1.2.2.2.2.1).2.2.2.2.2)), 1)
set_option maxHeartbeats 4000000 in
set_option maxRecDepth 100000 in
theorem c_X3_notLess (l : Launch) (D : va_G) (h0 : Nat) (h1 : Nat) (n0 : Nm) (n1 : Nm) : sp_M l yX3_notLess wsX3_notLess ({ frames := 2, cells := 0, slots := 0, locals := 38 }) D [.ref h0, .ref h1] ([(h0, .inr (1, nm_fs n0)), (h1, .inr (1, nm_fs n1))]) [] (sp_Qz D ([(h0, .inr (1, nm_fs n0)), (h1, .inr (1, nm_fs n1))]) ([(h0, .inr (1, nm_fs ((f_X3_notLess n0 n1).1))), (h1, .inr (1, nm_fs ((f_X3_notLess n0 n1).2.1)))]) [] ((f_X3_notLess n0 n1).2.2)) := by
  refine sp_ofW (cc := cX3_notLess) (nL := 2) (ret := (some .boolean)) (own := RX3) (by decide) rfl rfl (Nat.le_of_ble_eq_true rfl) ?_
  intro p e s m below meth c A ls hAe hnm C hA hP hK hD hS hl
  have hx := C.1
  have hb := C.2.1
  have hown := C.2.2.2.2.1
  have hts := C.2.2.2.2.2.1
  have hl : lv_has ls 2 [(0, .ref h0), (1, .ref h1)] := hl
  have hi1 : ∀ w ∈ u_ws RX1 TX1 6, w ∈ wsX3_notLess := fun w h => List.mem_cons_of_mem _ (inX1 w h)
  have hk0 := hts _ (List.mem_cons_of_mem _ wm_266)
  have hk1 := hts _ (List.mem_cons_of_mem _ wm_268)
  refine lv_aload_n hx hb dX3_notLess_0 rfl (lv_at hl 0 rfl) ?_
  refine lv_aload_n hx hb dX3_notLess_1 rfl (lv_at hl 1 rfl) ?_
  refine va_get (D := D) (ci := 1) (v := .long n1.2.2.2.2.1) (C := RX1) (T := TX1) (N := 6) hx hb hts hi1 hown hK hP 1 rfl rfl 4 (by decide) hk0 (fun _ h9 => h9) rfl dX3_notLess_2 ?_
  refine sp_callv (sp_runV (As := [.long n1.2.2.2.2.1]) (rest := []) C (c_X1_raiseSignedLeast l D h0 n0 n1.2.2.2.2.1) (cwV 1 hts (gV wG_c wm_264 wm_68 wm_69 wm_31 wm_66) rfl rfl rfl (by decide +kernel) ⟨Nat.le_of_ble_eq_true rfl, Nat.le_of_ble_eq_true rfl⟩) hK hP hD [0] (by decide) rfl [] rfl 0 1 rfl rfl rfl rfl hl.1 rfl (Nat.le_of_ble_eq_true rfl) dX3_notLess_5 ⟨Nat.le_of_ble_eq_true rfl, Nat.le_of_ble_eq_true rfl⟩) hP hD hS hA [0] rfl (sp_fc sp_f0) (fun H locs hP hD hS => ?_)
  have hP : va_P D vwCl ([(h0, .inr (1, nm_fs (f_X1_raiseSignedLeast n0 n1.2.2.2.2.1))), (h1, .inr (1, nm_fs n1))]) H := hP
  have hD : va_D A ([(h0, .inr (1, nm_fs (f_X1_raiseSignedLeast n0 n1.2.2.2.2.1))), (h1, .inr (1, nm_fs n1))]) := hD
  refine lv_aload_n hx hb dX3_notLess_8 rfl (lv_at hl 1 rfl) ?_
  refine lv_aload_n hx hb dX3_notLess_9 rfl (lv_at hl 0 rfl) ?_
  refine va_get (D := D) (ci := 1) (v := .long ((f_X1_raiseSignedLeast n0 n1.2.2.2.2.1).2.2.2.2.2)) (C := RX1) (T := TX1) (N := 6) hx hb hts hi1 hown hK hP 0 rfl rfl 5 (by decide) hk1 (fun _ h9 => h9) rfl dX3_notLess_10 ?_
  refine sp_callv (sp_runV (As := [.long ((f_X1_raiseSignedLeast n0 n1.2.2.2.2.1).2.2.2.2.2)]) (rest := []) C (c_X1_lowerSignedGreatest l D h1 n1 ((f_X1_raiseSignedLeast n0 n1.2.2.2.2.1).2.2.2.2.2)) (cwV 1 hts (gV wG_c wm_265 wm_72 wm_73 wm_31 wm_70) rfl rfl rfl (by decide +kernel) ⟨Nat.le_of_ble_eq_true rfl, Nat.le_of_ble_eq_true rfl⟩) hK hP hD [1] (by decide) rfl [] rfl 0 1 rfl rfl rfl rfl hl.1 rfl (Nat.le_of_ble_eq_true rfl) dX3_notLess_13 ⟨Nat.le_of_ble_eq_true rfl, Nat.le_of_ble_eq_true rfl⟩) hP hD hS hA [1] rfl (sp_fc sp_f0) (fun H locs hP hD hS => ?_)
  have hP : va_P D vwCl ([(h0, .inr (1, nm_fs (f_X1_raiseSignedLeast n0 n1.2.2.2.2.1))), (h1, .inr (1, nm_fs (f_X1_lowerSignedGreatest n1 ((f_X1_raiseSignedLeast n0 n1.2.2.2.2.1).2.2.2.2.2))))]) H := hP
  have hD : va_D A ([(h0, .inr (1, nm_fs (f_X1_raiseSignedLeast n0 n1.2.2.2.2.1))), (h1, .inr (1, nm_fs (f_X1_lowerSignedGreatest n1 ((f_X1_raiseSignedLeast n0 n1.2.2.2.2.1).2.2.2.2.2))))]) := hD
  refine lv_iconst (v := 1) hx hb dX3_notLess_16 (by decide) ?_
  have e9 : f_X3_notLess n0 n1 = ((f_X1_raiseSignedLeast n0 n1.2.2.2.2.1), (f_X1_lowerSignedGreatest n1 ((f_X1_raiseSignedLeast n0 n1.2.2.2.2.1).2.2.2.2.2)), 1) := rfl
  rw [e9]
  exact sp_zret C hAe hP hK hD hS (Or.inr rfl) dX3_notLess_17
def f_X3_same (n0 : Nm) (n1 : Nm) : Nm × Nm × Int32 :=
  if (lg_cmp ((n0.1 ^^^ n1.1) &&& ((n0.2.1 ||| n1.2.1) ^^^ (-1))) 0) = 0 then ((f_X1_lowerSignedGreatest (f_X1_raiseSignedLeast (f_X1_lowerGreatest (f_X1_raiseLeast (f_X1_setBits n0 (n0.1 ||| n1.1) (n0.2.1 &&& n1.2.1)) n1.2.2.1) n1.2.2.2.1) n1.2.2.2.2.1) n1.2.2.2.2.2), (f_X1_become n1 (f_X1_lowerSignedGreatest (f_X1_raiseSignedLeast (f_X1_lowerGreatest (f_X1_raiseLeast (f_X1_setBits n0 (n0.1 ||| n1.1) (n0.2.1 &&& n1.2.1)) n1.2.2.1) n1.2.2.2.1) n1.2.2.2.2.1) n1.2.2.2.2.2)), 1)
  else (n0, n1, 0)
set_option maxHeartbeats 4000000 in
set_option maxRecDepth 100000 in
theorem c_X3_same (l : Launch) (D : va_G) (h0 : Nat) (h1 : Nat) (h2 : Nat) (n0 : Nm) (n1 : Nm) : sp_M l yX3_same wsX3_same ({ frames := 2, cells := 0, slots := 0, locals := 45 }) D [.ref h0] ([(h0, .inr (3, [.ref h1, .ref h2])), (h1, .inr (1, nm_fs n0)), (h2, .inr (1, nm_fs n1))]) [] (sp_Qz D ([(h0, .inr (3, [.ref h1, .ref h2])), (h1, .inr (1, nm_fs n0)), (h2, .inr (1, nm_fs n1))]) ([(h0, .inr (3, [.ref h1, .ref h2])), (h1, .inr (1, nm_fs ((f_X3_same n0 n1).1))), (h2, .inr (1, nm_fs ((f_X3_same n0 n1).2.1)))]) [] ((f_X3_same n0 n1).2.2)) := by
  refine sp_ofW (cc := cX3_same) (nL := 1) (ret := (some .boolean)) (own := RX3) (by decide) rfl rfl (Nat.le_of_ble_eq_true rfl) ?_
  intro p e s m below meth c A ls hAe hnm C hA hP hK hD hS hl
  have hx := C.1
  have hb := C.2.1
  have hown := C.2.2.2.2.1
  have hts := C.2.2.2.2.2.1
  have hl : lv_has ls 1 [(0, .ref h0)] := hl
  have hi1 : ∀ w ∈ u_ws RX1 TX1 6, w ∈ wsX3_same := fun w h => List.mem_cons_of_mem _ (inX1 w h)
  have hi3 : ∀ w ∈ u_ws RX3 TX3 2, w ∈ wsX3_same := fun w h => List.mem_cons_of_mem _ (inX3 w h)
  have hk0 := hts _ (List.mem_cons_of_mem _ wm_113)
  have hk1 := hts _ (List.mem_cons_of_mem _ wm_272)
  have hk2 := hts _ (List.mem_cons_of_mem _ wm_114)
  have hk3 := hts _ (List.mem_cons_of_mem _ wm_273)
  have hk4 := hts _ (List.mem_cons_of_mem _ wm_262)
  have hk5 := hts _ (List.mem_cons_of_mem _ wm_261)
  have hk6 := hts _ (List.mem_cons_of_mem _ wm_263)
  have hk7 := hts _ (List.mem_cons_of_mem _ wm_266)
  have hk8 := hts _ (List.mem_cons_of_mem _ wm_268)
  refine lv_aload_n hx hb dX3_same_0 rfl (lv_at hl 0 rfl) ?_
  refine va_get (D := D) (ci := 3) (v := .ref h1) (C := RX3) (T := TX3) (N := 2) hx hb hts hi3 hown hK hP 0 rfl rfl 0 (by decide) hk0 (fun _ h9 => h9) rfl dX3_same_1 ?_
  refine va_get (D := D) (ci := 1) (v := .long n0.1) (C := RX1) (T := TX1) (N := 6) hx hb hts hi1 hown hK hP 1 rfl rfl 0 (by decide) hk1 (fun _ h9 => h9) rfl dX3_same_4 ?_
  refine lv_aload_n hx hb dX3_same_7 rfl (lv_at hl 0 rfl) ?_
  refine va_get (D := D) (ci := 3) (v := .ref h2) (C := RX3) (T := TX3) (N := 2) hx hb hts hi3 hown hK hP 0 rfl rfl 1 (by decide) hk2 (fun _ h9 => h9) rfl dX3_same_8 ?_
  refine va_get (D := D) (ci := 1) (v := .long n1.1) (C := RX1) (T := TX1) (N := 6) hx hb hts hi1 hown hK hP 2 rfl rfl 0 (by decide) hk1 (fun _ h9 => h9) rfl dX3_same_11 ?_
  refine lv_lxor hx hb dX3_same_14 ?_
  refine lv_aload_n hx hb dX3_same_15 rfl (lv_at hl 0 rfl) ?_
  refine va_get (D := D) (ci := 3) (v := .ref h1) (C := RX3) (T := TX3) (N := 2) hx hb hts hi3 hown hK hP 0 rfl rfl 0 (by decide) hk0 (fun _ h9 => h9) rfl dX3_same_16 ?_
  refine va_get (D := D) (ci := 1) (v := .long n0.2.1) (C := RX1) (T := TX1) (N := 6) hx hb hts hi1 hown hK hP 1 rfl rfl 1 (by decide) hk3 (fun _ h9 => h9) rfl dX3_same_19 ?_
  refine lv_aload_n hx hb dX3_same_22 rfl (lv_at hl 0 rfl) ?_
  refine va_get (D := D) (ci := 3) (v := .ref h2) (C := RX3) (T := TX3) (N := 2) hx hb hts hi3 hown hK hP 0 rfl rfl 1 (by decide) hk2 (fun _ h9 => h9) rfl dX3_same_23 ?_
  refine va_get (D := D) (ci := 1) (v := .long n1.2.1) (C := RX1) (T := TX1) (N := 6) hx hb hts hi1 hown hK hP 2 rfl rfl 1 (by decide) hk3 (fun _ h9 => h9) rfl dX3_same_26 ?_
  refine lv_lor hx hb dX3_same_29 ?_
  refine lv_ldc2 (v := (-1)) hx hb hown hk4 dX3_same_30 ?_
  refine lv_lxor hx hb dX3_same_33 ?_
  refine lv_land hx hb dX3_same_34 ?_
  refine lv_lconst (v := 0) hx hb dX3_same_35 (by decide) ?_
  refine W.lcmp hx hb dX3_same_36 ?_
  refine lv_if_eq (tgt := 42) hx hb dX3_same_37 (by decide) (fun c1 => ?_) (fun c1 => ?_)
  · refine lv_aload_n hx hb dX3_same_42 rfl (lv_at hl 0 rfl) ?_
    refine va_get (D := D) (ci := 3) (v := .ref h1) (C := RX3) (T := TX3) (N := 2) hx hb hts hi3 hown hK hP 0 rfl rfl 0 (by decide) hk0 (fun _ h9 => h9) rfl dX3_same_43 ?_
    refine lv_aload_n hx hb dX3_same_46 rfl (lv_at hl 0 rfl) ?_
    refine va_get (D := D) (ci := 3) (v := .ref h1) (C := RX3) (T := TX3) (N := 2) hx hb hts hi3 hown hK hP 0 rfl rfl 0 (by decide) hk0 (fun _ h9 => h9) rfl dX3_same_47 ?_
    refine va_get (D := D) (ci := 1) (v := .long n0.1) (C := RX1) (T := TX1) (N := 6) hx hb hts hi1 hown hK hP 1 rfl rfl 0 (by decide) hk1 (fun _ h9 => h9) rfl dX3_same_50 ?_
    refine lv_aload_n hx hb dX3_same_53 rfl (lv_at hl 0 rfl) ?_
    refine va_get (D := D) (ci := 3) (v := .ref h2) (C := RX3) (T := TX3) (N := 2) hx hb hts hi3 hown hK hP 0 rfl rfl 1 (by decide) hk2 (fun _ h9 => h9) rfl dX3_same_54 ?_
    refine va_get (D := D) (ci := 1) (v := .long n1.1) (C := RX1) (T := TX1) (N := 6) hx hb hts hi1 hown hK hP 2 rfl rfl 0 (by decide) hk1 (fun _ h9 => h9) rfl dX3_same_57 ?_
    refine lv_lor hx hb dX3_same_60 ?_
    refine lv_aload_n hx hb dX3_same_61 rfl (lv_at hl 0 rfl) ?_
    refine va_get (D := D) (ci := 3) (v := .ref h1) (C := RX3) (T := TX3) (N := 2) hx hb hts hi3 hown hK hP 0 rfl rfl 0 (by decide) hk0 (fun _ h9 => h9) rfl dX3_same_62 ?_
    refine va_get (D := D) (ci := 1) (v := .long n0.2.1) (C := RX1) (T := TX1) (N := 6) hx hb hts hi1 hown hK hP 1 rfl rfl 1 (by decide) hk3 (fun _ h9 => h9) rfl dX3_same_65 ?_
    refine lv_aload_n hx hb dX3_same_68 rfl (lv_at hl 0 rfl) ?_
    refine va_get (D := D) (ci := 3) (v := .ref h2) (C := RX3) (T := TX3) (N := 2) hx hb hts hi3 hown hK hP 0 rfl rfl 1 (by decide) hk2 (fun _ h9 => h9) rfl dX3_same_69 ?_
    refine va_get (D := D) (ci := 1) (v := .long n1.2.1) (C := RX1) (T := TX1) (N := 6) hx hb hts hi1 hown hK hP 2 rfl rfl 1 (by decide) hk3 (fun _ h9 => h9) rfl dX3_same_72 ?_
    refine lv_land hx hb dX3_same_75 ?_
    refine sp_callv (sp_runV (As := [.long (n0.1 ||| n1.1), .long (n0.2.1 &&& n1.2.1)]) (rest := []) C (c_X1_setBits l D h1 n0 (n0.1 ||| n1.1) (n0.2.1 &&& n1.2.1)) (cwV 2 hts (gV wG_c wm_270 wm_29 wm_30 wm_31 wm_27) rfl rfl rfl (by decide +kernel) ⟨Nat.le_of_ble_eq_true rfl, Nat.le_of_ble_eq_true rfl⟩) hK hP hD [1] (by decide) rfl [] rfl 0 1 rfl rfl rfl rfl hl.1 rfl (Nat.le_of_ble_eq_true rfl) dX3_same_76 ⟨Nat.le_of_ble_eq_true rfl, Nat.le_of_ble_eq_true rfl⟩) hP hD hS hA [1] rfl (sp_fc sp_f0) (fun H locs hP hD hS => ?_)
    have hP : va_P D vwCl ([(h0, .inr (3, [.ref h1, .ref h2])), (h1, .inr (1, nm_fs (f_X1_setBits n0 (n0.1 ||| n1.1) (n0.2.1 &&& n1.2.1)))), (h2, .inr (1, nm_fs n1))]) H := hP
    have hD : va_D A ([(h0, .inr (3, [.ref h1, .ref h2])), (h1, .inr (1, nm_fs (f_X1_setBits n0 (n0.1 ||| n1.1) (n0.2.1 &&& n1.2.1)))), (h2, .inr (1, nm_fs n1))]) := hD
    refine lv_aload_n hx hb dX3_same_79 rfl (lv_at hl 0 rfl) ?_
    refine va_get (D := D) (ci := 3) (v := .ref h1) (C := RX3) (T := TX3) (N := 2) hx hb hts hi3 hown hK hP 0 rfl rfl 0 (by decide) hk0 (fun _ h9 => h9) rfl dX3_same_80 ?_
    refine lv_aload_n hx hb dX3_same_83 rfl (lv_at hl 0 rfl) ?_
    refine va_get (D := D) (ci := 3) (v := .ref h2) (C := RX3) (T := TX3) (N := 2) hx hb hts hi3 hown hK hP 0 rfl rfl 1 (by decide) hk2 (fun _ h9 => h9) rfl dX3_same_84 ?_
    refine va_get (D := D) (ci := 1) (v := .long n1.2.2.1) (C := RX1) (T := TX1) (N := 6) hx hb hts hi1 hown hK hP 2 rfl rfl 2 (by decide) hk5 (fun _ h9 => h9) rfl dX3_same_87 ?_
    refine sp_callv (sp_runV (As := [.long n1.2.2.1]) (rest := []) C (c_X1_raiseLeast l D h1 (f_X1_setBits n0 (n0.1 ||| n1.1) (n0.2.1 &&& n1.2.1)) n1.2.2.1) (cwV 1 hts (gV wG_c wm_259 wm_56 wm_57 wm_31 wm_54) rfl rfl rfl (by decide +kernel) ⟨Nat.le_of_ble_eq_true rfl, Nat.le_of_ble_eq_true rfl⟩) hK hP hD [1] (by decide) rfl [] rfl 0 1 rfl rfl rfl rfl hl.1 rfl (Nat.le_of_ble_eq_true rfl) dX3_same_90 ⟨Nat.le_of_ble_eq_true rfl, Nat.le_of_ble_eq_true rfl⟩) hP hD hS hA [1] rfl (sp_fc sp_f0) (fun H locs hP hD hS => ?_)
    have hP : va_P D vwCl ([(h0, .inr (3, [.ref h1, .ref h2])), (h1, .inr (1, nm_fs (f_X1_raiseLeast (f_X1_setBits n0 (n0.1 ||| n1.1) (n0.2.1 &&& n1.2.1)) n1.2.2.1))), (h2, .inr (1, nm_fs n1))]) H := hP
    have hD : va_D A ([(h0, .inr (3, [.ref h1, .ref h2])), (h1, .inr (1, nm_fs (f_X1_raiseLeast (f_X1_setBits n0 (n0.1 ||| n1.1) (n0.2.1 &&& n1.2.1)) n1.2.2.1))), (h2, .inr (1, nm_fs n1))]) := hD
    refine lv_aload_n hx hb dX3_same_93 rfl (lv_at hl 0 rfl) ?_
    refine va_get (D := D) (ci := 3) (v := .ref h1) (C := RX3) (T := TX3) (N := 2) hx hb hts hi3 hown hK hP 0 rfl rfl 0 (by decide) hk0 (fun _ h9 => h9) rfl dX3_same_94 ?_
    refine lv_aload_n hx hb dX3_same_97 rfl (lv_at hl 0 rfl) ?_
    refine va_get (D := D) (ci := 3) (v := .ref h2) (C := RX3) (T := TX3) (N := 2) hx hb hts hi3 hown hK hP 0 rfl rfl 1 (by decide) hk2 (fun _ h9 => h9) rfl dX3_same_98 ?_
    refine va_get (D := D) (ci := 1) (v := .long n1.2.2.2.1) (C := RX1) (T := TX1) (N := 6) hx hb hts hi1 hown hK hP 2 rfl rfl 3 (by decide) hk6 (fun _ h9 => h9) rfl dX3_same_101 ?_
    refine sp_callv (sp_runV (As := [.long n1.2.2.2.1]) (rest := []) C (c_X1_lowerGreatest l D h1 (f_X1_raiseLeast (f_X1_setBits n0 (n0.1 ||| n1.1) (n0.2.1 &&& n1.2.1)) n1.2.2.1) n1.2.2.2.1) (cwV 1 hts (gV wG_c wm_260 wm_64 wm_65 wm_31 wm_62) rfl rfl rfl (by decide +kernel) ⟨Nat.le_of_ble_eq_true rfl, Nat.le_of_ble_eq_true rfl⟩) hK hP hD [1] (by decide) rfl [] rfl 0 1 rfl rfl rfl rfl hl.1 rfl (Nat.le_of_ble_eq_true rfl) dX3_same_104 ⟨Nat.le_of_ble_eq_true rfl, Nat.le_of_ble_eq_true rfl⟩) hP hD hS hA [1] rfl (sp_fc sp_f0) (fun H locs hP hD hS => ?_)
    have hP : va_P D vwCl ([(h0, .inr (3, [.ref h1, .ref h2])), (h1, .inr (1, nm_fs (f_X1_lowerGreatest (f_X1_raiseLeast (f_X1_setBits n0 (n0.1 ||| n1.1) (n0.2.1 &&& n1.2.1)) n1.2.2.1) n1.2.2.2.1))), (h2, .inr (1, nm_fs n1))]) H := hP
    have hD : va_D A ([(h0, .inr (3, [.ref h1, .ref h2])), (h1, .inr (1, nm_fs (f_X1_lowerGreatest (f_X1_raiseLeast (f_X1_setBits n0 (n0.1 ||| n1.1) (n0.2.1 &&& n1.2.1)) n1.2.2.1) n1.2.2.2.1))), (h2, .inr (1, nm_fs n1))]) := hD
    refine lv_aload_n hx hb dX3_same_107 rfl (lv_at hl 0 rfl) ?_
    refine va_get (D := D) (ci := 3) (v := .ref h1) (C := RX3) (T := TX3) (N := 2) hx hb hts hi3 hown hK hP 0 rfl rfl 0 (by decide) hk0 (fun _ h9 => h9) rfl dX3_same_108 ?_
    refine lv_aload_n hx hb dX3_same_111 rfl (lv_at hl 0 rfl) ?_
    refine va_get (D := D) (ci := 3) (v := .ref h2) (C := RX3) (T := TX3) (N := 2) hx hb hts hi3 hown hK hP 0 rfl rfl 1 (by decide) hk2 (fun _ h9 => h9) rfl dX3_same_112 ?_
    refine va_get (D := D) (ci := 1) (v := .long n1.2.2.2.2.1) (C := RX1) (T := TX1) (N := 6) hx hb hts hi1 hown hK hP 2 rfl rfl 4 (by decide) hk7 (fun _ h9 => h9) rfl dX3_same_115 ?_
    refine sp_callv (sp_runV (As := [.long n1.2.2.2.2.1]) (rest := []) C (c_X1_raiseSignedLeast l D h1 (f_X1_lowerGreatest (f_X1_raiseLeast (f_X1_setBits n0 (n0.1 ||| n1.1) (n0.2.1 &&& n1.2.1)) n1.2.2.1) n1.2.2.2.1) n1.2.2.2.2.1) (cwV 1 hts (gV wG_c wm_264 wm_68 wm_69 wm_31 wm_66) rfl rfl rfl (by decide +kernel) ⟨Nat.le_of_ble_eq_true rfl, Nat.le_of_ble_eq_true rfl⟩) hK hP hD [1] (by decide) rfl [] rfl 0 1 rfl rfl rfl rfl hl.1 rfl (Nat.le_of_ble_eq_true rfl) dX3_same_118 ⟨Nat.le_of_ble_eq_true rfl, Nat.le_of_ble_eq_true rfl⟩) hP hD hS hA [1] rfl (sp_fc sp_f0) (fun H locs hP hD hS => ?_)
    have hP : va_P D vwCl ([(h0, .inr (3, [.ref h1, .ref h2])), (h1, .inr (1, nm_fs (f_X1_raiseSignedLeast (f_X1_lowerGreatest (f_X1_raiseLeast (f_X1_setBits n0 (n0.1 ||| n1.1) (n0.2.1 &&& n1.2.1)) n1.2.2.1) n1.2.2.2.1) n1.2.2.2.2.1))), (h2, .inr (1, nm_fs n1))]) H := hP
    have hD : va_D A ([(h0, .inr (3, [.ref h1, .ref h2])), (h1, .inr (1, nm_fs (f_X1_raiseSignedLeast (f_X1_lowerGreatest (f_X1_raiseLeast (f_X1_setBits n0 (n0.1 ||| n1.1) (n0.2.1 &&& n1.2.1)) n1.2.2.1) n1.2.2.2.1) n1.2.2.2.2.1))), (h2, .inr (1, nm_fs n1))]) := hD
    refine lv_aload_n hx hb dX3_same_121 rfl (lv_at hl 0 rfl) ?_
    refine va_get (D := D) (ci := 3) (v := .ref h1) (C := RX3) (T := TX3) (N := 2) hx hb hts hi3 hown hK hP 0 rfl rfl 0 (by decide) hk0 (fun _ h9 => h9) rfl dX3_same_122 ?_
    refine lv_aload_n hx hb dX3_same_125 rfl (lv_at hl 0 rfl) ?_
    refine va_get (D := D) (ci := 3) (v := .ref h2) (C := RX3) (T := TX3) (N := 2) hx hb hts hi3 hown hK hP 0 rfl rfl 1 (by decide) hk2 (fun _ h9 => h9) rfl dX3_same_126 ?_
    refine va_get (D := D) (ci := 1) (v := .long n1.2.2.2.2.2) (C := RX1) (T := TX1) (N := 6) hx hb hts hi1 hown hK hP 2 rfl rfl 5 (by decide) hk8 (fun _ h9 => h9) rfl dX3_same_129 ?_
    refine sp_callv (sp_runV (As := [.long n1.2.2.2.2.2]) (rest := []) C (c_X1_lowerSignedGreatest l D h1 (f_X1_raiseSignedLeast (f_X1_lowerGreatest (f_X1_raiseLeast (f_X1_setBits n0 (n0.1 ||| n1.1) (n0.2.1 &&& n1.2.1)) n1.2.2.1) n1.2.2.2.1) n1.2.2.2.2.1) n1.2.2.2.2.2) (cwV 1 hts (gV wG_c wm_265 wm_72 wm_73 wm_31 wm_70) rfl rfl rfl (by decide +kernel) ⟨Nat.le_of_ble_eq_true rfl, Nat.le_of_ble_eq_true rfl⟩) hK hP hD [1] (by decide) rfl [] rfl 0 1 rfl rfl rfl rfl hl.1 rfl (Nat.le_of_ble_eq_true rfl) dX3_same_132 ⟨Nat.le_of_ble_eq_true rfl, Nat.le_of_ble_eq_true rfl⟩) hP hD hS hA [1] rfl (sp_fc sp_f0) (fun H locs hP hD hS => ?_)
    have hP : va_P D vwCl ([(h0, .inr (3, [.ref h1, .ref h2])), (h1, .inr (1, nm_fs (f_X1_lowerSignedGreatest (f_X1_raiseSignedLeast (f_X1_lowerGreatest (f_X1_raiseLeast (f_X1_setBits n0 (n0.1 ||| n1.1) (n0.2.1 &&& n1.2.1)) n1.2.2.1) n1.2.2.2.1) n1.2.2.2.2.1) n1.2.2.2.2.2))), (h2, .inr (1, nm_fs n1))]) H := hP
    have hD : va_D A ([(h0, .inr (3, [.ref h1, .ref h2])), (h1, .inr (1, nm_fs (f_X1_lowerSignedGreatest (f_X1_raiseSignedLeast (f_X1_lowerGreatest (f_X1_raiseLeast (f_X1_setBits n0 (n0.1 ||| n1.1) (n0.2.1 &&& n1.2.1)) n1.2.2.1) n1.2.2.2.1) n1.2.2.2.2.1) n1.2.2.2.2.2))), (h2, .inr (1, nm_fs n1))]) := hD
    refine lv_aload_n hx hb dX3_same_135 rfl (lv_at hl 0 rfl) ?_
    refine va_get (D := D) (ci := 3) (v := .ref h2) (C := RX3) (T := TX3) (N := 2) hx hb hts hi3 hown hK hP 0 rfl rfl 1 (by decide) hk2 (fun _ h9 => h9) rfl dX3_same_136 ?_
    refine lv_aload_n hx hb dX3_same_139 rfl (lv_at hl 0 rfl) ?_
    refine va_get (D := D) (ci := 3) (v := .ref h1) (C := RX3) (T := TX3) (N := 2) hx hb hts hi3 hown hK hP 0 rfl rfl 0 (by decide) hk0 (fun _ h9 => h9) rfl dX3_same_140 ?_
    refine sp_callv (sp_runV (As := [.ref h1]) (rest := []) C (c_X1_become l D h2 h1 n1 (f_X1_lowerSignedGreatest (f_X1_raiseSignedLeast (f_X1_lowerGreatest (f_X1_raiseLeast (f_X1_setBits n0 (n0.1 ||| n1.1) (n0.2.1 &&& n1.2.1)) n1.2.2.1) n1.2.2.2.1) n1.2.2.2.2.1) n1.2.2.2.2.2)) (cwV 1 hts (gV wG_c wm_271 wm_167 wm_168 wm_31 wm_165) rfl rfl rfl (by decide +kernel) ⟨Nat.le_of_ble_eq_true rfl, Nat.le_of_ble_eq_true rfl⟩) hK hP hD [2, 1] (by decide) rfl [] rfl 0 1 rfl rfl rfl rfl hl.1 rfl (Nat.le_of_ble_eq_true rfl) dX3_same_143 ⟨Nat.le_of_ble_eq_true rfl, Nat.le_of_ble_eq_true rfl⟩) hP hD hS hA [2, 1] rfl (sp_fc (sp_fc sp_f0)) (fun H locs hP hD hS => ?_)
    have hP : va_P D vwCl ([(h0, .inr (3, [.ref h1, .ref h2])), (h1, .inr (1, nm_fs (f_X1_lowerSignedGreatest (f_X1_raiseSignedLeast (f_X1_lowerGreatest (f_X1_raiseLeast (f_X1_setBits n0 (n0.1 ||| n1.1) (n0.2.1 &&& n1.2.1)) n1.2.2.1) n1.2.2.2.1) n1.2.2.2.2.1) n1.2.2.2.2.2))), (h2, .inr (1, nm_fs (f_X1_become n1 (f_X1_lowerSignedGreatest (f_X1_raiseSignedLeast (f_X1_lowerGreatest (f_X1_raiseLeast (f_X1_setBits n0 (n0.1 ||| n1.1) (n0.2.1 &&& n1.2.1)) n1.2.2.1) n1.2.2.2.1) n1.2.2.2.2.1) n1.2.2.2.2.2))))]) H := hP
    have hD : va_D A ([(h0, .inr (3, [.ref h1, .ref h2])), (h1, .inr (1, nm_fs (f_X1_lowerSignedGreatest (f_X1_raiseSignedLeast (f_X1_lowerGreatest (f_X1_raiseLeast (f_X1_setBits n0 (n0.1 ||| n1.1) (n0.2.1 &&& n1.2.1)) n1.2.2.1) n1.2.2.2.1) n1.2.2.2.2.1) n1.2.2.2.2.2))), (h2, .inr (1, nm_fs (f_X1_become n1 (f_X1_lowerSignedGreatest (f_X1_raiseSignedLeast (f_X1_lowerGreatest (f_X1_raiseLeast (f_X1_setBits n0 (n0.1 ||| n1.1) (n0.2.1 &&& n1.2.1)) n1.2.2.1) n1.2.2.2.1) n1.2.2.2.2.1) n1.2.2.2.2.2))))]) := hD
    refine lv_iconst (v := 1) hx hb dX3_same_146 (by decide) ?_
    have e9 : f_X3_same n0 n1 = ((f_X1_lowerSignedGreatest (f_X1_raiseSignedLeast (f_X1_lowerGreatest (f_X1_raiseLeast (f_X1_setBits n0 (n0.1 ||| n1.1) (n0.2.1 &&& n1.2.1)) n1.2.2.1) n1.2.2.2.1) n1.2.2.2.2.1) n1.2.2.2.2.2), (f_X1_become n1 (f_X1_lowerSignedGreatest (f_X1_raiseSignedLeast (f_X1_lowerGreatest (f_X1_raiseLeast (f_X1_setBits n0 (n0.1 ||| n1.1) (n0.2.1 &&& n1.2.1)) n1.2.2.1) n1.2.2.2.1) n1.2.2.2.2.1) n1.2.2.2.2.2)), 1) := (if_pos c1).trans (rfl)
    rw [e9]
    exact sp_zret C hAe hP hK hD hS (Or.inr rfl) dX3_same_147
  · refine lv_iconst (v := 0) hx hb dX3_same_40 (by decide) ?_
    have e9 : f_X3_same n0 n1 = (n0, n1, 0) := (if_neg c1).trans (rfl)
    rw [e9]
    exact sp_zret C hAe hP hK hD hS (Or.inl rfl) dX3_same_41
def f_X3_isOneBit (n0 : Nm) : Int32 :=
  if (f_X1_isExact n0) = 0 then 0
  else if (f_JL_bitCount n0.1) = 1 then 1
  else 0
set_option maxHeartbeats 4000000 in
set_option maxRecDepth 100000 in
theorem c_X3_isOneBit (l : Launch) (D : va_G) (h0 : Nat) (n0 : Nm) : sp_M l yX3_isOneBit wsX3_isOneBit ({ frames := 1, cells := 0, slots := 0, locals := 21 }) D [.ref h0] ([(h0, .inr (1, nm_fs n0))]) [] (sp_Qz D ([(h0, .inr (1, nm_fs n0))]) ([(h0, .inr (1, nm_fs n0))]) [] (f_X3_isOneBit n0)) := by
  refine sp_ofW (cc := cX3_isOneBit) (nL := 1) (ret := (some .boolean)) (own := RX3) (by decide) rfl rfl (Nat.le_of_ble_eq_true rfl) ?_
  intro p e s m below meth c A ls hAe hnm C hA hP hK hD hS hl
  have hx := C.1
  have hb := C.2.1
  have hown := C.2.2.2.2.1
  have hts := C.2.2.2.2.2.1
  have hl : lv_has ls 1 [(0, .ref h0)] := hl
  have hi1 : ∀ w ∈ u_ws RX1 TX1 6, w ∈ wsX3_isOneBit := fun w h => List.mem_cons_of_mem _ (inX1 w h)
  have hk0 := hts _ (List.mem_cons_of_mem _ wm_272)
  refine lv_aload_n hx hb dX3_isOneBit_0 rfl (lv_at hl 0 rfl) ?_
  refine sp_callz (sp_runV (As := []) (rest := []) C (c_X1_isExact l D h0 n0) (cwV 0 hts (gV wG_c wm_274 wm_151 wm_152 wm_31 wm_149) rfl rfl rfl (by decide +kernel) ⟨Nat.le_of_ble_eq_true rfl, Nat.le_of_ble_eq_true rfl⟩) hK hP hD [0] (by decide) rfl [] rfl 0 1 rfl rfl rfl rfl hl.1 rfl (Nat.le_of_ble_eq_true rfl) dX3_isOneBit_1 ⟨Nat.le_of_ble_eq_true rfl, Nat.le_of_ble_eq_true rfl⟩) hP hD hS hA [0] rfl (sp_fc sp_f0) (fun H locs z1 hP hD hS => ?_)
  have hP : va_P D vwCl ([(h0, .inr (1, nm_fs n0))]) H := hP
  have hD : va_D A ([(h0, .inr (1, nm_fs n0))]) := hD
  refine lv_if_eq (tgt := 22) hx hb dX3_isOneBit_4 (by decide) (fun c2 => ?_) (fun c2 => ?_)
  · refine lv_iconst (v := 0) hx hb dX3_isOneBit_22 (by decide) ?_
    have e9 : f_X3_isOneBit n0 = 0 := (if_pos c2).trans (rfl)
    rw [e9]
    exact sp_zret C hAe hP hK hD hS (Or.inl rfl) dX3_isOneBit_23
  · refine lv_aload_n hx hb dX3_isOneBit_7 rfl (lv_at hl 0 rfl) ?_
    refine va_get (D := D) (ci := 1) (v := .long n0.1) (C := RX1) (T := TX1) (N := 6) hx hb hts hi1 hown hK hP 0 rfl rfl 0 (by decide) hk0 (fun _ h9 => h9) rfl dX3_isOneBit_8 ?_
    refine sp_calli (sp_runS (As := [.long n0.1]) (rest := []) C (c_JL_bitCount l D n0.1) (va_cwS 1 hts (gS wG_c wm_276 wm_277 wm_77 wm_275) rfl rfl rfl (by decide +kernel) ⟨Nat.le_of_ble_eq_true rfl, Nat.le_of_ble_eq_true rfl⟩) hK hP hD [] (by decide) rfl [] rfl rfl hl.1 rfl (Nat.le_of_ble_eq_true rfl) dX3_isOneBit_11 ⟨Nat.le_of_ble_eq_true rfl, Nat.le_of_ble_eq_true rfl⟩) hP hD hS hA [] rfl sp_f0 (fun H locs hP hD hS => ?_)
    have hP : va_P D vwCl ([(h0, .inr (1, nm_fs n0))]) H := hP
    have hD : va_D A ([(h0, .inr (1, nm_fs n0))]) := hD
    refine lv_iconst (v := 1) hx hb dX3_isOneBit_14 (by decide) ?_
    refine lv_icmp_ne (tgt := 22) hx hb dX3_isOneBit_15 (by decide) (fun c3 => ?_) (fun c3 => ?_)
    · refine lv_iconst (v := 0) hx hb dX3_isOneBit_22 (by decide) ?_
      have e9 : f_X3_isOneBit n0 = 0 := (if_neg c2).trans ((if_neg c3).trans (rfl))
      rw [e9]
      exact sp_zret C hAe hP hK hD hS (Or.inl rfl) dX3_isOneBit_23
    · refine lv_iconst (v := 1) hx hb dX3_isOneBit_18 (by decide) ?_
      refine lv_goto (tgt := 23) hx hb dX3_isOneBit_19 (by decide) ?_
      have e9 : f_X3_isOneBit n0 = 1 := (if_neg c2).trans ((if_pos c3).trans (rfl))
      rw [e9]
      exact sp_zret C hAe hP hK hD hS (Or.inr rfl) dX3_isOneBit_23
def f_X3_isSigned (p1 : Int32) : Int32 :=
  if p1 = 5 then 1
  else if p1 = 6 then 1
  else if p1 = 9 then 1
  else if p1 = 10 then 1
  else 0
set_option maxHeartbeats 4000000 in
set_option maxRecDepth 100000 in
theorem c_X3_isSigned (l : Launch) (D : va_G) (p1 : Int32) : sp_M l yX3_isSigned wsX3_isSigned ({ frames := 0, cells := 0, slots := 0, locals := 0 }) D [.int p1] ([]) [] (sp_Qz D ([]) ([]) [] (f_X3_isSigned p1)) := by
  refine sp_ofW (cc := cX3_isSigned) (nL := 1) (ret := (some .boolean)) (own := RX3) (by decide) rfl rfl (Nat.le_of_ble_eq_true rfl) ?_
  intro p e s m below meth c A ls hAe hnm C hA hP hK hD hS hl
  have hx := C.1
  have hb := C.2.1
  have hown := C.2.2.2.2.1
  have hts := C.2.2.2.2.2.1
  have hl : lv_has ls 1 [(0, .int p1)] := hl
  refine lv_iload_n hx hb dX3_isSigned_0 rfl (lv_at hl 0 rfl) ?_
  refine lv_iconst (v := 5) hx hb dX3_isSigned_1 (by decide) ?_
  refine lv_icmp_eq (tgt := 23) hx hb dX3_isSigned_2 (by decide) (fun c1 => ?_) (fun c1 => ?_)
  · refine lv_iconst (v := 1) hx hb dX3_isSigned_23 (by decide) ?_
    refine lv_goto (tgt := 28) hx hb dX3_isSigned_24 (by decide) ?_
    have e9 : f_X3_isSigned p1 = 1 := (if_pos c1).trans (rfl)
    rw [e9]
    exact sp_zret C hAe hP hK hD hS (Or.inr rfl) dX3_isSigned_28
  · refine lv_iload_n hx hb dX3_isSigned_5 rfl (lv_at hl 0 rfl) ?_
    refine lv_bipush (v := 6) hx hb dX3_isSigned_6 (by decide) ?_
    refine lv_icmp_eq (tgt := 23) hx hb dX3_isSigned_8 (by decide) (fun c2 => ?_) (fun c2 => ?_)
    · refine lv_iconst (v := 1) hx hb dX3_isSigned_23 (by decide) ?_
      refine lv_goto (tgt := 28) hx hb dX3_isSigned_24 (by decide) ?_
      have e9 : f_X3_isSigned p1 = 1 := (if_neg c1).trans ((if_pos c2).trans (rfl))
      rw [e9]
      exact sp_zret C hAe hP hK hD hS (Or.inr rfl) dX3_isSigned_28
    · refine lv_iload_n hx hb dX3_isSigned_11 rfl (lv_at hl 0 rfl) ?_
      refine lv_bipush (v := 9) hx hb dX3_isSigned_12 (by decide) ?_
      refine lv_icmp_eq (tgt := 23) hx hb dX3_isSigned_14 (by decide) (fun c3 => ?_) (fun c3 => ?_)
      · refine lv_iconst (v := 1) hx hb dX3_isSigned_23 (by decide) ?_
        refine lv_goto (tgt := 28) hx hb dX3_isSigned_24 (by decide) ?_
        have e9 : f_X3_isSigned p1 = 1 := (if_neg c1).trans ((if_neg c2).trans ((if_pos c3).trans (rfl)))
        rw [e9]
        exact sp_zret C hAe hP hK hD hS (Or.inr rfl) dX3_isSigned_28
      · refine lv_iload_n hx hb dX3_isSigned_17 rfl (lv_at hl 0 rfl) ?_
        refine lv_bipush (v := 10) hx hb dX3_isSigned_18 (by decide) ?_
        refine lv_icmp_ne (tgt := 27) hx hb dX3_isSigned_20 (by decide) (fun c4 => ?_) (fun c4 => ?_)
        · refine lv_iconst (v := 0) hx hb dX3_isSigned_27 (by decide) ?_
          have e9 : f_X3_isSigned p1 = 0 := (if_neg c1).trans ((if_neg c2).trans ((if_neg c3).trans ((if_neg c4).trans (rfl))))
          rw [e9]
          exact sp_zret C hAe hP hK hD hS (Or.inl rfl) dX3_isSigned_28
        · refine lv_iconst (v := 1) hx hb dX3_isSigned_23 (by decide) ?_
          refine lv_goto (tgt := 28) hx hb dX3_isSigned_24 (by decide) ?_
          have e9 : f_X3_isSigned p1 = 1 := (if_neg c1).trans ((if_neg c2).trans ((if_neg c3).trans ((if_pos c4).trans (rfl))))
          rw [e9]
          exact sp_zret C hAe hP hK hD hS (Or.inr rfl) dX3_isSigned_28
def f_X3_fitsNarrow (n0 : Nm) (n1 : Nm) (p1 : Int32) : Int32 :=
  if (f_X3_isSigned p1) = 0 then (if (f_X0_isAbove n0.2.2.2.1 4294967295) = 0 then (if (f_X0_isAbove n1.2.2.2.1 4294967295) = 0 then 1
      else 0)
    else 0)
  else if (f_X0_isAbove n0.2.2.2.1 2147483647) = 0 then (if (f_X0_isAbove n1.2.2.2.1 2147483647) = 0 then 1
    else 0)
  else 0
set_option maxHeartbeats 4000000 in
set_option maxRecDepth 100000 in
theorem c_X3_fitsNarrow (l : Launch) (D : va_G) (h0 : Nat) (h1 : Nat) (h2 : Nat) (n0 : Nm) (n1 : Nm) (p1 : Int32) : sp_M l yX3_fitsNarrow wsX3_fitsNarrow ({ frames := 1, cells := 0, slots := 0, locals := 23 }) D [.ref h0, .int p1] ([(h0, .inr (3, [.ref h1, .ref h2])), (h1, .inr (1, nm_fs n0)), (h2, .inr (1, nm_fs n1))]) [] (sp_Qz D ([(h0, .inr (3, [.ref h1, .ref h2])), (h1, .inr (1, nm_fs n0)), (h2, .inr (1, nm_fs n1))]) ([(h0, .inr (3, [.ref h1, .ref h2])), (h1, .inr (1, nm_fs n0)), (h2, .inr (1, nm_fs n1))]) [] (f_X3_fitsNarrow n0 n1 p1)) := by
  refine sp_ofW (cc := cX3_fitsNarrow) (nL := 4) (ret := (some .boolean)) (own := RX3) (by decide) rfl rfl (Nat.le_of_ble_eq_true rfl) ?_
  intro p e s m below meth c A ls hAe hnm C hA hP hK hD hS hl
  have hx := C.1
  have hb := C.2.1
  have hown := C.2.2.2.2.1
  have hts := C.2.2.2.2.2.1
  have hl : lv_has ls 4 [(0, .ref h0), (1, .int p1)] := hl
  have hi1 : ∀ w ∈ u_ws RX1 TX1 6, w ∈ wsX3_fitsNarrow := fun w h => List.mem_cons_of_mem _ (inX1 w h)
  have hi3 : ∀ w ∈ u_ws RX3 TX3 2, w ∈ wsX3_fitsNarrow := fun w h => List.mem_cons_of_mem _ (inX3 w h)
  have hk0 := hts _ (List.mem_cons_of_mem _ wm_281)
  have hk1 := hts _ (List.mem_cons_of_mem _ wm_113)
  have hk2 := hts _ (List.mem_cons_of_mem _ wm_263)
  have hk3 := hts _ (List.mem_cons_of_mem _ wm_4)
  have hk4 := hts _ (List.mem_cons_of_mem _ wm_3)
  have hk5 := hts _ (List.mem_cons_of_mem _ wm_114)
  have hk6 := hts _ (List.mem_cons_of_mem _ wm_282)
  refine lv_iload_n hx hb dX3_fitsNarrow_0 rfl (lv_at hl 1 rfl) ?_
  refine sp_callz (sp_runS (As := [.int p1]) (rest := []) C (c_X3_isSigned l D p1) (va_cwS 1 hts (gS wG_c wm_279 wm_280 wm_127 wm_278) rfl rfl rfl (by decide +kernel) ⟨Nat.le_of_ble_eq_true rfl, Nat.le_of_ble_eq_true rfl⟩) hK hP hD [] (by decide) rfl [] rfl rfl hl.1 rfl (Nat.le_of_ble_eq_true rfl) dX3_fitsNarrow_1 ⟨Nat.le_of_ble_eq_true rfl, Nat.le_of_ble_eq_true rfl⟩) hP hD hS hA [] rfl sp_f0 (fun H locs z1 hP hD hS => ?_)
  have hP : va_P D vwCl ([(h0, .inr (3, [.ref h1, .ref h2])), (h1, .inr (1, nm_fs n0)), (h2, .inr (1, nm_fs n1))]) H := hP
  have hD : va_D A ([(h0, .inr (3, [.ref h1, .ref h2])), (h1, .inr (1, nm_fs n0)), (h2, .inr (1, nm_fs n1))]) := hD
  refine lv_if_eq (tgt := 13) hx hb dX3_fitsNarrow_4 (by decide) (fun c2 => ?_) (fun c2 => ?_)
  · refine lv_ldc2 (v := 4294967295) hx hb hown hk0 dX3_fitsNarrow_13 ?_
    refine lv_lstore_n (lv' := [(2, .long 4294967295), (0, .ref h0), (1, .int p1)]) hx hb dX3_fitsNarrow_16 rfl hl (by decide) rfl (fun ls hl => ?_)
    refine lv_aload_n hx hb dX3_fitsNarrow_17 rfl (lv_at hl 1 rfl) ?_
    refine va_get (D := D) (ci := 3) (v := .ref h1) (C := RX3) (T := TX3) (N := 2) hx hb hts hi3 hown hK hP 0 rfl rfl 0 (by decide) hk1 (fun _ h9 => h9) rfl dX3_fitsNarrow_18 ?_
    refine va_get (D := D) (ci := 1) (v := .long n0.2.2.2.1) (C := RX1) (T := TX1) (N := 6) hx hb hts hi1 hown hK hP 1 rfl rfl 3 (by decide) hk2 (fun _ h9 => h9) rfl dX3_fitsNarrow_21 ?_
    refine lv_lload_n hx hb dX3_fitsNarrow_24 rfl (lv_at hl 0 rfl) ?_
    refine sp_callz (sp_runSN (As := [.long n0.2.2.2.1, .long 4294967295]) (rest := []) C (c_X0_isAbove l D n0.2.2.2.1 4294967295) ⟨va_cnB 2 hts (gG wG_c wm_1) rfl rfl rfl (C.2.2.2.2.2.2.2.1 (RX3, 143, yX0_isAbove, "RangeDesk") (List.mem_of_getElem? (i := 9) rfl)) hk3 (by decide +kernel) ⟨Nat.le_of_ble_eq_true rfl, Nat.le_of_ble_eq_true rfl⟩, hk4, trivial⟩ hK hP hD [] (by decide) rfl [] rfl rfl hl.1 rfl (Nat.le_of_ble_eq_true rfl) dX3_fitsNarrow_25 ⟨Nat.le_of_ble_eq_true rfl, Nat.le_of_ble_eq_true rfl⟩) hP hD hS hA [] rfl sp_f0 (fun H locs z3 hP hD hS => ?_)
    have hP : va_P D vwCl ([(h0, .inr (3, [.ref h1, .ref h2])), (h1, .inr (1, nm_fs n0)), (h2, .inr (1, nm_fs n1))]) H := hP
    have hD : va_D A ([(h0, .inr (3, [.ref h1, .ref h2])), (h1, .inr (1, nm_fs n0)), (h2, .inr (1, nm_fs n1))]) := hD
    refine lv_if_ne (tgt := 49) hx hb dX3_fitsNarrow_28 (by decide) (fun c4 => ?_) (fun c4 => ?_)
    · refine lv_iconst (v := 0) hx hb dX3_fitsNarrow_49 (by decide) ?_
      have e9 : f_X3_fitsNarrow n0 n1 p1 = 0 := (if_pos c2).trans ((if_neg c4).trans (rfl))
      rw [e9]
      exact sp_zret C hAe hP hK hD hS (Or.inl rfl) dX3_fitsNarrow_50
    · refine lv_aload_n hx hb dX3_fitsNarrow_31 rfl (lv_at hl 1 rfl) ?_
      refine va_get (D := D) (ci := 3) (v := .ref h2) (C := RX3) (T := TX3) (N := 2) hx hb hts hi3 hown hK hP 0 rfl rfl 1 (by decide) hk5 (fun _ h9 => h9) rfl dX3_fitsNarrow_32 ?_
      refine va_get (D := D) (ci := 1) (v := .long n1.2.2.2.1) (C := RX1) (T := TX1) (N := 6) hx hb hts hi1 hown hK hP 2 rfl rfl 3 (by decide) hk2 (fun _ h9 => h9) rfl dX3_fitsNarrow_35 ?_
      refine lv_lload_n hx hb dX3_fitsNarrow_38 rfl (lv_at hl 0 rfl) ?_
      refine sp_callz (sp_runSN (As := [.long n1.2.2.2.1, .long 4294967295]) (rest := []) C (c_X0_isAbove l D n1.2.2.2.1 4294967295) ⟨va_cnB 2 hts (gG wG_c wm_1) rfl rfl rfl (C.2.2.2.2.2.2.2.1 (RX3, 143, yX0_isAbove, "RangeDesk") (List.mem_of_getElem? (i := 9) rfl)) hk3 (by decide +kernel) ⟨Nat.le_of_ble_eq_true rfl, Nat.le_of_ble_eq_true rfl⟩, hk4, trivial⟩ hK hP hD [] (by decide) rfl [] rfl rfl hl.1 rfl (Nat.le_of_ble_eq_true rfl) dX3_fitsNarrow_39 ⟨Nat.le_of_ble_eq_true rfl, Nat.le_of_ble_eq_true rfl⟩) hP hD hS hA [] rfl sp_f0 (fun H locs z5 hP hD hS => ?_)
      have hP : va_P D vwCl ([(h0, .inr (3, [.ref h1, .ref h2])), (h1, .inr (1, nm_fs n0)), (h2, .inr (1, nm_fs n1))]) H := hP
      have hD : va_D A ([(h0, .inr (3, [.ref h1, .ref h2])), (h1, .inr (1, nm_fs n0)), (h2, .inr (1, nm_fs n1))]) := hD
      refine lv_if_ne (tgt := 49) hx hb dX3_fitsNarrow_42 (by decide) (fun c6 => ?_) (fun c6 => ?_)
      · refine lv_iconst (v := 0) hx hb dX3_fitsNarrow_49 (by decide) ?_
        have e9 : f_X3_fitsNarrow n0 n1 p1 = 0 := (if_pos c2).trans ((if_pos c4).trans ((if_neg c6).trans (rfl)))
        rw [e9]
        exact sp_zret C hAe hP hK hD hS (Or.inl rfl) dX3_fitsNarrow_50
      · refine lv_iconst (v := 1) hx hb dX3_fitsNarrow_45 (by decide) ?_
        refine lv_goto (tgt := 50) hx hb dX3_fitsNarrow_46 (by decide) ?_
        have e9 : f_X3_fitsNarrow n0 n1 p1 = 1 := (if_pos c2).trans ((if_pos c4).trans ((if_pos c6).trans (rfl)))
        rw [e9]
        exact sp_zret C hAe hP hK hD hS (Or.inr rfl) dX3_fitsNarrow_50
  · refine lv_ldc2 (v := 2147483647) hx hb hown hk6 dX3_fitsNarrow_7 ?_
    refine lv_goto (tgt := 16) hx hb dX3_fitsNarrow_10 (by decide) ?_
    refine lv_lstore_n (lv' := [(2, .long 2147483647), (0, .ref h0), (1, .int p1)]) hx hb dX3_fitsNarrow_16 rfl hl (by decide) rfl (fun ls hl => ?_)
    refine lv_aload_n hx hb dX3_fitsNarrow_17 rfl (lv_at hl 1 rfl) ?_
    refine va_get (D := D) (ci := 3) (v := .ref h1) (C := RX3) (T := TX3) (N := 2) hx hb hts hi3 hown hK hP 0 rfl rfl 0 (by decide) hk1 (fun _ h9 => h9) rfl dX3_fitsNarrow_18 ?_
    refine va_get (D := D) (ci := 1) (v := .long n0.2.2.2.1) (C := RX1) (T := TX1) (N := 6) hx hb hts hi1 hown hK hP 1 rfl rfl 3 (by decide) hk2 (fun _ h9 => h9) rfl dX3_fitsNarrow_21 ?_
    refine lv_lload_n hx hb dX3_fitsNarrow_24 rfl (lv_at hl 0 rfl) ?_
    refine sp_callz (sp_runSN (As := [.long n0.2.2.2.1, .long 2147483647]) (rest := []) C (c_X0_isAbove l D n0.2.2.2.1 2147483647) ⟨va_cnB 2 hts (gG wG_c wm_1) rfl rfl rfl (C.2.2.2.2.2.2.2.1 (RX3, 143, yX0_isAbove, "RangeDesk") (List.mem_of_getElem? (i := 9) rfl)) hk3 (by decide +kernel) ⟨Nat.le_of_ble_eq_true rfl, Nat.le_of_ble_eq_true rfl⟩, hk4, trivial⟩ hK hP hD [] (by decide) rfl [] rfl rfl hl.1 rfl (Nat.le_of_ble_eq_true rfl) dX3_fitsNarrow_25 ⟨Nat.le_of_ble_eq_true rfl, Nat.le_of_ble_eq_true rfl⟩) hP hD hS hA [] rfl sp_f0 (fun H locs z7 hP hD hS => ?_)
    have hP : va_P D vwCl ([(h0, .inr (3, [.ref h1, .ref h2])), (h1, .inr (1, nm_fs n0)), (h2, .inr (1, nm_fs n1))]) H := hP
    have hD : va_D A ([(h0, .inr (3, [.ref h1, .ref h2])), (h1, .inr (1, nm_fs n0)), (h2, .inr (1, nm_fs n1))]) := hD
    refine lv_if_ne (tgt := 49) hx hb dX3_fitsNarrow_28 (by decide) (fun c8 => ?_) (fun c8 => ?_)
    · refine lv_iconst (v := 0) hx hb dX3_fitsNarrow_49 (by decide) ?_
      have e9 : f_X3_fitsNarrow n0 n1 p1 = 0 := (if_neg c2).trans ((if_neg c8).trans (rfl))
      rw [e9]
      exact sp_zret C hAe hP hK hD hS (Or.inl rfl) dX3_fitsNarrow_50
    · refine lv_aload_n hx hb dX3_fitsNarrow_31 rfl (lv_at hl 1 rfl) ?_
      refine va_get (D := D) (ci := 3) (v := .ref h2) (C := RX3) (T := TX3) (N := 2) hx hb hts hi3 hown hK hP 0 rfl rfl 1 (by decide) hk5 (fun _ h9 => h9) rfl dX3_fitsNarrow_32 ?_
      refine va_get (D := D) (ci := 1) (v := .long n1.2.2.2.1) (C := RX1) (T := TX1) (N := 6) hx hb hts hi1 hown hK hP 2 rfl rfl 3 (by decide) hk2 (fun _ h9 => h9) rfl dX3_fitsNarrow_35 ?_
      refine lv_lload_n hx hb dX3_fitsNarrow_38 rfl (lv_at hl 0 rfl) ?_
      refine sp_callz (sp_runSN (As := [.long n1.2.2.2.1, .long 2147483647]) (rest := []) C (c_X0_isAbove l D n1.2.2.2.1 2147483647) ⟨va_cnB 2 hts (gG wG_c wm_1) rfl rfl rfl (C.2.2.2.2.2.2.2.1 (RX3, 143, yX0_isAbove, "RangeDesk") (List.mem_of_getElem? (i := 9) rfl)) hk3 (by decide +kernel) ⟨Nat.le_of_ble_eq_true rfl, Nat.le_of_ble_eq_true rfl⟩, hk4, trivial⟩ hK hP hD [] (by decide) rfl [] rfl rfl hl.1 rfl (Nat.le_of_ble_eq_true rfl) dX3_fitsNarrow_39 ⟨Nat.le_of_ble_eq_true rfl, Nat.le_of_ble_eq_true rfl⟩) hP hD hS hA [] rfl sp_f0 (fun H locs z9 hP hD hS => ?_)
      have hP : va_P D vwCl ([(h0, .inr (3, [.ref h1, .ref h2])), (h1, .inr (1, nm_fs n0)), (h2, .inr (1, nm_fs n1))]) H := hP
      have hD : va_D A ([(h0, .inr (3, [.ref h1, .ref h2])), (h1, .inr (1, nm_fs n0)), (h2, .inr (1, nm_fs n1))]) := hD
      refine lv_if_ne (tgt := 49) hx hb dX3_fitsNarrow_42 (by decide) (fun c10 => ?_) (fun c10 => ?_)
      · refine lv_iconst (v := 0) hx hb dX3_fitsNarrow_49 (by decide) ?_
        have e9 : f_X3_fitsNarrow n0 n1 p1 = 0 := (if_neg c2).trans ((if_pos c8).trans ((if_neg c10).trans (rfl)))
        rw [e9]
        exact sp_zret C hAe hP hK hD hS (Or.inl rfl) dX3_fitsNarrow_50
      · refine lv_iconst (v := 1) hx hb dX3_fitsNarrow_45 (by decide) ?_
        refine lv_goto (tgt := 50) hx hb dX3_fitsNarrow_46 (by decide) ?_
        have e9 : f_X3_fitsNarrow n0 n1 p1 = 1 := (if_neg c2).trans ((if_pos c8).trans ((if_pos c10).trans (rfl)))
        rw [e9]
        exact sp_zret C hAe hP hK hD hS (Or.inr rfl) dX3_fitsNarrow_50
def f_X3_notSame (n0 : Nm) (n1 : Nm) : Nm × Nm × Int32 :=
  if (f_X1_isExact n1) = 0 then (if (f_X1_isExact n0) = 0 then (n0, n1, 1)
    else if ((f_X1_exclude n1 n0.1).2) = 0 then (n0, ((f_X1_exclude n1 n0.1).1), 0)
    else (n0, ((f_X1_exclude n1 n0.1).1), 1))
  else if ((f_X1_exclude n0 n1.1).2) = 0 then (((f_X1_exclude n0 n1.1).1), n1, 0)
  else if (f_X1_isExact n0) = 0 then (((f_X1_exclude n0 n1.1).1), n1, 1)
  else if ((f_X1_exclude n1 n0.1).2) = 0 then (((f_X1_exclude n0 n1.1).1), ((f_X1_exclude n1 n0.1).1), 0)
  else (((f_X1_exclude n0 n1.1).1), ((f_X1_exclude n1 n0.1).1), 1)
set_option maxHeartbeats 4000000 in
set_option maxRecDepth 100000 in
theorem c_X3_notSame (l : Launch) (D : va_G) (h0 : Nat) (h1 : Nat) (h2 : Nat) (n0 : Nm) (n1 : Nm) : sp_M l yX3_notSame wsX3_notSame ({ frames := 2, cells := 0, slots := 0, locals := 44 }) D [.ref h0] ([(h0, .inr (3, [.ref h1, .ref h2])), (h1, .inr (1, nm_fs n0)), (h2, .inr (1, nm_fs n1))]) [] (sp_Qz D ([(h0, .inr (3, [.ref h1, .ref h2])), (h1, .inr (1, nm_fs n0)), (h2, .inr (1, nm_fs n1))]) ([(h0, .inr (3, [.ref h1, .ref h2])), (h1, .inr (1, nm_fs ((f_X3_notSame n0 n1).1))), (h2, .inr (1, nm_fs ((f_X3_notSame n0 n1).2.1)))]) [] ((f_X3_notSame n0 n1).2.2)) := by
  refine sp_ofW (cc := cX3_notSame) (nL := 4) (ret := (some .boolean)) (own := RX3) (by decide) rfl rfl (Nat.le_of_ble_eq_true rfl) ?_
  intro p e s m below meth c A ls hAe hnm C hA hP hK hD hS hl
  have hx := C.1
  have hb := C.2.1
  have hown := C.2.2.2.2.1
  have hts := C.2.2.2.2.2.1
  have hl : lv_has ls 4 [(0, .ref h0)] := hl
  have hi1 : ∀ w ∈ u_ws RX1 TX1 6, w ∈ wsX3_notSame := fun w h => List.mem_cons_of_mem _ (inX1 w h)
  have hi3 : ∀ w ∈ u_ws RX3 TX3 2, w ∈ wsX3_notSame := fun w h => List.mem_cons_of_mem _ (inX3 w h)
  have hk0 := hts _ (List.mem_cons_of_mem _ wm_113)
  have hk1 := hts _ (List.mem_cons_of_mem _ wm_272)
  have hk2 := hts _ (List.mem_cons_of_mem _ wm_114)
  refine lv_aload_n hx hb dX3_notSame_0 rfl (lv_at hl 0 rfl) ?_
  refine va_get (D := D) (ci := 3) (v := .ref h1) (C := RX3) (T := TX3) (N := 2) hx hb hts hi3 hown hK hP 0 rfl rfl 0 (by decide) hk0 (fun _ h9 => h9) rfl dX3_notSame_1 ?_
  refine sp_callz (sp_runV (As := []) (rest := []) C (c_X1_isExact l D h1 n0) (cwV 0 hts (gV wG_c wm_274 wm_151 wm_152 wm_31 wm_149) rfl rfl rfl (by decide +kernel) ⟨Nat.le_of_ble_eq_true rfl, Nat.le_of_ble_eq_true rfl⟩) hK hP hD [1] (by decide) rfl [] rfl 0 1 rfl rfl rfl rfl hl.1 rfl (Nat.le_of_ble_eq_true rfl) dX3_notSame_4 ⟨Nat.le_of_ble_eq_true rfl, Nat.le_of_ble_eq_true rfl⟩) hP hD hS hA [1] rfl (sp_fc sp_f0) (fun H locs z1 hP hD hS => ?_)
  have hP : va_P D vwCl ([(h0, .inr (3, [.ref h1, .ref h2])), (h1, .inr (1, nm_fs n0)), (h2, .inr (1, nm_fs n1))]) H := hP
  have hD : va_D A ([(h0, .inr (3, [.ref h1, .ref h2])), (h1, .inr (1, nm_fs n0)), (h2, .inr (1, nm_fs n1))]) := hD
  refine lv_istore_n (lv' := [(1, .int (f_X1_isExact n0)), (0, .ref h0)]) hx hb dX3_notSame_7 rfl hl (by decide) rfl (fun ls hl => ?_)
  refine lv_aload_n hx hb dX3_notSame_8 rfl (lv_at hl 1 rfl) ?_
  refine va_get (D := D) (ci := 3) (v := .ref h1) (C := RX3) (T := TX3) (N := 2) hx hb hts hi3 hown hK hP 0 rfl rfl 0 (by decide) hk0 (fun _ h9 => h9) rfl dX3_notSame_9 ?_
  refine va_get (D := D) (ci := 1) (v := .long n0.1) (C := RX1) (T := TX1) (N := 6) hx hb hts hi1 hown hK hP 1 rfl rfl 0 (by decide) hk1 (fun _ h9 => h9) rfl dX3_notSame_12 ?_
  refine lv_lstore_n (lv' := [(2, .long n0.1), (1, .int (f_X1_isExact n0)), (0, .ref h0)]) hx hb dX3_notSame_15 rfl hl (by decide) rfl (fun ls hl => ?_)
  refine lv_aload_n hx hb dX3_notSame_16 rfl (lv_at hl 2 rfl) ?_
  refine va_get (D := D) (ci := 3) (v := .ref h2) (C := RX3) (T := TX3) (N := 2) hx hb hts hi3 hown hK hP 0 rfl rfl 1 (by decide) hk2 (fun _ h9 => h9) rfl dX3_notSame_17 ?_
  refine sp_callz (sp_runV (As := []) (rest := []) C (c_X1_isExact l D h2 n1) (cwV 0 hts (gV wG_c wm_274 wm_151 wm_152 wm_31 wm_149) rfl rfl rfl (by decide +kernel) ⟨Nat.le_of_ble_eq_true rfl, Nat.le_of_ble_eq_true rfl⟩) hK hP hD [2] (by decide) rfl [] rfl 0 1 rfl rfl rfl rfl hl.1 rfl (Nat.le_of_ble_eq_true rfl) dX3_notSame_20 ⟨Nat.le_of_ble_eq_true rfl, Nat.le_of_ble_eq_true rfl⟩) hP hD hS hA [2] rfl (sp_fc sp_f0) (fun H locs z2 hP hD hS => ?_)
  have hP : va_P D vwCl ([(h0, .inr (3, [.ref h1, .ref h2])), (h1, .inr (1, nm_fs n0)), (h2, .inr (1, nm_fs n1))]) H := hP
  have hD : va_D A ([(h0, .inr (3, [.ref h1, .ref h2])), (h1, .inr (1, nm_fs n0)), (h2, .inr (1, nm_fs n1))]) := hD
  refine lv_if_eq (tgt := 45) hx hb dX3_notSame_23 (by decide) (fun c3 => ?_) (fun c3 => ?_)
  · refine lv_iload_n hx hb dX3_notSame_45 rfl (lv_at hl 1 rfl) ?_
    refine lv_if_eq (tgt := 60) hx hb dX3_notSame_46 (by decide) (fun c4 => ?_) (fun c4 => ?_)
    · refine lv_iconst (v := 1) hx hb dX3_notSame_60 (by decide) ?_
      refine lv_goto (tgt := 65) hx hb dX3_notSame_61 (by decide) ?_
      have e9 : f_X3_notSame n0 n1 = (n0, n1, 1) := (if_pos c3).trans ((if_pos c4).trans (rfl))
      rw [e9]
      exact sp_zret C hAe hP hK hD hS (Or.inr rfl) dX3_notSame_65
    · refine lv_aload_n hx hb dX3_notSame_49 rfl (lv_at hl 2 rfl) ?_
      refine va_get (D := D) (ci := 3) (v := .ref h2) (C := RX3) (T := TX3) (N := 2) hx hb hts hi3 hown hK hP 0 rfl rfl 1 (by decide) hk2 (fun _ h9 => h9) rfl dX3_notSame_50 ?_
      refine lv_lload_n hx hb dX3_notSame_53 rfl (lv_at hl 0 rfl) ?_
      refine sp_callz (sp_runV (As := [.long n0.1]) (rest := []) C (c_X1_exclude l D h2 n1 n0.1) (cwV 1 hts (gV wG_c wm_284 wm_285 wm_286 wm_31 wm_283) rfl rfl rfl (by decide +kernel) ⟨Nat.le_of_ble_eq_true rfl, Nat.le_of_ble_eq_true rfl⟩) hK hP hD [2] (by decide) rfl [] rfl 0 1 rfl rfl rfl rfl hl.1 rfl (Nat.le_of_ble_eq_true rfl) dX3_notSame_54 ⟨Nat.le_of_ble_eq_true rfl, Nat.le_of_ble_eq_true rfl⟩) hP hD hS hA [2] rfl (sp_fc sp_f0) (fun H locs z5 hP hD hS => ?_)
      have hP : va_P D vwCl ([(h0, .inr (3, [.ref h1, .ref h2])), (h1, .inr (1, nm_fs n0)), (h2, .inr (1, nm_fs ((f_X1_exclude n1 n0.1).1)))]) H := hP
      have hD : va_D A ([(h0, .inr (3, [.ref h1, .ref h2])), (h1, .inr (1, nm_fs n0)), (h2, .inr (1, nm_fs ((f_X1_exclude n1 n0.1).1)))]) := hD
      refine lv_if_eq (tgt := 64) hx hb dX3_notSame_57 (by decide) (fun c6 => ?_) (fun c6 => ?_)
      · refine lv_iconst (v := 0) hx hb dX3_notSame_64 (by decide) ?_
        have e9 : f_X3_notSame n0 n1 = (n0, ((f_X1_exclude n1 n0.1).1), 0) := (if_pos c3).trans ((if_neg c4).trans ((if_pos c6).trans (rfl)))
        rw [e9]
        exact sp_zret C hAe hP hK hD hS (Or.inl rfl) dX3_notSame_65
      · refine lv_iconst (v := 1) hx hb dX3_notSame_60 (by decide) ?_
        refine lv_goto (tgt := 65) hx hb dX3_notSame_61 (by decide) ?_
        have e9 : f_X3_notSame n0 n1 = (n0, ((f_X1_exclude n1 n0.1).1), 1) := (if_pos c3).trans ((if_neg c4).trans ((if_neg c6).trans (rfl)))
        rw [e9]
        exact sp_zret C hAe hP hK hD hS (Or.inr rfl) dX3_notSame_65
  · refine lv_aload_n hx hb dX3_notSame_26 rfl (lv_at hl 2 rfl) ?_
    refine va_get (D := D) (ci := 3) (v := .ref h1) (C := RX3) (T := TX3) (N := 2) hx hb hts hi3 hown hK hP 0 rfl rfl 0 (by decide) hk0 (fun _ h9 => h9) rfl dX3_notSame_27 ?_
    refine lv_aload_n hx hb dX3_notSame_30 rfl (lv_at hl 2 rfl) ?_
    refine va_get (D := D) (ci := 3) (v := .ref h2) (C := RX3) (T := TX3) (N := 2) hx hb hts hi3 hown hK hP 0 rfl rfl 1 (by decide) hk2 (fun _ h9 => h9) rfl dX3_notSame_31 ?_
    refine va_get (D := D) (ci := 1) (v := .long n1.1) (C := RX1) (T := TX1) (N := 6) hx hb hts hi1 hown hK hP 2 rfl rfl 0 (by decide) hk1 (fun _ h9 => h9) rfl dX3_notSame_34 ?_
    refine sp_callz (sp_runV (As := [.long n1.1]) (rest := []) C (c_X1_exclude l D h1 n0 n1.1) (cwV 1 hts (gV wG_c wm_284 wm_285 wm_286 wm_31 wm_283) rfl rfl rfl (by decide +kernel) ⟨Nat.le_of_ble_eq_true rfl, Nat.le_of_ble_eq_true rfl⟩) hK hP hD [1] (by decide) rfl [] rfl 0 1 rfl rfl rfl rfl hl.1 rfl (Nat.le_of_ble_eq_true rfl) dX3_notSame_37 ⟨Nat.le_of_ble_eq_true rfl, Nat.le_of_ble_eq_true rfl⟩) hP hD hS hA [1] rfl (sp_fc sp_f0) (fun H locs z7 hP hD hS => ?_)
    have hP : va_P D vwCl ([(h0, .inr (3, [.ref h1, .ref h2])), (h1, .inr (1, nm_fs ((f_X1_exclude n0 n1.1).1))), (h2, .inr (1, nm_fs n1))]) H := hP
    have hD : va_D A ([(h0, .inr (3, [.ref h1, .ref h2])), (h1, .inr (1, nm_fs ((f_X1_exclude n0 n1.1).1))), (h2, .inr (1, nm_fs n1))]) := hD
    refine lv_if_ne (tgt := 45) hx hb dX3_notSame_40 (by decide) (fun c8 => ?_) (fun c8 => ?_)
    · refine lv_iload_n hx hb dX3_notSame_45 rfl (lv_at hl 1 rfl) ?_
      refine lv_if_eq (tgt := 60) hx hb dX3_notSame_46 (by decide) (fun c9 => ?_) (fun c9 => ?_)
      · refine lv_iconst (v := 1) hx hb dX3_notSame_60 (by decide) ?_
        refine lv_goto (tgt := 65) hx hb dX3_notSame_61 (by decide) ?_
        have e9 : f_X3_notSame n0 n1 = (((f_X1_exclude n0 n1.1).1), n1, 1) := (if_neg c3).trans ((if_neg c8).trans ((if_pos c9).trans (rfl)))
        rw [e9]
        exact sp_zret C hAe hP hK hD hS (Or.inr rfl) dX3_notSame_65
      · refine lv_aload_n hx hb dX3_notSame_49 rfl (lv_at hl 2 rfl) ?_
        refine va_get (D := D) (ci := 3) (v := .ref h2) (C := RX3) (T := TX3) (N := 2) hx hb hts hi3 hown hK hP 0 rfl rfl 1 (by decide) hk2 (fun _ h9 => h9) rfl dX3_notSame_50 ?_
        refine lv_lload_n hx hb dX3_notSame_53 rfl (lv_at hl 0 rfl) ?_
        refine sp_callz (sp_runV (As := [.long n0.1]) (rest := []) C (c_X1_exclude l D h2 n1 n0.1) (cwV 1 hts (gV wG_c wm_284 wm_285 wm_286 wm_31 wm_283) rfl rfl rfl (by decide +kernel) ⟨Nat.le_of_ble_eq_true rfl, Nat.le_of_ble_eq_true rfl⟩) hK hP hD [2] (by decide) rfl [] rfl 0 1 rfl rfl rfl rfl hl.1 rfl (Nat.le_of_ble_eq_true rfl) dX3_notSame_54 ⟨Nat.le_of_ble_eq_true rfl, Nat.le_of_ble_eq_true rfl⟩) hP hD hS hA [2] rfl (sp_fc sp_f0) (fun H locs z10 hP hD hS => ?_)
        have hP : va_P D vwCl ([(h0, .inr (3, [.ref h1, .ref h2])), (h1, .inr (1, nm_fs ((f_X1_exclude n0 n1.1).1))), (h2, .inr (1, nm_fs ((f_X1_exclude n1 n0.1).1)))]) H := hP
        have hD : va_D A ([(h0, .inr (3, [.ref h1, .ref h2])), (h1, .inr (1, nm_fs ((f_X1_exclude n0 n1.1).1))), (h2, .inr (1, nm_fs ((f_X1_exclude n1 n0.1).1)))]) := hD
        refine lv_if_eq (tgt := 64) hx hb dX3_notSame_57 (by decide) (fun c11 => ?_) (fun c11 => ?_)
        · refine lv_iconst (v := 0) hx hb dX3_notSame_64 (by decide) ?_
          have e9 : f_X3_notSame n0 n1 = (((f_X1_exclude n0 n1.1).1), ((f_X1_exclude n1 n0.1).1), 0) := (if_neg c3).trans ((if_neg c8).trans ((if_neg c9).trans ((if_pos c11).trans (rfl))))
          rw [e9]
          exact sp_zret C hAe hP hK hD hS (Or.inl rfl) dX3_notSame_65
        · refine lv_iconst (v := 1) hx hb dX3_notSame_60 (by decide) ?_
          refine lv_goto (tgt := 65) hx hb dX3_notSame_61 (by decide) ?_
          have e9 : f_X3_notSame n0 n1 = (((f_X1_exclude n0 n1.1).1), ((f_X1_exclude n1 n0.1).1), 1) := (if_neg c3).trans ((if_neg c8).trans ((if_neg c9).trans ((if_neg c11).trans (rfl))))
          rw [e9]
          exact sp_zret C hAe hP hK hD hS (Or.inr rfl) dX3_notSame_65
    · refine lv_iconst (v := 0) hx hb dX3_notSame_43 (by decide) ?_
      have e9 : f_X3_notSame n0 n1 = (((f_X1_exclude n0 n1.1).1), n1, 0) := (if_neg c3).trans ((if_pos c8).trans (rfl))
      rw [e9]
      exact sp_zret C hAe hP hK hD hS (Or.inl rfl) dX3_notSame_44
def f_X3_meet (n0 : Nm) (n1 : Nm) : Nm × Nm × Int32 :=
  if (lg_cmp ((f_X1_mayBeOne n0) &&& (f_X1_mayBeOne n1)) 0) = 0 then (n0, n1, 0)
  else if (f_X3_isOneBit n1) = 0 then (if (f_X3_isOneBit n0) = 0 then (n0, n1, 1)
    else (n0, (f_X1_learnOnes n1 n0.1), 1))
  else if (f_X3_isOneBit n0) = 0 then ((f_X1_learnOnes n0 n1.1), n1, 1)
  else ((f_X1_learnOnes n0 n1.1), (f_X1_learnOnes n1 n0.1), 1)
set_option maxHeartbeats 4000000 in
set_option maxRecDepth 100000 in
theorem c_X3_meet (l : Launch) (D : va_G) (h0 : Nat) (h1 : Nat) (h2 : Nat) (n0 : Nm) (n1 : Nm) : sp_M l yX3_meet wsX3_meet ({ frames := 2, cells := 0, slots := 0, locals := 46 }) D [.ref h0] ([(h0, .inr (3, [.ref h1, .ref h2])), (h1, .inr (1, nm_fs n0)), (h2, .inr (1, nm_fs n1))]) [] (sp_Qz D ([(h0, .inr (3, [.ref h1, .ref h2])), (h1, .inr (1, nm_fs n0)), (h2, .inr (1, nm_fs n1))]) ([(h0, .inr (3, [.ref h1, .ref h2])), (h1, .inr (1, nm_fs ((f_X3_meet n0 n1).1))), (h2, .inr (1, nm_fs ((f_X3_meet n0 n1).2.1)))]) [] ((f_X3_meet n0 n1).2.2)) := by
  refine sp_ofW (cc := cX3_meet) (nL := 4) (ret := (some .boolean)) (own := RX3) (by decide) rfl rfl (Nat.le_of_ble_eq_true rfl) ?_
  intro p e s m below meth c A ls hAe hnm C hA hP hK hD hS hl
  have hx := C.1
  have hb := C.2.1
  have hown := C.2.2.2.2.1
  have hts := C.2.2.2.2.2.1
  have hl : lv_has ls 4 [(0, .ref h0)] := hl
  have hi1 : ∀ w ∈ u_ws RX1 TX1 6, w ∈ wsX3_meet := fun w h => List.mem_cons_of_mem _ (inX1 w h)
  have hi3 : ∀ w ∈ u_ws RX3 TX3 2, w ∈ wsX3_meet := fun w h => List.mem_cons_of_mem _ (inX3 w h)
  have hk0 := hts _ (List.mem_cons_of_mem _ wm_113)
  have hk1 := hts _ (List.mem_cons_of_mem _ wm_114)
  have hk2 := hts _ (List.mem_cons_of_mem _ wm_272)
  refine lv_aload_n hx hb dX3_meet_0 rfl (lv_at hl 0 rfl) ?_
  refine va_get (D := D) (ci := 3) (v := .ref h1) (C := RX3) (T := TX3) (N := 2) hx hb hts hi3 hown hK hP 0 rfl rfl 0 (by decide) hk0 (fun _ h9 => h9) rfl dX3_meet_1 ?_
  refine sp_calll (sp_runV (As := []) (rest := []) C (c_X1_mayBeOne l D h1 n0) (cwV 0 hts (gV wG_c wm_287 wm_60 wm_61 wm_31 wm_58) rfl rfl rfl (by decide +kernel) ⟨Nat.le_of_ble_eq_true rfl, Nat.le_of_ble_eq_true rfl⟩) hK hP hD [1] (by decide) rfl [] rfl 0 1 rfl rfl rfl rfl hl.1 rfl (Nat.le_of_ble_eq_true rfl) dX3_meet_4 ⟨Nat.le_of_ble_eq_true rfl, Nat.le_of_ble_eq_true rfl⟩) hP hD hS hA [1] rfl (sp_fc sp_f0) (fun H locs hP hD hS => ?_)
  have hP : va_P D vwCl ([(h0, .inr (3, [.ref h1, .ref h2])), (h1, .inr (1, nm_fs n0)), (h2, .inr (1, nm_fs n1))]) H := hP
  have hD : va_D A ([(h0, .inr (3, [.ref h1, .ref h2])), (h1, .inr (1, nm_fs n0)), (h2, .inr (1, nm_fs n1))]) := hD
  refine lv_aload_n hx hb dX3_meet_7 rfl (lv_at hl 0 rfl) ?_
  refine va_get (D := D) (ci := 3) (v := .ref h2) (C := RX3) (T := TX3) (N := 2) hx hb hts hi3 hown hK hP 0 rfl rfl 1 (by decide) hk1 (fun _ h9 => h9) rfl dX3_meet_8 ?_
  refine sp_calll (sp_runV (As := []) (rest := [.long (f_X1_mayBeOne n0)]) C (c_X1_mayBeOne l D h2 n1) (cwV 0 hts (gV wG_c wm_287 wm_60 wm_61 wm_31 wm_58) rfl rfl rfl (by decide +kernel) ⟨Nat.le_of_ble_eq_true rfl, Nat.le_of_ble_eq_true rfl⟩) hK hP hD [2] (by decide) rfl [] rfl 0 1 rfl rfl rfl rfl hl.1 rfl (Nat.le_of_ble_eq_true rfl) dX3_meet_11 ⟨Nat.le_of_ble_eq_true rfl, Nat.le_of_ble_eq_true rfl⟩) hP hD hS hA [2] rfl (sp_fc sp_f0) (fun H locs hP hD hS => ?_)
  have hP : va_P D vwCl ([(h0, .inr (3, [.ref h1, .ref h2])), (h1, .inr (1, nm_fs n0)), (h2, .inr (1, nm_fs n1))]) H := hP
  have hD : va_D A ([(h0, .inr (3, [.ref h1, .ref h2])), (h1, .inr (1, nm_fs n0)), (h2, .inr (1, nm_fs n1))]) := hD
  refine lv_land hx hb dX3_meet_14 ?_
  refine lv_lconst (v := 0) hx hb dX3_meet_15 (by decide) ?_
  refine W.lcmp hx hb dX3_meet_16 ?_
  refine lv_if_ne (tgt := 22) hx hb dX3_meet_17 (by decide) (fun c1 => ?_) (fun c1 => ?_)
  · refine lv_aload_n hx hb dX3_meet_22 rfl (lv_at hl 0 rfl) ?_
    refine va_get (D := D) (ci := 3) (v := .ref h1) (C := RX3) (T := TX3) (N := 2) hx hb hts hi3 hown hK hP 0 rfl rfl 0 (by decide) hk0 (fun _ h9 => h9) rfl dX3_meet_23 ?_
    refine sp_callz (sp_runS (As := [.ref h1]) (rest := []) C (c_X3_isOneBit l D h1 n0) (va_cwS 1 hts (gS wG_c wm_289 wm_290 wm_127 wm_288) rfl rfl rfl (by decide +kernel) ⟨Nat.le_of_ble_eq_true rfl, Nat.le_of_ble_eq_true rfl⟩) hK hP hD [1] (by decide) rfl [] rfl rfl hl.1 rfl (Nat.le_of_ble_eq_true rfl) dX3_meet_26 ⟨Nat.le_of_ble_eq_true rfl, Nat.le_of_ble_eq_true rfl⟩) hP hD hS hA [1] rfl (sp_fc sp_f0) (fun H locs z2 hP hD hS => ?_)
    have hP : va_P D vwCl ([(h0, .inr (3, [.ref h1, .ref h2])), (h1, .inr (1, nm_fs n0)), (h2, .inr (1, nm_fs n1))]) H := hP
    have hD : va_D A ([(h0, .inr (3, [.ref h1, .ref h2])), (h1, .inr (1, nm_fs n0)), (h2, .inr (1, nm_fs n1))]) := hD
    refine lv_istore_n (lv' := [(1, .int (f_X3_isOneBit n0)), (0, .ref h0)]) hx hb dX3_meet_29 rfl hl (by decide) rfl (fun ls hl => ?_)
    refine lv_aload_n hx hb dX3_meet_30 rfl (lv_at hl 1 rfl) ?_
    refine va_get (D := D) (ci := 3) (v := .ref h1) (C := RX3) (T := TX3) (N := 2) hx hb hts hi3 hown hK hP 0 rfl rfl 0 (by decide) hk0 (fun _ h9 => h9) rfl dX3_meet_31 ?_
    refine va_get (D := D) (ci := 1) (v := .long n0.1) (C := RX1) (T := TX1) (N := 6) hx hb hts hi1 hown hK hP 1 rfl rfl 0 (by decide) hk2 (fun _ h9 => h9) rfl dX3_meet_34 ?_
    refine lv_lstore_n (lv' := [(2, .long n0.1), (1, .int (f_X3_isOneBit n0)), (0, .ref h0)]) hx hb dX3_meet_37 rfl hl (by decide) rfl (fun ls hl => ?_)
    refine lv_aload_n hx hb dX3_meet_38 rfl (lv_at hl 2 rfl) ?_
    refine va_get (D := D) (ci := 3) (v := .ref h2) (C := RX3) (T := TX3) (N := 2) hx hb hts hi3 hown hK hP 0 rfl rfl 1 (by decide) hk1 (fun _ h9 => h9) rfl dX3_meet_39 ?_
    refine sp_callz (sp_runS (As := [.ref h2]) (rest := []) C (c_X3_isOneBit l D h2 n1) (va_cwS 1 hts (gS wG_c wm_289 wm_290 wm_127 wm_288) rfl rfl rfl (by decide +kernel) ⟨Nat.le_of_ble_eq_true rfl, Nat.le_of_ble_eq_true rfl⟩) hK hP hD [2] (by decide) rfl [] rfl rfl hl.1 rfl (Nat.le_of_ble_eq_true rfl) dX3_meet_42 ⟨Nat.le_of_ble_eq_true rfl, Nat.le_of_ble_eq_true rfl⟩) hP hD hS hA [2] rfl (sp_fc sp_f0) (fun H locs z3 hP hD hS => ?_)
    have hP : va_P D vwCl ([(h0, .inr (3, [.ref h1, .ref h2])), (h1, .inr (1, nm_fs n0)), (h2, .inr (1, nm_fs n1))]) H := hP
    have hD : va_D A ([(h0, .inr (3, [.ref h1, .ref h2])), (h1, .inr (1, nm_fs n0)), (h2, .inr (1, nm_fs n1))]) := hD
    refine lv_if_eq (tgt := 62) hx hb dX3_meet_45 (by decide) (fun c4 => ?_) (fun c4 => ?_)
    · refine lv_iload_n hx hb dX3_meet_62 rfl (lv_at hl 1 rfl) ?_
      refine lv_if_eq (tgt := 74) hx hb dX3_meet_63 (by decide) (fun c5 => ?_) (fun c5 => ?_)
      · refine lv_iconst (v := 1) hx hb dX3_meet_74 (by decide) ?_
        have e9 : f_X3_meet n0 n1 = (n0, n1, 1) := (if_neg c1).trans ((if_pos c4).trans ((if_pos c5).trans (rfl)))
        rw [e9]
        exact sp_zret C hAe hP hK hD hS (Or.inr rfl) dX3_meet_75
      · refine lv_aload_n hx hb dX3_meet_66 rfl (lv_at hl 2 rfl) ?_
        refine va_get (D := D) (ci := 3) (v := .ref h2) (C := RX3) (T := TX3) (N := 2) hx hb hts hi3 hown hK hP 0 rfl rfl 1 (by decide) hk1 (fun _ h9 => h9) rfl dX3_meet_67 ?_
        refine lv_lload_n hx hb dX3_meet_70 rfl (lv_at hl 0 rfl) ?_
        refine sp_callv (sp_runV (As := [.long n0.1]) (rest := []) C (c_X1_learnOnes l D h2 n1 n0.1) (cwV 1 hts (gV wG_c wm_292 wm_293 wm_294 wm_31 wm_291) rfl rfl rfl (by decide +kernel) ⟨Nat.le_of_ble_eq_true rfl, Nat.le_of_ble_eq_true rfl⟩) hK hP hD [2] (by decide) rfl [] rfl 0 1 rfl rfl rfl rfl hl.1 rfl (Nat.le_of_ble_eq_true rfl) dX3_meet_71 ⟨Nat.le_of_ble_eq_true rfl, Nat.le_of_ble_eq_true rfl⟩) hP hD hS hA [2] rfl (sp_fc sp_f0) (fun H locs hP hD hS => ?_)
        have hP : va_P D vwCl ([(h0, .inr (3, [.ref h1, .ref h2])), (h1, .inr (1, nm_fs n0)), (h2, .inr (1, nm_fs (f_X1_learnOnes n1 n0.1)))]) H := hP
        have hD : va_D A ([(h0, .inr (3, [.ref h1, .ref h2])), (h1, .inr (1, nm_fs n0)), (h2, .inr (1, nm_fs (f_X1_learnOnes n1 n0.1)))]) := hD
        refine lv_iconst (v := 1) hx hb dX3_meet_74 (by decide) ?_
        have e9 : f_X3_meet n0 n1 = (n0, (f_X1_learnOnes n1 n0.1), 1) := (if_neg c1).trans ((if_pos c4).trans ((if_neg c5).trans (rfl)))
        rw [e9]
        exact sp_zret C hAe hP hK hD hS (Or.inr rfl) dX3_meet_75
    · refine lv_aload_n hx hb dX3_meet_48 rfl (lv_at hl 2 rfl) ?_
      refine va_get (D := D) (ci := 3) (v := .ref h1) (C := RX3) (T := TX3) (N := 2) hx hb hts hi3 hown hK hP 0 rfl rfl 0 (by decide) hk0 (fun _ h9 => h9) rfl dX3_meet_49 ?_
      refine lv_aload_n hx hb dX3_meet_52 rfl (lv_at hl 2 rfl) ?_
      refine va_get (D := D) (ci := 3) (v := .ref h2) (C := RX3) (T := TX3) (N := 2) hx hb hts hi3 hown hK hP 0 rfl rfl 1 (by decide) hk1 (fun _ h9 => h9) rfl dX3_meet_53 ?_
      refine va_get (D := D) (ci := 1) (v := .long n1.1) (C := RX1) (T := TX1) (N := 6) hx hb hts hi1 hown hK hP 2 rfl rfl 0 (by decide) hk2 (fun _ h9 => h9) rfl dX3_meet_56 ?_
      refine sp_callv (sp_runV (As := [.long n1.1]) (rest := []) C (c_X1_learnOnes l D h1 n0 n1.1) (cwV 1 hts (gV wG_c wm_292 wm_293 wm_294 wm_31 wm_291) rfl rfl rfl (by decide +kernel) ⟨Nat.le_of_ble_eq_true rfl, Nat.le_of_ble_eq_true rfl⟩) hK hP hD [1] (by decide) rfl [] rfl 0 1 rfl rfl rfl rfl hl.1 rfl (Nat.le_of_ble_eq_true rfl) dX3_meet_59 ⟨Nat.le_of_ble_eq_true rfl, Nat.le_of_ble_eq_true rfl⟩) hP hD hS hA [1] rfl (sp_fc sp_f0) (fun H locs hP hD hS => ?_)
      have hP : va_P D vwCl ([(h0, .inr (3, [.ref h1, .ref h2])), (h1, .inr (1, nm_fs (f_X1_learnOnes n0 n1.1))), (h2, .inr (1, nm_fs n1))]) H := hP
      have hD : va_D A ([(h0, .inr (3, [.ref h1, .ref h2])), (h1, .inr (1, nm_fs (f_X1_learnOnes n0 n1.1))), (h2, .inr (1, nm_fs n1))]) := hD
      refine lv_iload_n hx hb dX3_meet_62 rfl (lv_at hl 1 rfl) ?_
      refine lv_if_eq (tgt := 74) hx hb dX3_meet_63 (by decide) (fun c6 => ?_) (fun c6 => ?_)
      · refine lv_iconst (v := 1) hx hb dX3_meet_74 (by decide) ?_
        have e9 : f_X3_meet n0 n1 = ((f_X1_learnOnes n0 n1.1), n1, 1) := (if_neg c1).trans ((if_neg c4).trans ((if_pos c6).trans (rfl)))
        rw [e9]
        exact sp_zret C hAe hP hK hD hS (Or.inr rfl) dX3_meet_75
      · refine lv_aload_n hx hb dX3_meet_66 rfl (lv_at hl 2 rfl) ?_
        refine va_get (D := D) (ci := 3) (v := .ref h2) (C := RX3) (T := TX3) (N := 2) hx hb hts hi3 hown hK hP 0 rfl rfl 1 (by decide) hk1 (fun _ h9 => h9) rfl dX3_meet_67 ?_
        refine lv_lload_n hx hb dX3_meet_70 rfl (lv_at hl 0 rfl) ?_
        refine sp_callv (sp_runV (As := [.long n0.1]) (rest := []) C (c_X1_learnOnes l D h2 n1 n0.1) (cwV 1 hts (gV wG_c wm_292 wm_293 wm_294 wm_31 wm_291) rfl rfl rfl (by decide +kernel) ⟨Nat.le_of_ble_eq_true rfl, Nat.le_of_ble_eq_true rfl⟩) hK hP hD [2] (by decide) rfl [] rfl 0 1 rfl rfl rfl rfl hl.1 rfl (Nat.le_of_ble_eq_true rfl) dX3_meet_71 ⟨Nat.le_of_ble_eq_true rfl, Nat.le_of_ble_eq_true rfl⟩) hP hD hS hA [2] rfl (sp_fc sp_f0) (fun H locs hP hD hS => ?_)
        have hP : va_P D vwCl ([(h0, .inr (3, [.ref h1, .ref h2])), (h1, .inr (1, nm_fs (f_X1_learnOnes n0 n1.1))), (h2, .inr (1, nm_fs (f_X1_learnOnes n1 n0.1)))]) H := hP
        have hD : va_D A ([(h0, .inr (3, [.ref h1, .ref h2])), (h1, .inr (1, nm_fs (f_X1_learnOnes n0 n1.1))), (h2, .inr (1, nm_fs (f_X1_learnOnes n1 n0.1)))]) := hD
        refine lv_iconst (v := 1) hx hb dX3_meet_74 (by decide) ?_
        have e9 : f_X3_meet n0 n1 = ((f_X1_learnOnes n0 n1.1), (f_X1_learnOnes n1 n0.1), 1) := (if_neg c1).trans ((if_neg c4).trans ((if_neg c6).trans (rfl)))
        rw [e9]
        exact sp_zret C hAe hP hK hD hS (Or.inr rfl) dX3_meet_75
  · refine lv_iconst (v := 0) hx hb dX3_meet_20 (by decide) ?_
    have e9 : f_X3_meet n0 n1 = (n0, n1, 0) := (if_pos c1).trans (rfl)
    rw [e9]
    exact sp_zret C hAe hP hK hD hS (Or.inl rfl) dX3_meet_21
def f_X3_notMeet (n0 : Nm) (n1 : Nm) : Nm × Nm × Int32 :=
  if (lg_cmp (n0.1 &&& n1.1) 0) = 0 then (if (f_X1_isExact n1) = 0 then (if (f_X1_isExact n0) = 0 then (n0, n1, 1)
      else (n0, (f_X1_learnZeros n1 n0.1), 1))
    else if (f_X1_isExact n0) = 0 then ((f_X1_learnZeros n0 n1.1), n1, 1)
    else ((f_X1_learnZeros n0 n1.1), (f_X1_learnZeros n1 n0.1), 1))
  else (n0, n1, 0)
set_option maxHeartbeats 4000000 in
set_option maxRecDepth 100000 in
theorem c_X3_notMeet (l : Launch) (D : va_G) (h0 : Nat) (h1 : Nat) (h2 : Nat) (n0 : Nm) (n1 : Nm) : sp_M l yX3_notMeet wsX3_notMeet ({ frames := 2, cells := 0, slots := 0, locals := 46 }) D [.ref h0] ([(h0, .inr (3, [.ref h1, .ref h2])), (h1, .inr (1, nm_fs n0)), (h2, .inr (1, nm_fs n1))]) [] (sp_Qz D ([(h0, .inr (3, [.ref h1, .ref h2])), (h1, .inr (1, nm_fs n0)), (h2, .inr (1, nm_fs n1))]) ([(h0, .inr (3, [.ref h1, .ref h2])), (h1, .inr (1, nm_fs ((f_X3_notMeet n0 n1).1))), (h2, .inr (1, nm_fs ((f_X3_notMeet n0 n1).2.1)))]) [] ((f_X3_notMeet n0 n1).2.2)) := by
  refine sp_ofW (cc := cX3_notMeet) (nL := 4) (ret := (some .boolean)) (own := RX3) (by decide) rfl rfl (Nat.le_of_ble_eq_true rfl) ?_
  intro p e s m below meth c A ls hAe hnm C hA hP hK hD hS hl
  have hx := C.1
  have hb := C.2.1
  have hown := C.2.2.2.2.1
  have hts := C.2.2.2.2.2.1
  have hl : lv_has ls 4 [(0, .ref h0)] := hl
  have hi1 : ∀ w ∈ u_ws RX1 TX1 6, w ∈ wsX3_notMeet := fun w h => List.mem_cons_of_mem _ (inX1 w h)
  have hi3 : ∀ w ∈ u_ws RX3 TX3 2, w ∈ wsX3_notMeet := fun w h => List.mem_cons_of_mem _ (inX3 w h)
  have hk0 := hts _ (List.mem_cons_of_mem _ wm_113)
  have hk1 := hts _ (List.mem_cons_of_mem _ wm_272)
  have hk2 := hts _ (List.mem_cons_of_mem _ wm_114)
  refine lv_aload_n hx hb dX3_notMeet_0 rfl (lv_at hl 0 rfl) ?_
  refine va_get (D := D) (ci := 3) (v := .ref h1) (C := RX3) (T := TX3) (N := 2) hx hb hts hi3 hown hK hP 0 rfl rfl 0 (by decide) hk0 (fun _ h9 => h9) rfl dX3_notMeet_1 ?_
  refine va_get (D := D) (ci := 1) (v := .long n0.1) (C := RX1) (T := TX1) (N := 6) hx hb hts hi1 hown hK hP 1 rfl rfl 0 (by decide) hk1 (fun _ h9 => h9) rfl dX3_notMeet_4 ?_
  refine lv_aload_n hx hb dX3_notMeet_7 rfl (lv_at hl 0 rfl) ?_
  refine va_get (D := D) (ci := 3) (v := .ref h2) (C := RX3) (T := TX3) (N := 2) hx hb hts hi3 hown hK hP 0 rfl rfl 1 (by decide) hk2 (fun _ h9 => h9) rfl dX3_notMeet_8 ?_
  refine va_get (D := D) (ci := 1) (v := .long n1.1) (C := RX1) (T := TX1) (N := 6) hx hb hts hi1 hown hK hP 2 rfl rfl 0 (by decide) hk1 (fun _ h9 => h9) rfl dX3_notMeet_11 ?_
  refine lv_land hx hb dX3_notMeet_14 ?_
  refine lv_lconst (v := 0) hx hb dX3_notMeet_15 (by decide) ?_
  refine W.lcmp hx hb dX3_notMeet_16 ?_
  refine lv_if_eq (tgt := 22) hx hb dX3_notMeet_17 (by decide) (fun c1 => ?_) (fun c1 => ?_)
  · refine lv_aload_n hx hb dX3_notMeet_22 rfl (lv_at hl 0 rfl) ?_
    refine va_get (D := D) (ci := 3) (v := .ref h1) (C := RX3) (T := TX3) (N := 2) hx hb hts hi3 hown hK hP 0 rfl rfl 0 (by decide) hk0 (fun _ h9 => h9) rfl dX3_notMeet_23 ?_
    refine sp_callz (sp_runV (As := []) (rest := []) C (c_X1_isExact l D h1 n0) (cwV 0 hts (gV wG_c wm_274 wm_151 wm_152 wm_31 wm_149) rfl rfl rfl (by decide +kernel) ⟨Nat.le_of_ble_eq_true rfl, Nat.le_of_ble_eq_true rfl⟩) hK hP hD [1] (by decide) rfl [] rfl 0 1 rfl rfl rfl rfl hl.1 rfl (Nat.le_of_ble_eq_true rfl) dX3_notMeet_26 ⟨Nat.le_of_ble_eq_true rfl, Nat.le_of_ble_eq_true rfl⟩) hP hD hS hA [1] rfl (sp_fc sp_f0) (fun H locs z2 hP hD hS => ?_)
    have hP : va_P D vwCl ([(h0, .inr (3, [.ref h1, .ref h2])), (h1, .inr (1, nm_fs n0)), (h2, .inr (1, nm_fs n1))]) H := hP
    have hD : va_D A ([(h0, .inr (3, [.ref h1, .ref h2])), (h1, .inr (1, nm_fs n0)), (h2, .inr (1, nm_fs n1))]) := hD
    refine lv_istore_n (lv' := [(1, .int (f_X1_isExact n0)), (0, .ref h0)]) hx hb dX3_notMeet_29 rfl hl (by decide) rfl (fun ls hl => ?_)
    refine lv_aload_n hx hb dX3_notMeet_30 rfl (lv_at hl 1 rfl) ?_
    refine va_get (D := D) (ci := 3) (v := .ref h1) (C := RX3) (T := TX3) (N := 2) hx hb hts hi3 hown hK hP 0 rfl rfl 0 (by decide) hk0 (fun _ h9 => h9) rfl dX3_notMeet_31 ?_
    refine va_get (D := D) (ci := 1) (v := .long n0.1) (C := RX1) (T := TX1) (N := 6) hx hb hts hi1 hown hK hP 1 rfl rfl 0 (by decide) hk1 (fun _ h9 => h9) rfl dX3_notMeet_34 ?_
    refine lv_lstore_n (lv' := [(2, .long n0.1), (1, .int (f_X1_isExact n0)), (0, .ref h0)]) hx hb dX3_notMeet_37 rfl hl (by decide) rfl (fun ls hl => ?_)
    refine lv_aload_n hx hb dX3_notMeet_38 rfl (lv_at hl 2 rfl) ?_
    refine va_get (D := D) (ci := 3) (v := .ref h2) (C := RX3) (T := TX3) (N := 2) hx hb hts hi3 hown hK hP 0 rfl rfl 1 (by decide) hk2 (fun _ h9 => h9) rfl dX3_notMeet_39 ?_
    refine sp_callz (sp_runV (As := []) (rest := []) C (c_X1_isExact l D h2 n1) (cwV 0 hts (gV wG_c wm_274 wm_151 wm_152 wm_31 wm_149) rfl rfl rfl (by decide +kernel) ⟨Nat.le_of_ble_eq_true rfl, Nat.le_of_ble_eq_true rfl⟩) hK hP hD [2] (by decide) rfl [] rfl 0 1 rfl rfl rfl rfl hl.1 rfl (Nat.le_of_ble_eq_true rfl) dX3_notMeet_42 ⟨Nat.le_of_ble_eq_true rfl, Nat.le_of_ble_eq_true rfl⟩) hP hD hS hA [2] rfl (sp_fc sp_f0) (fun H locs z3 hP hD hS => ?_)
    have hP : va_P D vwCl ([(h0, .inr (3, [.ref h1, .ref h2])), (h1, .inr (1, nm_fs n0)), (h2, .inr (1, nm_fs n1))]) H := hP
    have hD : va_D A ([(h0, .inr (3, [.ref h1, .ref h2])), (h1, .inr (1, nm_fs n0)), (h2, .inr (1, nm_fs n1))]) := hD
    refine lv_if_eq (tgt := 62) hx hb dX3_notMeet_45 (by decide) (fun c4 => ?_) (fun c4 => ?_)
    · refine lv_iload_n hx hb dX3_notMeet_62 rfl (lv_at hl 1 rfl) ?_
      refine lv_if_eq (tgt := 74) hx hb dX3_notMeet_63 (by decide) (fun c5 => ?_) (fun c5 => ?_)
      · refine lv_iconst (v := 1) hx hb dX3_notMeet_74 (by decide) ?_
        have e9 : f_X3_notMeet n0 n1 = (n0, n1, 1) := (if_pos c1).trans ((if_pos c4).trans ((if_pos c5).trans (rfl)))
        rw [e9]
        exact sp_zret C hAe hP hK hD hS (Or.inr rfl) dX3_notMeet_75
      · refine lv_aload_n hx hb dX3_notMeet_66 rfl (lv_at hl 2 rfl) ?_
        refine va_get (D := D) (ci := 3) (v := .ref h2) (C := RX3) (T := TX3) (N := 2) hx hb hts hi3 hown hK hP 0 rfl rfl 1 (by decide) hk2 (fun _ h9 => h9) rfl dX3_notMeet_67 ?_
        refine lv_lload_n hx hb dX3_notMeet_70 rfl (lv_at hl 0 rfl) ?_
        refine sp_callv (sp_runV (As := [.long n0.1]) (rest := []) C (c_X1_learnZeros l D h2 n1 n0.1) (cwV 1 hts (gV wG_c wm_296 wm_297 wm_298 wm_31 wm_295) rfl rfl rfl (by decide +kernel) ⟨Nat.le_of_ble_eq_true rfl, Nat.le_of_ble_eq_true rfl⟩) hK hP hD [2] (by decide) rfl [] rfl 0 1 rfl rfl rfl rfl hl.1 rfl (Nat.le_of_ble_eq_true rfl) dX3_notMeet_71 ⟨Nat.le_of_ble_eq_true rfl, Nat.le_of_ble_eq_true rfl⟩) hP hD hS hA [2] rfl (sp_fc sp_f0) (fun H locs hP hD hS => ?_)
        have hP : va_P D vwCl ([(h0, .inr (3, [.ref h1, .ref h2])), (h1, .inr (1, nm_fs n0)), (h2, .inr (1, nm_fs (f_X1_learnZeros n1 n0.1)))]) H := hP
        have hD : va_D A ([(h0, .inr (3, [.ref h1, .ref h2])), (h1, .inr (1, nm_fs n0)), (h2, .inr (1, nm_fs (f_X1_learnZeros n1 n0.1)))]) := hD
        refine lv_iconst (v := 1) hx hb dX3_notMeet_74 (by decide) ?_
        have e9 : f_X3_notMeet n0 n1 = (n0, (f_X1_learnZeros n1 n0.1), 1) := (if_pos c1).trans ((if_pos c4).trans ((if_neg c5).trans (rfl)))
        rw [e9]
        exact sp_zret C hAe hP hK hD hS (Or.inr rfl) dX3_notMeet_75
    · refine lv_aload_n hx hb dX3_notMeet_48 rfl (lv_at hl 2 rfl) ?_
      refine va_get (D := D) (ci := 3) (v := .ref h1) (C := RX3) (T := TX3) (N := 2) hx hb hts hi3 hown hK hP 0 rfl rfl 0 (by decide) hk0 (fun _ h9 => h9) rfl dX3_notMeet_49 ?_
      refine lv_aload_n hx hb dX3_notMeet_52 rfl (lv_at hl 2 rfl) ?_
      refine va_get (D := D) (ci := 3) (v := .ref h2) (C := RX3) (T := TX3) (N := 2) hx hb hts hi3 hown hK hP 0 rfl rfl 1 (by decide) hk2 (fun _ h9 => h9) rfl dX3_notMeet_53 ?_
      refine va_get (D := D) (ci := 1) (v := .long n1.1) (C := RX1) (T := TX1) (N := 6) hx hb hts hi1 hown hK hP 2 rfl rfl 0 (by decide) hk1 (fun _ h9 => h9) rfl dX3_notMeet_56 ?_
      refine sp_callv (sp_runV (As := [.long n1.1]) (rest := []) C (c_X1_learnZeros l D h1 n0 n1.1) (cwV 1 hts (gV wG_c wm_296 wm_297 wm_298 wm_31 wm_295) rfl rfl rfl (by decide +kernel) ⟨Nat.le_of_ble_eq_true rfl, Nat.le_of_ble_eq_true rfl⟩) hK hP hD [1] (by decide) rfl [] rfl 0 1 rfl rfl rfl rfl hl.1 rfl (Nat.le_of_ble_eq_true rfl) dX3_notMeet_59 ⟨Nat.le_of_ble_eq_true rfl, Nat.le_of_ble_eq_true rfl⟩) hP hD hS hA [1] rfl (sp_fc sp_f0) (fun H locs hP hD hS => ?_)
      have hP : va_P D vwCl ([(h0, .inr (3, [.ref h1, .ref h2])), (h1, .inr (1, nm_fs (f_X1_learnZeros n0 n1.1))), (h2, .inr (1, nm_fs n1))]) H := hP
      have hD : va_D A ([(h0, .inr (3, [.ref h1, .ref h2])), (h1, .inr (1, nm_fs (f_X1_learnZeros n0 n1.1))), (h2, .inr (1, nm_fs n1))]) := hD
      refine lv_iload_n hx hb dX3_notMeet_62 rfl (lv_at hl 1 rfl) ?_
      refine lv_if_eq (tgt := 74) hx hb dX3_notMeet_63 (by decide) (fun c6 => ?_) (fun c6 => ?_)
      · refine lv_iconst (v := 1) hx hb dX3_notMeet_74 (by decide) ?_
        have e9 : f_X3_notMeet n0 n1 = ((f_X1_learnZeros n0 n1.1), n1, 1) := (if_pos c1).trans ((if_neg c4).trans ((if_pos c6).trans (rfl)))
        rw [e9]
        exact sp_zret C hAe hP hK hD hS (Or.inr rfl) dX3_notMeet_75
      · refine lv_aload_n hx hb dX3_notMeet_66 rfl (lv_at hl 2 rfl) ?_
        refine va_get (D := D) (ci := 3) (v := .ref h2) (C := RX3) (T := TX3) (N := 2) hx hb hts hi3 hown hK hP 0 rfl rfl 1 (by decide) hk2 (fun _ h9 => h9) rfl dX3_notMeet_67 ?_
        refine lv_lload_n hx hb dX3_notMeet_70 rfl (lv_at hl 0 rfl) ?_
        refine sp_callv (sp_runV (As := [.long n0.1]) (rest := []) C (c_X1_learnZeros l D h2 n1 n0.1) (cwV 1 hts (gV wG_c wm_296 wm_297 wm_298 wm_31 wm_295) rfl rfl rfl (by decide +kernel) ⟨Nat.le_of_ble_eq_true rfl, Nat.le_of_ble_eq_true rfl⟩) hK hP hD [2] (by decide) rfl [] rfl 0 1 rfl rfl rfl rfl hl.1 rfl (Nat.le_of_ble_eq_true rfl) dX3_notMeet_71 ⟨Nat.le_of_ble_eq_true rfl, Nat.le_of_ble_eq_true rfl⟩) hP hD hS hA [2] rfl (sp_fc sp_f0) (fun H locs hP hD hS => ?_)
        have hP : va_P D vwCl ([(h0, .inr (3, [.ref h1, .ref h2])), (h1, .inr (1, nm_fs (f_X1_learnZeros n0 n1.1))), (h2, .inr (1, nm_fs (f_X1_learnZeros n1 n0.1)))]) H := hP
        have hD : va_D A ([(h0, .inr (3, [.ref h1, .ref h2])), (h1, .inr (1, nm_fs (f_X1_learnZeros n0 n1.1))), (h2, .inr (1, nm_fs (f_X1_learnZeros n1 n0.1)))]) := hD
        refine lv_iconst (v := 1) hx hb dX3_notMeet_74 (by decide) ?_
        have e9 : f_X3_notMeet n0 n1 = ((f_X1_learnZeros n0 n1.1), (f_X1_learnZeros n1 n0.1), 1) := (if_pos c1).trans ((if_neg c4).trans ((if_neg c6).trans (rfl)))
        rw [e9]
        exact sp_zret C hAe hP hK hD hS (Or.inr rfl) dX3_notMeet_75
  · refine lv_iconst (v := 0) hx hb dX3_notMeet_20 (by decide) ?_
    have e9 : f_X3_notMeet n0 n1 = (n0, n1, 0) := (if_neg c1).trans (rfl)
    rw [e9]
    exact sp_zret C hAe hP hK hD hS (Or.inl rfl) dX3_notMeet_21
def f_X3_apply (n0 : Nm) (n1 : Nm) (p1 : Int32) : Nm × Nm × Int32 :=
  if p1 = 0 then (((f_X3_same n0 n1).1), ((f_X3_same n0 n1).2.1), (f_X3_same n0 n1).2.2)
  else if p1 = 1 then (((f_X3_above n0 n1).1), ((f_X3_above n0 n1).2.1), (f_X3_above n0 n1).2.2)
  else if p1 = 2 then (((f_X3_notBelow n0 n1).1), ((f_X3_notBelow n0 n1).2.1), (f_X3_notBelow n0 n1).2.2)
  else if p1 = 3 then (((f_X3_meet n0 n1).1), ((f_X3_meet n0 n1).2.1), (f_X3_meet n0 n1).2.2)
  else if p1 = 4 then (((f_X3_notSame n0 n1).1), ((f_X3_notSame n0 n1).2.1), (f_X3_notSame n0 n1).2.2)
  else if p1 = 5 then (((f_X3_greater n0 n1).1), ((f_X3_greater n0 n1).2.1), (f_X3_greater n0 n1).2.2)
  else if p1 = 6 then (((f_X3_notLess n0 n1).1), ((f_X3_notLess n0 n1).2.1), (f_X3_notLess n0 n1).2.2)
  else if p1 = 7 then (((f_X3_above n1 n0).2.1), ((f_X3_above n1 n0).1), (f_X3_above n1 n0).2.2)
  else if p1 = 8 then (((f_X3_notBelow n1 n0).2.1), ((f_X3_notBelow n1 n0).1), (f_X3_notBelow n1 n0).2.2)
  else if p1 = 9 then (((f_X3_greater n1 n0).2.1), ((f_X3_greater n1 n0).1), (f_X3_greater n1 n0).2.2)
  else if p1 = 10 then (((f_X3_notLess n1 n0).2.1), ((f_X3_notLess n1 n0).1), (f_X3_notLess n1 n0).2.2)
  else if p1 = 11 then (((f_X3_notMeet n0 n1).1), ((f_X3_notMeet n0 n1).2.1), (f_X3_notMeet n0 n1).2.2)
  else (n0, n1, 0)
set_option maxHeartbeats 4000000 in
set_option maxRecDepth 100000 in
theorem c_X3_apply (l : Launch) (D : va_G) (h0 : Nat) (h1 : Nat) (h2 : Nat) (n0 : Nm) (n1 : Nm) (p1 : Int32) : sp_M l yX3_apply wsX3_apply ({ frames := 3, cells := 0, slots := 0, locals := 69 }) D [.ref h0, .int p1] ([(h0, .inr (3, [.ref h1, .ref h2])), (h1, .inr (1, nm_fs n0)), (h2, .inr (1, nm_fs n1))]) [] (sp_Qz D ([(h0, .inr (3, [.ref h1, .ref h2])), (h1, .inr (1, nm_fs n0)), (h2, .inr (1, nm_fs n1))]) ([(h0, .inr (3, [.ref h1, .ref h2])), (h1, .inr (1, nm_fs ((f_X3_apply n0 n1 p1).1))), (h2, .inr (1, nm_fs ((f_X3_apply n0 n1 p1).2.1)))]) [] ((f_X3_apply n0 n1 p1).2.2)) := by
  refine sp_ofW (cc := cX3_apply) (nL := 2) (ret := (some .boolean)) (own := RX3) (by decide) rfl rfl (Nat.le_of_ble_eq_true rfl) ?_
  intro p e s m below meth c A ls hAe hnm C hA hP hK hD hS hl
  have hx := C.1
  have hb := C.2.1
  have hown := C.2.2.2.2.1
  have hts := C.2.2.2.2.2.1
  have hl : lv_has ls 2 [(0, .ref h0), (1, .int p1)] := hl
  have hi3 : ∀ w ∈ u_ws RX3 TX3 2, w ∈ wsX3_apply := fun w h => List.mem_cons_of_mem _ (inX3 w h)
  have hk0 := hts _ (List.mem_cons_of_mem _ wm_113)
  have hk1 := hts _ (List.mem_cons_of_mem _ wm_114)
  refine lv_iload_n hx hb dX3_apply_0 rfl (lv_at hl 1 rfl) ?_
  by_cases c1 : p1 = 0
  · refine lv_tableIn (tgt := 64) hx hb dX3_apply_1 (by rw [c1]; decide) (by rw [c1]; decide) (by rw [c1]; rfl) (by decide) ?_
    refine lv_aload_n hx hb dX3_apply_64 rfl (lv_at hl 0 rfl) ?_
    refine sp_callz (sp_runV (As := []) (rest := []) C (c_X3_same l D h0 h1 h2 n0 n1) (cwV 0 hts (gV wG_c wm_300 wm_301 wm_302 wm_127 wm_299) rfl rfl rfl (by decide +kernel) ⟨Nat.le_of_ble_eq_true rfl, Nat.le_of_ble_eq_true rfl⟩) hK hP hD [0, 1, 2] (by decide) rfl [] rfl 0 3 rfl rfl rfl rfl hl.1 rfl (Nat.le_of_ble_eq_true rfl) dX3_apply_65 ⟨Nat.le_of_ble_eq_true rfl, Nat.le_of_ble_eq_true rfl⟩) hP hD hS hA [0, 1, 2] rfl (sp_fc (sp_fc (sp_fc sp_f0))) (fun H locs z2 hP hD hS => ?_)
    have hP : va_P D vwCl ([(h0, .inr (3, [.ref h1, .ref h2])), (h1, .inr (1, nm_fs ((f_X3_same n0 n1).1))), (h2, .inr (1, nm_fs ((f_X3_same n0 n1).2.1)))]) H := hP
    have hD : va_D A ([(h0, .inr (3, [.ref h1, .ref h2])), (h1, .inr (1, nm_fs ((f_X3_same n0 n1).1))), (h2, .inr (1, nm_fs ((f_X3_same n0 n1).2.1)))]) := hD
    have e9 : f_X3_apply n0 n1 p1 = (((f_X3_same n0 n1).1), ((f_X3_same n0 n1).2.1), (f_X3_same n0 n1).2.2) := (if_pos c1).trans (rfl)
    rw [e9]
    exact sp_zret C hAe hP hK hD hS z2 dX3_apply_68
  · by_cases c3 : p1 = 1
    · refine lv_tableIn (tgt := 69) hx hb dX3_apply_1 (by rw [c3]; decide) (by rw [c3]; decide) (by rw [c3]; rfl) (by decide) ?_
      refine lv_aload_n hx hb dX3_apply_69 rfl (lv_at hl 0 rfl) ?_
      refine va_get (D := D) (ci := 3) (v := .ref h1) (C := RX3) (T := TX3) (N := 2) hx hb hts hi3 hown hK hP 0 rfl rfl 0 (by decide) hk0 (fun _ h9 => h9) rfl dX3_apply_70 ?_
      refine lv_aload_n hx hb dX3_apply_73 rfl (lv_at hl 0 rfl) ?_
      refine va_get (D := D) (ci := 3) (v := .ref h2) (C := RX3) (T := TX3) (N := 2) hx hb hts hi3 hown hK hP 0 rfl rfl 1 (by decide) hk1 (fun _ h9 => h9) rfl dX3_apply_74 ?_
      refine sp_callz (sp_runS (As := [.ref h1, .ref h2]) (rest := []) C (c_X3_above l D h1 h2 n0 n1) (va_cwS 2 hts (gS wG_c wm_304 wm_305 wm_127 wm_303) rfl rfl rfl (by decide +kernel) ⟨Nat.le_of_ble_eq_true rfl, Nat.le_of_ble_eq_true rfl⟩) hK hP hD [1, 2] (by decide) rfl [] rfl rfl hl.1 rfl (Nat.le_of_ble_eq_true rfl) dX3_apply_77 ⟨Nat.le_of_ble_eq_true rfl, Nat.le_of_ble_eq_true rfl⟩) hP hD hS hA [1, 2] rfl (sp_fc (sp_fc sp_f0)) (fun H locs z4 hP hD hS => ?_)
      have hP : va_P D vwCl ([(h0, .inr (3, [.ref h1, .ref h2])), (h1, .inr (1, nm_fs ((f_X3_above n0 n1).1))), (h2, .inr (1, nm_fs ((f_X3_above n0 n1).2.1)))]) H := hP
      have hD : va_D A ([(h0, .inr (3, [.ref h1, .ref h2])), (h1, .inr (1, nm_fs ((f_X3_above n0 n1).1))), (h2, .inr (1, nm_fs ((f_X3_above n0 n1).2.1)))]) := hD
      have e9 : f_X3_apply n0 n1 p1 = (((f_X3_above n0 n1).1), ((f_X3_above n0 n1).2.1), (f_X3_above n0 n1).2.2) := (if_neg c1).trans ((if_pos c3).trans (rfl))
      rw [e9]
      exact sp_zret C hAe hP hK hD hS z4 dX3_apply_80
    · by_cases c5 : p1 = 2
      · refine lv_tableIn (tgt := 81) hx hb dX3_apply_1 (by rw [c5]; decide) (by rw [c5]; decide) (by rw [c5]; rfl) (by decide) ?_
        refine lv_aload_n hx hb dX3_apply_81 rfl (lv_at hl 0 rfl) ?_
        refine va_get (D := D) (ci := 3) (v := .ref h1) (C := RX3) (T := TX3) (N := 2) hx hb hts hi3 hown hK hP 0 rfl rfl 0 (by decide) hk0 (fun _ h9 => h9) rfl dX3_apply_82 ?_
        refine lv_aload_n hx hb dX3_apply_85 rfl (lv_at hl 0 rfl) ?_
        refine va_get (D := D) (ci := 3) (v := .ref h2) (C := RX3) (T := TX3) (N := 2) hx hb hts hi3 hown hK hP 0 rfl rfl 1 (by decide) hk1 (fun _ h9 => h9) rfl dX3_apply_86 ?_
        refine sp_callz (sp_runS (As := [.ref h1, .ref h2]) (rest := []) C (c_X3_notBelow l D h1 h2 n0 n1) (va_cwS 2 hts (gS wG_c wm_307 wm_308 wm_127 wm_306) rfl rfl rfl (by decide +kernel) ⟨Nat.le_of_ble_eq_true rfl, Nat.le_of_ble_eq_true rfl⟩) hK hP hD [1, 2] (by decide) rfl [] rfl rfl hl.1 rfl (Nat.le_of_ble_eq_true rfl) dX3_apply_89 ⟨Nat.le_of_ble_eq_true rfl, Nat.le_of_ble_eq_true rfl⟩) hP hD hS hA [1, 2] rfl (sp_fc (sp_fc sp_f0)) (fun H locs z6 hP hD hS => ?_)
        have hP : va_P D vwCl ([(h0, .inr (3, [.ref h1, .ref h2])), (h1, .inr (1, nm_fs ((f_X3_notBelow n0 n1).1))), (h2, .inr (1, nm_fs ((f_X3_notBelow n0 n1).2.1)))]) H := hP
        have hD : va_D A ([(h0, .inr (3, [.ref h1, .ref h2])), (h1, .inr (1, nm_fs ((f_X3_notBelow n0 n1).1))), (h2, .inr (1, nm_fs ((f_X3_notBelow n0 n1).2.1)))]) := hD
        have e9 : f_X3_apply n0 n1 p1 = (((f_X3_notBelow n0 n1).1), ((f_X3_notBelow n0 n1).2.1), (f_X3_notBelow n0 n1).2.2) := (if_neg c1).trans ((if_neg c3).trans ((if_pos c5).trans (rfl)))
        rw [e9]
        exact sp_zret C hAe hP hK hD hS z6 dX3_apply_92
      · by_cases c7 : p1 = 3
        · refine lv_tableIn (tgt := 93) hx hb dX3_apply_1 (by rw [c7]; decide) (by rw [c7]; decide) (by rw [c7]; rfl) (by decide) ?_
          refine lv_aload_n hx hb dX3_apply_93 rfl (lv_at hl 0 rfl) ?_
          refine sp_callz (sp_runV (As := []) (rest := []) C (c_X3_meet l D h0 h1 h2 n0 n1) (cwV 0 hts (gV wG_c wm_310 wm_311 wm_312 wm_127 wm_309) rfl rfl rfl (by decide +kernel) ⟨Nat.le_of_ble_eq_true rfl, Nat.le_of_ble_eq_true rfl⟩) hK hP hD [0, 1, 2] (by decide) rfl [] rfl 0 3 rfl rfl rfl rfl hl.1 rfl (Nat.le_of_ble_eq_true rfl) dX3_apply_94 ⟨Nat.le_of_ble_eq_true rfl, Nat.le_of_ble_eq_true rfl⟩) hP hD hS hA [0, 1, 2] rfl (sp_fc (sp_fc (sp_fc sp_f0))) (fun H locs z8 hP hD hS => ?_)
          have hP : va_P D vwCl ([(h0, .inr (3, [.ref h1, .ref h2])), (h1, .inr (1, nm_fs ((f_X3_meet n0 n1).1))), (h2, .inr (1, nm_fs ((f_X3_meet n0 n1).2.1)))]) H := hP
          have hD : va_D A ([(h0, .inr (3, [.ref h1, .ref h2])), (h1, .inr (1, nm_fs ((f_X3_meet n0 n1).1))), (h2, .inr (1, nm_fs ((f_X3_meet n0 n1).2.1)))]) := hD
          have e9 : f_X3_apply n0 n1 p1 = (((f_X3_meet n0 n1).1), ((f_X3_meet n0 n1).2.1), (f_X3_meet n0 n1).2.2) := (if_neg c1).trans ((if_neg c3).trans ((if_neg c5).trans ((if_pos c7).trans (rfl))))
          rw [e9]
          exact sp_zret C hAe hP hK hD hS z8 dX3_apply_97
        · by_cases c9 : p1 = 4
          · refine lv_tableIn (tgt := 98) hx hb dX3_apply_1 (by rw [c9]; decide) (by rw [c9]; decide) (by rw [c9]; rfl) (by decide) ?_
            refine lv_aload_n hx hb dX3_apply_98 rfl (lv_at hl 0 rfl) ?_
            refine sp_callz (sp_runV (As := []) (rest := []) C (c_X3_notSame l D h0 h1 h2 n0 n1) (cwV 0 hts (gV wG_c wm_314 wm_315 wm_316 wm_127 wm_313) rfl rfl rfl (by decide +kernel) ⟨Nat.le_of_ble_eq_true rfl, Nat.le_of_ble_eq_true rfl⟩) hK hP hD [0, 1, 2] (by decide) rfl [] rfl 0 3 rfl rfl rfl rfl hl.1 rfl (Nat.le_of_ble_eq_true rfl) dX3_apply_99 ⟨Nat.le_of_ble_eq_true rfl, Nat.le_of_ble_eq_true rfl⟩) hP hD hS hA [0, 1, 2] rfl (sp_fc (sp_fc (sp_fc sp_f0))) (fun H locs z10 hP hD hS => ?_)
            have hP : va_P D vwCl ([(h0, .inr (3, [.ref h1, .ref h2])), (h1, .inr (1, nm_fs ((f_X3_notSame n0 n1).1))), (h2, .inr (1, nm_fs ((f_X3_notSame n0 n1).2.1)))]) H := hP
            have hD : va_D A ([(h0, .inr (3, [.ref h1, .ref h2])), (h1, .inr (1, nm_fs ((f_X3_notSame n0 n1).1))), (h2, .inr (1, nm_fs ((f_X3_notSame n0 n1).2.1)))]) := hD
            have e9 : f_X3_apply n0 n1 p1 = (((f_X3_notSame n0 n1).1), ((f_X3_notSame n0 n1).2.1), (f_X3_notSame n0 n1).2.2) := (if_neg c1).trans ((if_neg c3).trans ((if_neg c5).trans ((if_neg c7).trans ((if_pos c9).trans (rfl)))))
            rw [e9]
            exact sp_zret C hAe hP hK hD hS z10 dX3_apply_102
          · by_cases c11 : p1 = 5
            · refine lv_tableIn (tgt := 103) hx hb dX3_apply_1 (by rw [c11]; decide) (by rw [c11]; decide) (by rw [c11]; rfl) (by decide) ?_
              refine lv_aload_n hx hb dX3_apply_103 rfl (lv_at hl 0 rfl) ?_
              refine va_get (D := D) (ci := 3) (v := .ref h1) (C := RX3) (T := TX3) (N := 2) hx hb hts hi3 hown hK hP 0 rfl rfl 0 (by decide) hk0 (fun _ h9 => h9) rfl dX3_apply_104 ?_
              refine lv_aload_n hx hb dX3_apply_107 rfl (lv_at hl 0 rfl) ?_
              refine va_get (D := D) (ci := 3) (v := .ref h2) (C := RX3) (T := TX3) (N := 2) hx hb hts hi3 hown hK hP 0 rfl rfl 1 (by decide) hk1 (fun _ h9 => h9) rfl dX3_apply_108 ?_
              refine sp_callz (sp_runS (As := [.ref h1, .ref h2]) (rest := []) C (c_X3_greater l D h1 h2 n0 n1) (va_cwS 2 hts (gS wG_c wm_318 wm_319 wm_127 wm_317) rfl rfl rfl (by decide +kernel) ⟨Nat.le_of_ble_eq_true rfl, Nat.le_of_ble_eq_true rfl⟩) hK hP hD [1, 2] (by decide) rfl [] rfl rfl hl.1 rfl (Nat.le_of_ble_eq_true rfl) dX3_apply_111 ⟨Nat.le_of_ble_eq_true rfl, Nat.le_of_ble_eq_true rfl⟩) hP hD hS hA [1, 2] rfl (sp_fc (sp_fc sp_f0)) (fun H locs z12 hP hD hS => ?_)
              have hP : va_P D vwCl ([(h0, .inr (3, [.ref h1, .ref h2])), (h1, .inr (1, nm_fs ((f_X3_greater n0 n1).1))), (h2, .inr (1, nm_fs ((f_X3_greater n0 n1).2.1)))]) H := hP
              have hD : va_D A ([(h0, .inr (3, [.ref h1, .ref h2])), (h1, .inr (1, nm_fs ((f_X3_greater n0 n1).1))), (h2, .inr (1, nm_fs ((f_X3_greater n0 n1).2.1)))]) := hD
              have e9 : f_X3_apply n0 n1 p1 = (((f_X3_greater n0 n1).1), ((f_X3_greater n0 n1).2.1), (f_X3_greater n0 n1).2.2) := (if_neg c1).trans ((if_neg c3).trans ((if_neg c5).trans ((if_neg c7).trans ((if_neg c9).trans ((if_pos c11).trans (rfl))))))
              rw [e9]
              exact sp_zret C hAe hP hK hD hS z12 dX3_apply_114
            · by_cases c13 : p1 = 6
              · refine lv_tableIn (tgt := 115) hx hb dX3_apply_1 (by rw [c13]; decide) (by rw [c13]; decide) (by rw [c13]; rfl) (by decide) ?_
                refine lv_aload_n hx hb dX3_apply_115 rfl (lv_at hl 0 rfl) ?_
                refine va_get (D := D) (ci := 3) (v := .ref h1) (C := RX3) (T := TX3) (N := 2) hx hb hts hi3 hown hK hP 0 rfl rfl 0 (by decide) hk0 (fun _ h9 => h9) rfl dX3_apply_116 ?_
                refine lv_aload_n hx hb dX3_apply_119 rfl (lv_at hl 0 rfl) ?_
                refine va_get (D := D) (ci := 3) (v := .ref h2) (C := RX3) (T := TX3) (N := 2) hx hb hts hi3 hown hK hP 0 rfl rfl 1 (by decide) hk1 (fun _ h9 => h9) rfl dX3_apply_120 ?_
                refine sp_callz (sp_runS (As := [.ref h1, .ref h2]) (rest := []) C (c_X3_notLess l D h1 h2 n0 n1) (va_cwS 2 hts (gS wG_c wm_321 wm_322 wm_127 wm_320) rfl rfl rfl (by decide +kernel) ⟨Nat.le_of_ble_eq_true rfl, Nat.le_of_ble_eq_true rfl⟩) hK hP hD [1, 2] (by decide) rfl [] rfl rfl hl.1 rfl (Nat.le_of_ble_eq_true rfl) dX3_apply_123 ⟨Nat.le_of_ble_eq_true rfl, Nat.le_of_ble_eq_true rfl⟩) hP hD hS hA [1, 2] rfl (sp_fc (sp_fc sp_f0)) (fun H locs z14 hP hD hS => ?_)
                have hP : va_P D vwCl ([(h0, .inr (3, [.ref h1, .ref h2])), (h1, .inr (1, nm_fs ((f_X3_notLess n0 n1).1))), (h2, .inr (1, nm_fs ((f_X3_notLess n0 n1).2.1)))]) H := hP
                have hD : va_D A ([(h0, .inr (3, [.ref h1, .ref h2])), (h1, .inr (1, nm_fs ((f_X3_notLess n0 n1).1))), (h2, .inr (1, nm_fs ((f_X3_notLess n0 n1).2.1)))]) := hD
                have e9 : f_X3_apply n0 n1 p1 = (((f_X3_notLess n0 n1).1), ((f_X3_notLess n0 n1).2.1), (f_X3_notLess n0 n1).2.2) := (if_neg c1).trans ((if_neg c3).trans ((if_neg c5).trans ((if_neg c7).trans ((if_neg c9).trans ((if_neg c11).trans ((if_pos c13).trans (rfl)))))))
                rw [e9]
                exact sp_zret C hAe hP hK hD hS z14 dX3_apply_126
              · by_cases c15 : p1 = 7
                · refine lv_tableIn (tgt := 127) hx hb dX3_apply_1 (by rw [c15]; decide) (by rw [c15]; decide) (by rw [c15]; rfl) (by decide) ?_
                  refine lv_aload_n hx hb dX3_apply_127 rfl (lv_at hl 0 rfl) ?_
                  refine va_get (D := D) (ci := 3) (v := .ref h2) (C := RX3) (T := TX3) (N := 2) hx hb hts hi3 hown hK hP 0 rfl rfl 1 (by decide) hk1 (fun _ h9 => h9) rfl dX3_apply_128 ?_
                  refine lv_aload_n hx hb dX3_apply_131 rfl (lv_at hl 0 rfl) ?_
                  refine va_get (D := D) (ci := 3) (v := .ref h1) (C := RX3) (T := TX3) (N := 2) hx hb hts hi3 hown hK hP 0 rfl rfl 0 (by decide) hk0 (fun _ h9 => h9) rfl dX3_apply_132 ?_
                  refine sp_callz (sp_runS (As := [.ref h2, .ref h1]) (rest := []) C (c_X3_above l D h2 h1 n1 n0) (va_cwS 2 hts (gS wG_c wm_304 wm_305 wm_127 wm_303) rfl rfl rfl (by decide +kernel) ⟨Nat.le_of_ble_eq_true rfl, Nat.le_of_ble_eq_true rfl⟩) hK hP hD [2, 1] (by decide) rfl [] rfl rfl hl.1 rfl (Nat.le_of_ble_eq_true rfl) dX3_apply_135 ⟨Nat.le_of_ble_eq_true rfl, Nat.le_of_ble_eq_true rfl⟩) hP hD hS hA [2, 1] rfl (sp_fc (sp_fc sp_f0)) (fun H locs z16 hP hD hS => ?_)
                  have hP : va_P D vwCl ([(h0, .inr (3, [.ref h1, .ref h2])), (h1, .inr (1, nm_fs ((f_X3_above n1 n0).2.1))), (h2, .inr (1, nm_fs ((f_X3_above n1 n0).1)))]) H := hP
                  have hD : va_D A ([(h0, .inr (3, [.ref h1, .ref h2])), (h1, .inr (1, nm_fs ((f_X3_above n1 n0).2.1))), (h2, .inr (1, nm_fs ((f_X3_above n1 n0).1)))]) := hD
                  have e9 : f_X3_apply n0 n1 p1 = (((f_X3_above n1 n0).2.1), ((f_X3_above n1 n0).1), (f_X3_above n1 n0).2.2) := (if_neg c1).trans ((if_neg c3).trans ((if_neg c5).trans ((if_neg c7).trans ((if_neg c9).trans ((if_neg c11).trans ((if_neg c13).trans ((if_pos c15).trans (rfl))))))))
                  rw [e9]
                  exact sp_zret C hAe hP hK hD hS z16 dX3_apply_138
                · by_cases c17 : p1 = 8
                  · refine lv_tableIn (tgt := 139) hx hb dX3_apply_1 (by rw [c17]; decide) (by rw [c17]; decide) (by rw [c17]; rfl) (by decide) ?_
                    refine lv_aload_n hx hb dX3_apply_139 rfl (lv_at hl 0 rfl) ?_
                    refine va_get (D := D) (ci := 3) (v := .ref h2) (C := RX3) (T := TX3) (N := 2) hx hb hts hi3 hown hK hP 0 rfl rfl 1 (by decide) hk1 (fun _ h9 => h9) rfl dX3_apply_140 ?_
                    refine lv_aload_n hx hb dX3_apply_143 rfl (lv_at hl 0 rfl) ?_
                    refine va_get (D := D) (ci := 3) (v := .ref h1) (C := RX3) (T := TX3) (N := 2) hx hb hts hi3 hown hK hP 0 rfl rfl 0 (by decide) hk0 (fun _ h9 => h9) rfl dX3_apply_144 ?_
                    refine sp_callz (sp_runS (As := [.ref h2, .ref h1]) (rest := []) C (c_X3_notBelow l D h2 h1 n1 n0) (va_cwS 2 hts (gS wG_c wm_307 wm_308 wm_127 wm_306) rfl rfl rfl (by decide +kernel) ⟨Nat.le_of_ble_eq_true rfl, Nat.le_of_ble_eq_true rfl⟩) hK hP hD [2, 1] (by decide) rfl [] rfl rfl hl.1 rfl (Nat.le_of_ble_eq_true rfl) dX3_apply_147 ⟨Nat.le_of_ble_eq_true rfl, Nat.le_of_ble_eq_true rfl⟩) hP hD hS hA [2, 1] rfl (sp_fc (sp_fc sp_f0)) (fun H locs z18 hP hD hS => ?_)
                    have hP : va_P D vwCl ([(h0, .inr (3, [.ref h1, .ref h2])), (h1, .inr (1, nm_fs ((f_X3_notBelow n1 n0).2.1))), (h2, .inr (1, nm_fs ((f_X3_notBelow n1 n0).1)))]) H := hP
                    have hD : va_D A ([(h0, .inr (3, [.ref h1, .ref h2])), (h1, .inr (1, nm_fs ((f_X3_notBelow n1 n0).2.1))), (h2, .inr (1, nm_fs ((f_X3_notBelow n1 n0).1)))]) := hD
                    have e9 : f_X3_apply n0 n1 p1 = (((f_X3_notBelow n1 n0).2.1), ((f_X3_notBelow n1 n0).1), (f_X3_notBelow n1 n0).2.2) := (if_neg c1).trans ((if_neg c3).trans ((if_neg c5).trans ((if_neg c7).trans ((if_neg c9).trans ((if_neg c11).trans ((if_neg c13).trans ((if_neg c15).trans ((if_pos c17).trans (rfl)))))))))
                    rw [e9]
                    exact sp_zret C hAe hP hK hD hS z18 dX3_apply_150
                  · by_cases c19 : p1 = 9
                    · refine lv_tableIn (tgt := 151) hx hb dX3_apply_1 (by rw [c19]; decide) (by rw [c19]; decide) (by rw [c19]; rfl) (by decide) ?_
                      refine lv_aload_n hx hb dX3_apply_151 rfl (lv_at hl 0 rfl) ?_
                      refine va_get (D := D) (ci := 3) (v := .ref h2) (C := RX3) (T := TX3) (N := 2) hx hb hts hi3 hown hK hP 0 rfl rfl 1 (by decide) hk1 (fun _ h9 => h9) rfl dX3_apply_152 ?_
                      refine lv_aload_n hx hb dX3_apply_155 rfl (lv_at hl 0 rfl) ?_
                      refine va_get (D := D) (ci := 3) (v := .ref h1) (C := RX3) (T := TX3) (N := 2) hx hb hts hi3 hown hK hP 0 rfl rfl 0 (by decide) hk0 (fun _ h9 => h9) rfl dX3_apply_156 ?_
                      refine sp_callz (sp_runS (As := [.ref h2, .ref h1]) (rest := []) C (c_X3_greater l D h2 h1 n1 n0) (va_cwS 2 hts (gS wG_c wm_318 wm_319 wm_127 wm_317) rfl rfl rfl (by decide +kernel) ⟨Nat.le_of_ble_eq_true rfl, Nat.le_of_ble_eq_true rfl⟩) hK hP hD [2, 1] (by decide) rfl [] rfl rfl hl.1 rfl (Nat.le_of_ble_eq_true rfl) dX3_apply_159 ⟨Nat.le_of_ble_eq_true rfl, Nat.le_of_ble_eq_true rfl⟩) hP hD hS hA [2, 1] rfl (sp_fc (sp_fc sp_f0)) (fun H locs z20 hP hD hS => ?_)
                      have hP : va_P D vwCl ([(h0, .inr (3, [.ref h1, .ref h2])), (h1, .inr (1, nm_fs ((f_X3_greater n1 n0).2.1))), (h2, .inr (1, nm_fs ((f_X3_greater n1 n0).1)))]) H := hP
                      have hD : va_D A ([(h0, .inr (3, [.ref h1, .ref h2])), (h1, .inr (1, nm_fs ((f_X3_greater n1 n0).2.1))), (h2, .inr (1, nm_fs ((f_X3_greater n1 n0).1)))]) := hD
                      have e9 : f_X3_apply n0 n1 p1 = (((f_X3_greater n1 n0).2.1), ((f_X3_greater n1 n0).1), (f_X3_greater n1 n0).2.2) := (if_neg c1).trans ((if_neg c3).trans ((if_neg c5).trans ((if_neg c7).trans ((if_neg c9).trans ((if_neg c11).trans ((if_neg c13).trans ((if_neg c15).trans ((if_neg c17).trans ((if_pos c19).trans (rfl))))))))))
                      rw [e9]
                      exact sp_zret C hAe hP hK hD hS z20 dX3_apply_162
                    · by_cases c21 : p1 = 10
                      · refine lv_tableIn (tgt := 163) hx hb dX3_apply_1 (by rw [c21]; decide) (by rw [c21]; decide) (by rw [c21]; rfl) (by decide) ?_
                        refine lv_aload_n hx hb dX3_apply_163 rfl (lv_at hl 0 rfl) ?_
                        refine va_get (D := D) (ci := 3) (v := .ref h2) (C := RX3) (T := TX3) (N := 2) hx hb hts hi3 hown hK hP 0 rfl rfl 1 (by decide) hk1 (fun _ h9 => h9) rfl dX3_apply_164 ?_
                        refine lv_aload_n hx hb dX3_apply_167 rfl (lv_at hl 0 rfl) ?_
                        refine va_get (D := D) (ci := 3) (v := .ref h1) (C := RX3) (T := TX3) (N := 2) hx hb hts hi3 hown hK hP 0 rfl rfl 0 (by decide) hk0 (fun _ h9 => h9) rfl dX3_apply_168 ?_
                        refine sp_callz (sp_runS (As := [.ref h2, .ref h1]) (rest := []) C (c_X3_notLess l D h2 h1 n1 n0) (va_cwS 2 hts (gS wG_c wm_321 wm_322 wm_127 wm_320) rfl rfl rfl (by decide +kernel) ⟨Nat.le_of_ble_eq_true rfl, Nat.le_of_ble_eq_true rfl⟩) hK hP hD [2, 1] (by decide) rfl [] rfl rfl hl.1 rfl (Nat.le_of_ble_eq_true rfl) dX3_apply_171 ⟨Nat.le_of_ble_eq_true rfl, Nat.le_of_ble_eq_true rfl⟩) hP hD hS hA [2, 1] rfl (sp_fc (sp_fc sp_f0)) (fun H locs z22 hP hD hS => ?_)
                        have hP : va_P D vwCl ([(h0, .inr (3, [.ref h1, .ref h2])), (h1, .inr (1, nm_fs ((f_X3_notLess n1 n0).2.1))), (h2, .inr (1, nm_fs ((f_X3_notLess n1 n0).1)))]) H := hP
                        have hD : va_D A ([(h0, .inr (3, [.ref h1, .ref h2])), (h1, .inr (1, nm_fs ((f_X3_notLess n1 n0).2.1))), (h2, .inr (1, nm_fs ((f_X3_notLess n1 n0).1)))]) := hD
                        have e9 : f_X3_apply n0 n1 p1 = (((f_X3_notLess n1 n0).2.1), ((f_X3_notLess n1 n0).1), (f_X3_notLess n1 n0).2.2) := (if_neg c1).trans ((if_neg c3).trans ((if_neg c5).trans ((if_neg c7).trans ((if_neg c9).trans ((if_neg c11).trans ((if_neg c13).trans ((if_neg c15).trans ((if_neg c17).trans ((if_neg c19).trans ((if_pos c21).trans (rfl)))))))))))
                        rw [e9]
                        exact sp_zret C hAe hP hK hD hS z22 dX3_apply_174
                      · by_cases c23 : p1 = 11
                        · refine lv_tableIn (tgt := 175) hx hb dX3_apply_1 (by rw [c23]; decide) (by rw [c23]; decide) (by rw [c23]; rfl) (by decide) ?_
                          refine lv_aload_n hx hb dX3_apply_175 rfl (lv_at hl 0 rfl) ?_
                          refine sp_callz (sp_runV (As := []) (rest := []) C (c_X3_notMeet l D h0 h1 h2 n0 n1) (cwV 0 hts (gV wG_c wm_324 wm_325 wm_326 wm_127 wm_323) rfl rfl rfl (by decide +kernel) ⟨Nat.le_of_ble_eq_true rfl, Nat.le_of_ble_eq_true rfl⟩) hK hP hD [0, 1, 2] (by decide) rfl [] rfl 0 3 rfl rfl rfl rfl hl.1 rfl (Nat.le_of_ble_eq_true rfl) dX3_apply_176 ⟨Nat.le_of_ble_eq_true rfl, Nat.le_of_ble_eq_true rfl⟩) hP hD hS hA [0, 1, 2] rfl (sp_fc (sp_fc (sp_fc sp_f0))) (fun H locs z24 hP hD hS => ?_)
                          have hP : va_P D vwCl ([(h0, .inr (3, [.ref h1, .ref h2])), (h1, .inr (1, nm_fs ((f_X3_notMeet n0 n1).1))), (h2, .inr (1, nm_fs ((f_X3_notMeet n0 n1).2.1)))]) H := hP
                          have hD : va_D A ([(h0, .inr (3, [.ref h1, .ref h2])), (h1, .inr (1, nm_fs ((f_X3_notMeet n0 n1).1))), (h2, .inr (1, nm_fs ((f_X3_notMeet n0 n1).2.1)))]) := hD
                          have e9 : f_X3_apply n0 n1 p1 = (((f_X3_notMeet n0 n1).1), ((f_X3_notMeet n0 n1).2.1), (f_X3_notMeet n0 n1).2.2) := (if_neg c1).trans ((if_neg c3).trans ((if_neg c5).trans ((if_neg c7).trans ((if_neg c9).trans ((if_neg c11).trans ((if_neg c13).trans ((if_neg c15).trans ((if_neg c17).trans ((if_neg c19).trans ((if_neg c21).trans ((if_pos c23).trans (rfl))))))))))))
                          rw [e9]
                          exact sp_zret C hAe hP hK hD hS z24 dX3_apply_179
                        · have ec1 := lv_neT c1 (show (0 : Int32).toInt = 0 by decide)
                          have ec3 := lv_neT c3 (show (1 : Int32).toInt = 1 by decide)
                          have ec5 := lv_neT c5 (show (2 : Int32).toInt = 2 by decide)
                          have ec7 := lv_neT c7 (show (3 : Int32).toInt = 3 by decide)
                          have ec9 := lv_neT c9 (show (4 : Int32).toInt = 4 by decide)
                          have ec11 := lv_neT c11 (show (5 : Int32).toInt = 5 by decide)
                          have ec13 := lv_neT c13 (show (6 : Int32).toInt = 6 by decide)
                          have ec15 := lv_neT c15 (show (7 : Int32).toInt = 7 by decide)
                          have ec17 := lv_neT c17 (show (8 : Int32).toInt = 8 by decide)
                          have ec19 := lv_neT c19 (show (9 : Int32).toInt = 9 by decide)
                          have ec21 := lv_neT c21 (show (10 : Int32).toInt = 10 by decide)
                          have ec23 := lv_neT c23 (show (11 : Int32).toInt = 11 by decide)
                          refine lv_tableOut (tgt := 180) hx hb dX3_apply_1 (by omega) (by decide) ?_
                          refine lv_iconst (v := 0) hx hb dX3_apply_180 (by decide) ?_
                          have e9 : f_X3_apply n0 n1 p1 = (n0, n1, 0) := (if_neg c1).trans ((if_neg c3).trans ((if_neg c5).trans ((if_neg c7).trans ((if_neg c9).trans ((if_neg c11).trans ((if_neg c13).trans ((if_neg c15).trans ((if_neg c17).trans ((if_neg c19).trans ((if_neg c21).trans ((if_neg c23).trans (rfl))))))))))))
                          rw [e9]
                          exact sp_zret C hAe hP hK hD hS (Or.inl rfl) dX3_apply_181
def f_X3_learn (n0 : Nm) (n1 : Nm) (p1 : Int32) : Nm × Nm × Int32 :=
  if ((f_X3_apply n0 n1 p1).2.2) = 0 then (((f_X3_apply n0 n1 p1).1), ((f_X3_apply n0 n1 p1).2.1), 0)
  else if ((f_X1_settle ((f_X3_apply n0 n1 p1).1)).2) = 0 then (((f_X1_settle ((f_X3_apply n0 n1 p1).1)).1), ((f_X3_apply n0 n1 p1).2.1), 0)
  else if ((f_X1_settle ((f_X3_apply n0 n1 p1).2.1)).2) = 0 then (((f_X1_settle ((f_X3_apply n0 n1 p1).1)).1), ((f_X1_settle ((f_X3_apply n0 n1 p1).2.1)).1), 0)
  else (((f_X1_settle ((f_X3_apply n0 n1 p1).1)).1), ((f_X1_settle ((f_X3_apply n0 n1 p1).2.1)).1), 1)
set_option maxHeartbeats 4000000 in
set_option maxRecDepth 100000 in
theorem c_X3_learn (l : Launch) (D : va_G) (h0 : Nat) (h1 : Nat) (h2 : Nat) (n0 : Nm) (n1 : Nm) (p1 : Int32) : sp_M l yX3_learn wsX3_learn ({ frames := 4, cells := 0, slots := 0, locals := 90 }) D [.ref h0, .int p1] ([(h0, .inr (3, [.ref h1, .ref h2])), (h1, .inr (1, nm_fs n0)), (h2, .inr (1, nm_fs n1))]) [] (sp_Qz D ([(h0, .inr (3, [.ref h1, .ref h2])), (h1, .inr (1, nm_fs n0)), (h2, .inr (1, nm_fs n1))]) ([(h0, .inr (3, [.ref h1, .ref h2])), (h1, .inr (1, nm_fs ((f_X3_learn n0 n1 p1).1))), (h2, .inr (1, nm_fs ((f_X3_learn n0 n1 p1).2.1)))]) [] ((f_X3_learn n0 n1 p1).2.2)) := by
  refine sp_ofW (cc := cX3_learn) (nL := 2) (ret := (some .boolean)) (own := RX3) (by decide) rfl rfl (Nat.le_of_ble_eq_true rfl) ?_
  intro p e s m below meth c A ls hAe hnm C hA hP hK hD hS hl
  have hx := C.1
  have hb := C.2.1
  have hown := C.2.2.2.2.1
  have hts := C.2.2.2.2.2.1
  have hl : lv_has ls 2 [(0, .ref h0), (1, .int p1)] := hl
  have hi3 : ∀ w ∈ u_ws RX3 TX3 2, w ∈ wsX3_learn := fun w h => List.mem_cons_of_mem _ (inX3 w h)
  have hk0 := hts _ (List.mem_cons_of_mem _ wm_113)
  have hk1 := hts _ (List.mem_cons_of_mem _ wm_114)
  refine lv_aload_n hx hb dX3_learn_0 rfl (lv_at hl 0 rfl) ?_
  refine lv_iload_n hx hb dX3_learn_1 rfl (lv_at hl 1 rfl) ?_
  refine sp_callz (sp_runV (As := [.int p1]) (rest := []) C (c_X3_apply l D h0 h1 h2 n0 n1 p1) (cwV 1 hts (gV wG_c wm_328 wm_329 wm_330 wm_127 wm_327) rfl rfl rfl (by decide +kernel) ⟨Nat.le_of_ble_eq_true rfl, Nat.le_of_ble_eq_true rfl⟩) hK hP hD [0, 1, 2] (by decide) rfl [] rfl 0 3 rfl rfl rfl rfl hl.1 rfl (Nat.le_of_ble_eq_true rfl) dX3_learn_2 ⟨Nat.le_of_ble_eq_true rfl, Nat.le_of_ble_eq_true rfl⟩) hP hD hS hA [0, 1, 2] rfl (sp_fc (sp_fc (sp_fc sp_f0))) (fun H locs z1 hP hD hS => ?_)
  have hP : va_P D vwCl ([(h0, .inr (3, [.ref h1, .ref h2])), (h1, .inr (1, nm_fs ((f_X3_apply n0 n1 p1).1))), (h2, .inr (1, nm_fs ((f_X3_apply n0 n1 p1).2.1)))]) H := hP
  have hD : va_D A ([(h0, .inr (3, [.ref h1, .ref h2])), (h1, .inr (1, nm_fs ((f_X3_apply n0 n1 p1).1))), (h2, .inr (1, nm_fs ((f_X3_apply n0 n1 p1).2.1)))]) := hD
  refine lv_if_eq (tgt := 32) hx hb dX3_learn_5 (by decide) (fun c2 => ?_) (fun c2 => ?_)
  · refine lv_iconst (v := 0) hx hb dX3_learn_32 (by decide) ?_
    have e9 : f_X3_learn n0 n1 p1 = (((f_X3_apply n0 n1 p1).1), ((f_X3_apply n0 n1 p1).2.1), 0) := (if_pos c2).trans (rfl)
    rw [e9]
    exact sp_zret C hAe hP hK hD hS (Or.inl rfl) dX3_learn_33
  · refine lv_aload_n hx hb dX3_learn_8 rfl (lv_at hl 0 rfl) ?_
    refine va_get (D := D) (ci := 3) (v := .ref h1) (C := RX3) (T := TX3) (N := 2) hx hb hts hi3 hown hK hP 0 rfl rfl 0 (by decide) hk0 (fun _ h9 => h9) rfl dX3_learn_9 ?_
    refine sp_callz (sp_runV (As := []) (rest := []) C (c_X1_settle l D h1 ((f_X3_apply n0 n1 p1).1)) (cwV 0 hts (gV wG_c wm_331 wm_100 wm_101 wm_31 wm_98) rfl rfl rfl (by decide +kernel) ⟨Nat.le_of_ble_eq_true rfl, Nat.le_of_ble_eq_true rfl⟩) hK hP hD [1] (by decide) rfl [] rfl 0 1 rfl rfl rfl rfl hl.1 rfl (Nat.le_of_ble_eq_true rfl) dX3_learn_12 ⟨Nat.le_of_ble_eq_true rfl, Nat.le_of_ble_eq_true rfl⟩) hP hD hS hA [1] rfl (sp_fc sp_f0) (fun H locs z3 hP hD hS => ?_)
    have hP : va_P D vwCl ([(h0, .inr (3, [.ref h1, .ref h2])), (h1, .inr (1, nm_fs ((f_X1_settle ((f_X3_apply n0 n1 p1).1)).1))), (h2, .inr (1, nm_fs ((f_X3_apply n0 n1 p1).2.1)))]) H := hP
    have hD : va_D A ([(h0, .inr (3, [.ref h1, .ref h2])), (h1, .inr (1, nm_fs ((f_X1_settle ((f_X3_apply n0 n1 p1).1)).1))), (h2, .inr (1, nm_fs ((f_X3_apply n0 n1 p1).2.1)))]) := hD
    refine lv_if_eq (tgt := 32) hx hb dX3_learn_15 (by decide) (fun c4 => ?_) (fun c4 => ?_)
    · refine lv_iconst (v := 0) hx hb dX3_learn_32 (by decide) ?_
      have e9 : f_X3_learn n0 n1 p1 = (((f_X1_settle ((f_X3_apply n0 n1 p1).1)).1), ((f_X3_apply n0 n1 p1).2.1), 0) := (if_neg c2).trans ((if_pos c4).trans (rfl))
      rw [e9]
      exact sp_zret C hAe hP hK hD hS (Or.inl rfl) dX3_learn_33
    · refine lv_aload_n hx hb dX3_learn_18 rfl (lv_at hl 0 rfl) ?_
      refine va_get (D := D) (ci := 3) (v := .ref h2) (C := RX3) (T := TX3) (N := 2) hx hb hts hi3 hown hK hP 0 rfl rfl 1 (by decide) hk1 (fun _ h9 => h9) rfl dX3_learn_19 ?_
      refine sp_callz (sp_runV (As := []) (rest := []) C (c_X1_settle l D h2 ((f_X3_apply n0 n1 p1).2.1)) (cwV 0 hts (gV wG_c wm_331 wm_100 wm_101 wm_31 wm_98) rfl rfl rfl (by decide +kernel) ⟨Nat.le_of_ble_eq_true rfl, Nat.le_of_ble_eq_true rfl⟩) hK hP hD [2] (by decide) rfl [] rfl 0 1 rfl rfl rfl rfl hl.1 rfl (Nat.le_of_ble_eq_true rfl) dX3_learn_22 ⟨Nat.le_of_ble_eq_true rfl, Nat.le_of_ble_eq_true rfl⟩) hP hD hS hA [2] rfl (sp_fc sp_f0) (fun H locs z5 hP hD hS => ?_)
      have hP : va_P D vwCl ([(h0, .inr (3, [.ref h1, .ref h2])), (h1, .inr (1, nm_fs ((f_X1_settle ((f_X3_apply n0 n1 p1).1)).1))), (h2, .inr (1, nm_fs ((f_X1_settle ((f_X3_apply n0 n1 p1).2.1)).1)))]) H := hP
      have hD : va_D A ([(h0, .inr (3, [.ref h1, .ref h2])), (h1, .inr (1, nm_fs ((f_X1_settle ((f_X3_apply n0 n1 p1).1)).1))), (h2, .inr (1, nm_fs ((f_X1_settle ((f_X3_apply n0 n1 p1).2.1)).1)))]) := hD
      refine lv_if_eq (tgt := 32) hx hb dX3_learn_25 (by decide) (fun c6 => ?_) (fun c6 => ?_)
      · refine lv_iconst (v := 0) hx hb dX3_learn_32 (by decide) ?_
        have e9 : f_X3_learn n0 n1 p1 = (((f_X1_settle ((f_X3_apply n0 n1 p1).1)).1), ((f_X1_settle ((f_X3_apply n0 n1 p1).2.1)).1), 0) := (if_neg c2).trans ((if_neg c4).trans ((if_pos c6).trans (rfl)))
        rw [e9]
        exact sp_zret C hAe hP hK hD hS (Or.inl rfl) dX3_learn_33
      · refine lv_iconst (v := 1) hx hb dX3_learn_28 (by decide) ?_
        refine lv_goto (tgt := 33) hx hb dX3_learn_29 (by decide) ?_
        have e9 : f_X3_learn n0 n1 p1 = (((f_X1_settle ((f_X3_apply n0 n1 p1).1)).1), ((f_X1_settle ((f_X3_apply n0 n1 p1).2.1)).1), 1) := (if_neg c2).trans ((if_neg c4).trans ((if_neg c6).trans (rfl)))
        rw [e9]
        exact sp_zret C hAe hP hK hD hS (Or.inr rfl) dX3_learn_33
def f_X3_tell (n0 : Nm) (n1 : Nm) (n2 : Nm) (n3 : Nm) (p1 : Int32) (p4 : Int32) : Nm × Nm × Nm × Nm × Int32 :=
  if p4 = 0 then (if ((f_X3_learn (f_X1_become n0 n2) (f_X1_become n1 n3) p1).2.2) = 0 then (((f_X3_learn (f_X1_become n0 n2) (f_X1_become n1 n3) p1).1), ((f_X3_learn (f_X1_become n0 n2) (f_X1_become n1 n3) p1).2.1), n2, n3, 0)
    else (((f_X3_learn (f_X1_become n0 n2) (f_X1_become n1 n3) p1).1), ((f_X3_learn (f_X1_become n0 n2) (f_X1_become n1 n3) p1).2.1), (f_X1_become n2 ((f_X3_learn (f_X1_become n0 n2) (f_X1_become n1 n3) p1).1)), (f_X1_become n3 ((f_X3_learn (f_X1_become n0 n2) (f_X1_become n1 n3) p1).2.1)), 1))
  else if (f_X3_fitsNarrow (f_X1_become n0 n2) (f_X1_become n1 n3) p1) = 0 then (if (f_X3_isSigned p1) = 0 then (if ((f_X3_learn (f_X1_narrow (f_X1_become n0 n2)) (f_X1_narrow (f_X1_become n1 n3)) p1).2.2) = 0 then (((f_X3_learn (f_X1_narrow (f_X1_become n0 n2)) (f_X1_narrow (f_X1_become n1 n3)) p1).1), ((f_X3_learn (f_X1_narrow (f_X1_become n0 n2)) (f_X1_narrow (f_X1_become n1 n3)) p1).2.1), n2, n3, 0)
      else (((f_X3_learn (f_X1_narrow (f_X1_become n0 n2)) (f_X1_narrow (f_X1_become n1 n3)) p1).1), ((f_X3_learn (f_X1_narrow (f_X1_become n0 n2)) (f_X1_narrow (f_X1_become n1 n3)) p1).2.1), n2, n3, 1))
    else ((f_X1_become n0 n2), (f_X1_become n1 n3), n2, n3, 1))
  else if ((f_X3_learn (f_X1_become n0 n2) (f_X1_become n1 n3) p1).2.2) = 0 then (((f_X3_learn (f_X1_become n0 n2) (f_X1_become n1 n3) p1).1), ((f_X3_learn (f_X1_become n0 n2) (f_X1_become n1 n3) p1).2.1), n2, n3, 0)
  else (((f_X3_learn (f_X1_become n0 n2) (f_X1_become n1 n3) p1).1), ((f_X3_learn (f_X1_become n0 n2) (f_X1_become n1 n3) p1).2.1), (f_X1_become n2 ((f_X3_learn (f_X1_become n0 n2) (f_X1_become n1 n3) p1).1)), (f_X1_become n3 ((f_X3_learn (f_X1_become n0 n2) (f_X1_become n1 n3) p1).2.1)), 1)
set_option maxHeartbeats 4000000 in
set_option maxRecDepth 100000 in
theorem c_X3_tell (l : Launch) (D : va_G) (h0 : Nat) (h1 : Nat) (h2 : Nat) (h3 : Nat) (h4 : Nat) (n0 : Nm) (n1 : Nm) (n2 : Nm) (n3 : Nm) (p1 : Int32) (p4 : Int32) : sp_M l yX3_tell wsX3_tell ({ frames := 5, cells := 0, slots := 0, locals := 111 }) D [.ref h0, .int p1, .ref h3, .ref h4, .int p4] ([(h0, .inr (3, [.ref h1, .ref h2])), (h1, .inr (1, nm_fs n0)), (h2, .inr (1, nm_fs n1)), (h3, .inr (1, nm_fs n2)), (h4, .inr (1, nm_fs n3))]) [] (sp_Qz D ([(h0, .inr (3, [.ref h1, .ref h2])), (h1, .inr (1, nm_fs n0)), (h2, .inr (1, nm_fs n1)), (h3, .inr (1, nm_fs n2)), (h4, .inr (1, nm_fs n3))]) ([(h0, .inr (3, [.ref h1, .ref h2])), (h1, .inr (1, nm_fs ((f_X3_tell n0 n1 n2 n3 p1 p4).1))), (h2, .inr (1, nm_fs ((f_X3_tell n0 n1 n2 n3 p1 p4).2.1))), (h3, .inr (1, nm_fs ((f_X3_tell n0 n1 n2 n3 p1 p4).2.2.1))), (h4, .inr (1, nm_fs ((f_X3_tell n0 n1 n2 n3 p1 p4).2.2.2.1)))]) [] ((f_X3_tell n0 n1 n2 n3 p1 p4).2.2.2.2)) := by
  refine sp_ofW (cc := cX3_tell) (nL := 6) (ret := (some .boolean)) (own := RX3) (by decide) rfl rfl (Nat.le_of_ble_eq_true rfl) ?_
  intro p e s m below meth c A ls hAe hnm C hA hP hK hD hS hl
  have hx := C.1
  have hb := C.2.1
  have hown := C.2.2.2.2.1
  have hts := C.2.2.2.2.2.1
  have hl : lv_has ls 6 [(0, .ref h0), (1, .int p1), (2, .ref h3), (3, .ref h4), (4, .int p4)] := hl
  have hi3 : ∀ w ∈ u_ws RX3 TX3 2, w ∈ wsX3_tell := fun w h => List.mem_cons_of_mem _ (inX3 w h)
  have hk0 := hts _ (List.mem_cons_of_mem _ wm_113)
  have hk1 := hts _ (List.mem_cons_of_mem _ wm_114)
  refine lv_aload_n hx hb dX3_tell_0 rfl (lv_at hl 0 rfl) ?_
  refine va_get (D := D) (ci := 3) (v := .ref h1) (C := RX3) (T := TX3) (N := 2) hx hb hts hi3 hown hK hP 0 rfl rfl 0 (by decide) hk0 (fun _ h9 => h9) rfl dX3_tell_1 ?_
  refine lv_aload_n hx hb dX3_tell_4 rfl (lv_at hl 2 rfl) ?_
  refine sp_callv (sp_runV (As := [.ref h3]) (rest := []) C (c_X1_become l D h1 h3 n0 n2) (cwV 1 hts (gV wG_c wm_271 wm_167 wm_168 wm_31 wm_165) rfl rfl rfl (by decide +kernel) ⟨Nat.le_of_ble_eq_true rfl, Nat.le_of_ble_eq_true rfl⟩) hK hP hD [1, 3] (by decide) rfl [] rfl 0 1 rfl rfl rfl rfl hl.1 rfl (Nat.le_of_ble_eq_true rfl) dX3_tell_5 ⟨Nat.le_of_ble_eq_true rfl, Nat.le_of_ble_eq_true rfl⟩) hP hD hS hA [1, 3] rfl (sp_fc (sp_fc sp_f0)) (fun H locs hP hD hS => ?_)
  have hP : va_P D vwCl ([(h0, .inr (3, [.ref h1, .ref h2])), (h1, .inr (1, nm_fs (f_X1_become n0 n2))), (h2, .inr (1, nm_fs n1)), (h3, .inr (1, nm_fs n2)), (h4, .inr (1, nm_fs n3))]) H := hP
  have hD : va_D A ([(h0, .inr (3, [.ref h1, .ref h2])), (h1, .inr (1, nm_fs (f_X1_become n0 n2))), (h2, .inr (1, nm_fs n1)), (h3, .inr (1, nm_fs n2)), (h4, .inr (1, nm_fs n3))]) := hD
  refine lv_aload_n hx hb dX3_tell_8 rfl (lv_at hl 0 rfl) ?_
  refine va_get (D := D) (ci := 3) (v := .ref h2) (C := RX3) (T := TX3) (N := 2) hx hb hts hi3 hown hK hP 0 rfl rfl 1 (by decide) hk1 (fun _ h9 => h9) rfl dX3_tell_9 ?_
  refine lv_aload_n hx hb dX3_tell_12 rfl (lv_at hl 3 rfl) ?_
  refine sp_callv (sp_runV (As := [.ref h4]) (rest := []) C (c_X1_become l D h2 h4 n1 n3) (cwV 1 hts (gV wG_c wm_271 wm_167 wm_168 wm_31 wm_165) rfl rfl rfl (by decide +kernel) ⟨Nat.le_of_ble_eq_true rfl, Nat.le_of_ble_eq_true rfl⟩) hK hP hD [2, 4] (by decide) rfl [] rfl 0 1 rfl rfl rfl rfl hl.1 rfl (Nat.le_of_ble_eq_true rfl) dX3_tell_13 ⟨Nat.le_of_ble_eq_true rfl, Nat.le_of_ble_eq_true rfl⟩) hP hD hS hA [2, 4] rfl (sp_fc (sp_fc sp_f0)) (fun H locs hP hD hS => ?_)
  have hP : va_P D vwCl ([(h0, .inr (3, [.ref h1, .ref h2])), (h1, .inr (1, nm_fs (f_X1_become n0 n2))), (h2, .inr (1, nm_fs (f_X1_become n1 n3))), (h3, .inr (1, nm_fs n2)), (h4, .inr (1, nm_fs n3))]) H := hP
  have hD : va_D A ([(h0, .inr (3, [.ref h1, .ref h2])), (h1, .inr (1, nm_fs (f_X1_become n0 n2))), (h2, .inr (1, nm_fs (f_X1_become n1 n3))), (h3, .inr (1, nm_fs n2)), (h4, .inr (1, nm_fs n3))]) := hD
  refine lv_iload hx hb dX3_tell_16 (lv_at hl 4 rfl) ?_
  refine lv_if_eq (tgt := 29) hx hb dX3_tell_18 (by decide) (fun c1 => ?_) (fun c1 => ?_)
  · refine lv_iconst (v := 1) hx hb dX3_tell_29 (by decide) ?_
    refine lv_goto (tgt := 34) hx hb dX3_tell_30 (by decide) ?_
    refine lv_istore (lv' := [(5, .int 1), (0, .ref h0), (1, .int p1), (2, .ref h3), (3, .ref h4), (4, .int p4)]) hx hb dX3_tell_34 hl (by decide) rfl (fun ls hl => ?_)
    refine lv_iload hx hb dX3_tell_36 (lv_at hl 0 rfl) ?_
    refine lv_if_ne (tgt := 64) hx hb dX3_tell_38 (by decide) (fun _ => ?_) (fun h9 => absurd h9 (by decide))
    refine lv_aload_n hx hb dX3_tell_64 rfl (lv_at hl 1 rfl) ?_
    refine lv_iload_n hx hb dX3_tell_65 rfl (lv_at hl 2 rfl) ?_
    refine sp_callz (sp_runV (As := [.int p1]) (rest := []) C (c_X3_learn l D h0 h1 h2 (f_X1_become n0 n2) (f_X1_become n1 n3) p1) (cwV 1 hts (gV wG_c wm_333 wm_334 wm_335 wm_127 wm_332) rfl rfl rfl (by decide +kernel) ⟨Nat.le_of_ble_eq_true rfl, Nat.le_of_ble_eq_true rfl⟩) hK hP hD [0, 1, 2] (by decide) rfl [] rfl 0 3 rfl rfl rfl rfl hl.1 rfl (Nat.le_of_ble_eq_true rfl) dX3_tell_66 ⟨Nat.le_of_ble_eq_true rfl, Nat.le_of_ble_eq_true rfl⟩) hP hD hS hA [0, 1, 2] rfl (sp_fc (sp_fc (sp_fc sp_f0))) (fun H locs z2 hP hD hS => ?_)
    have hP : va_P D vwCl ([(h0, .inr (3, [.ref h1, .ref h2])), (h1, .inr (1, nm_fs ((f_X3_learn (f_X1_become n0 n2) (f_X1_become n1 n3) p1).1))), (h2, .inr (1, nm_fs ((f_X3_learn (f_X1_become n0 n2) (f_X1_become n1 n3) p1).2.1))), (h3, .inr (1, nm_fs n2)), (h4, .inr (1, nm_fs n3))]) H := hP
    have hD : va_D A ([(h0, .inr (3, [.ref h1, .ref h2])), (h1, .inr (1, nm_fs ((f_X3_learn (f_X1_become n0 n2) (f_X1_become n1 n3) p1).1))), (h2, .inr (1, nm_fs ((f_X3_learn (f_X1_become n0 n2) (f_X1_become n1 n3) p1).2.1))), (h3, .inr (1, nm_fs n2)), (h4, .inr (1, nm_fs n3))]) := hD
    refine lv_if_ne (tgt := 74) hx hb dX3_tell_69 (by decide) (fun c3 => ?_) (fun c3 => ?_)
    · refine lv_iload hx hb dX3_tell_74 (lv_at hl 0 rfl) ?_
      refine lv_if_eq (tgt := 95) hx hb dX3_tell_76 (by decide) (fun h9 => absurd h9 (by decide)) (fun _ => ?_)
      refine lv_aload_n hx hb dX3_tell_79 rfl (lv_at hl 3 rfl) ?_
      refine lv_aload_n hx hb dX3_tell_80 rfl (lv_at hl 1 rfl) ?_
      refine va_get (D := D) (ci := 3) (v := .ref h1) (C := RX3) (T := TX3) (N := 2) hx hb hts hi3 hown hK hP 0 rfl rfl 0 (by decide) hk0 (fun _ h9 => h9) rfl dX3_tell_81 ?_
      refine sp_callv (sp_runV (As := [.ref h1]) (rest := []) C (c_X1_become l D h3 h1 n2 ((f_X3_learn (f_X1_become n0 n2) (f_X1_become n1 n3) p1).1)) (cwV 1 hts (gV wG_c wm_271 wm_167 wm_168 wm_31 wm_165) rfl rfl rfl (by decide +kernel) ⟨Nat.le_of_ble_eq_true rfl, Nat.le_of_ble_eq_true rfl⟩) hK hP hD [3, 1] (by decide) rfl [] rfl 0 1 rfl rfl rfl rfl hl.1 rfl (Nat.le_of_ble_eq_true rfl) dX3_tell_84 ⟨Nat.le_of_ble_eq_true rfl, Nat.le_of_ble_eq_true rfl⟩) hP hD hS hA [3, 1] rfl (sp_fc (sp_fc sp_f0)) (fun H locs hP hD hS => ?_)
      have hP : va_P D vwCl ([(h0, .inr (3, [.ref h1, .ref h2])), (h1, .inr (1, nm_fs ((f_X3_learn (f_X1_become n0 n2) (f_X1_become n1 n3) p1).1))), (h2, .inr (1, nm_fs ((f_X3_learn (f_X1_become n0 n2) (f_X1_become n1 n3) p1).2.1))), (h3, .inr (1, nm_fs (f_X1_become n2 ((f_X3_learn (f_X1_become n0 n2) (f_X1_become n1 n3) p1).1)))), (h4, .inr (1, nm_fs n3))]) H := hP
      have hD : va_D A ([(h0, .inr (3, [.ref h1, .ref h2])), (h1, .inr (1, nm_fs ((f_X3_learn (f_X1_become n0 n2) (f_X1_become n1 n3) p1).1))), (h2, .inr (1, nm_fs ((f_X3_learn (f_X1_become n0 n2) (f_X1_become n1 n3) p1).2.1))), (h3, .inr (1, nm_fs (f_X1_become n2 ((f_X3_learn (f_X1_become n0 n2) (f_X1_become n1 n3) p1).1)))), (h4, .inr (1, nm_fs n3))]) := hD
      refine lv_aload_n hx hb dX3_tell_87 rfl (lv_at hl 4 rfl) ?_
      refine lv_aload_n hx hb dX3_tell_88 rfl (lv_at hl 1 rfl) ?_
      refine va_get (D := D) (ci := 3) (v := .ref h2) (C := RX3) (T := TX3) (N := 2) hx hb hts hi3 hown hK hP 0 rfl rfl 1 (by decide) hk1 (fun _ h9 => h9) rfl dX3_tell_89 ?_
      refine sp_callv (sp_runV (As := [.ref h2]) (rest := []) C (c_X1_become l D h4 h2 n3 ((f_X3_learn (f_X1_become n0 n2) (f_X1_become n1 n3) p1).2.1)) (cwV 1 hts (gV wG_c wm_271 wm_167 wm_168 wm_31 wm_165) rfl rfl rfl (by decide +kernel) ⟨Nat.le_of_ble_eq_true rfl, Nat.le_of_ble_eq_true rfl⟩) hK hP hD [4, 2] (by decide) rfl [] rfl 0 1 rfl rfl rfl rfl hl.1 rfl (Nat.le_of_ble_eq_true rfl) dX3_tell_92 ⟨Nat.le_of_ble_eq_true rfl, Nat.le_of_ble_eq_true rfl⟩) hP hD hS hA [4, 2] rfl (sp_fc (sp_fc sp_f0)) (fun H locs hP hD hS => ?_)
      have hP : va_P D vwCl ([(h0, .inr (3, [.ref h1, .ref h2])), (h1, .inr (1, nm_fs ((f_X3_learn (f_X1_become n0 n2) (f_X1_become n1 n3) p1).1))), (h2, .inr (1, nm_fs ((f_X3_learn (f_X1_become n0 n2) (f_X1_become n1 n3) p1).2.1))), (h3, .inr (1, nm_fs (f_X1_become n2 ((f_X3_learn (f_X1_become n0 n2) (f_X1_become n1 n3) p1).1)))), (h4, .inr (1, nm_fs (f_X1_become n3 ((f_X3_learn (f_X1_become n0 n2) (f_X1_become n1 n3) p1).2.1))))]) H := hP
      have hD : va_D A ([(h0, .inr (3, [.ref h1, .ref h2])), (h1, .inr (1, nm_fs ((f_X3_learn (f_X1_become n0 n2) (f_X1_become n1 n3) p1).1))), (h2, .inr (1, nm_fs ((f_X3_learn (f_X1_become n0 n2) (f_X1_become n1 n3) p1).2.1))), (h3, .inr (1, nm_fs (f_X1_become n2 ((f_X3_learn (f_X1_become n0 n2) (f_X1_become n1 n3) p1).1)))), (h4, .inr (1, nm_fs (f_X1_become n3 ((f_X3_learn (f_X1_become n0 n2) (f_X1_become n1 n3) p1).2.1))))]) := hD
      refine lv_iconst (v := 1) hx hb dX3_tell_95 (by decide) ?_
      have e9 : f_X3_tell n0 n1 n2 n3 p1 p4 = (((f_X3_learn (f_X1_become n0 n2) (f_X1_become n1 n3) p1).1), ((f_X3_learn (f_X1_become n0 n2) (f_X1_become n1 n3) p1).2.1), (f_X1_become n2 ((f_X3_learn (f_X1_become n0 n2) (f_X1_become n1 n3) p1).1)), (f_X1_become n3 ((f_X3_learn (f_X1_become n0 n2) (f_X1_become n1 n3) p1).2.1)), 1) := (if_pos c1).trans ((if_neg c3).trans (rfl))
      rw [e9]
      exact sp_zret C hAe hP hK hD hS (Or.inr rfl) dX3_tell_96
    · refine lv_iconst (v := 0) hx hb dX3_tell_72 (by decide) ?_
      have e9 : f_X3_tell n0 n1 n2 n3 p1 p4 = (((f_X3_learn (f_X1_become n0 n2) (f_X1_become n1 n3) p1).1), ((f_X3_learn (f_X1_become n0 n2) (f_X1_become n1 n3) p1).2.1), n2, n3, 0) := (if_pos c1).trans ((if_pos c3).trans (rfl))
      rw [e9]
      exact sp_zret C hAe hP hK hD hS (Or.inl rfl) dX3_tell_73
  · refine lv_aload_n hx hb dX3_tell_21 rfl (lv_at hl 0 rfl) ?_
    refine lv_iload_n hx hb dX3_tell_22 rfl (lv_at hl 1 rfl) ?_
    refine sp_callz (sp_runV (As := [.int p1]) (rest := []) C (c_X3_fitsNarrow l D h0 h1 h2 (f_X1_become n0 n2) (f_X1_become n1 n3) p1) (cwV 1 hts (gV wG_c wm_337 wm_338 wm_339 wm_127 wm_336) rfl rfl rfl (by decide +kernel) ⟨Nat.le_of_ble_eq_true rfl, Nat.le_of_ble_eq_true rfl⟩) hK hP hD [0, 1, 2] (by decide) rfl [] rfl 0 3 rfl rfl rfl rfl hl.1 rfl (Nat.le_of_ble_eq_true rfl) dX3_tell_23 ⟨Nat.le_of_ble_eq_true rfl, Nat.le_of_ble_eq_true rfl⟩) hP hD hS hA [0, 1, 2] rfl (sp_fc (sp_fc (sp_fc sp_f0))) (fun H locs z4 hP hD hS => ?_)
    have hP : va_P D vwCl ([(h0, .inr (3, [.ref h1, .ref h2])), (h1, .inr (1, nm_fs (f_X1_become n0 n2))), (h2, .inr (1, nm_fs (f_X1_become n1 n3))), (h3, .inr (1, nm_fs n2)), (h4, .inr (1, nm_fs n3))]) H := hP
    have hD : va_D A ([(h0, .inr (3, [.ref h1, .ref h2])), (h1, .inr (1, nm_fs (f_X1_become n0 n2))), (h2, .inr (1, nm_fs (f_X1_become n1 n3))), (h3, .inr (1, nm_fs n2)), (h4, .inr (1, nm_fs n3))]) := hD
    refine lv_if_eq (tgt := 33) hx hb dX3_tell_26 (by decide) (fun c5 => ?_) (fun c5 => ?_)
    · refine lv_iconst (v := 0) hx hb dX3_tell_33 (by decide) ?_
      refine lv_istore (lv' := [(5, .int 0), (0, .ref h0), (1, .int p1), (2, .ref h3), (3, .ref h4), (4, .int p4)]) hx hb dX3_tell_34 hl (by decide) rfl (fun ls hl => ?_)
      refine lv_iload hx hb dX3_tell_36 (lv_at hl 0 rfl) ?_
      refine lv_if_ne (tgt := 64) hx hb dX3_tell_38 (by decide) (fun h9 => absurd h9 (by decide)) (fun _ => ?_)
      refine lv_iload_n hx hb dX3_tell_41 rfl (lv_at hl 2 rfl) ?_
      refine sp_callz (sp_runS (As := [.int p1]) (rest := []) C (c_X3_isSigned l D p1) (va_cwS 1 hts (gS wG_c wm_279 wm_280 wm_127 wm_278) rfl rfl rfl (by decide +kernel) ⟨Nat.le_of_ble_eq_true rfl, Nat.le_of_ble_eq_true rfl⟩) hK hP hD [] (by decide) rfl [] rfl rfl hl.1 rfl (Nat.le_of_ble_eq_true rfl) dX3_tell_42 ⟨Nat.le_of_ble_eq_true rfl, Nat.le_of_ble_eq_true rfl⟩) hP hD hS hA [] rfl sp_f0 (fun H locs z6 hP hD hS => ?_)
      have hP : va_P D vwCl ([(h0, .inr (3, [.ref h1, .ref h2])), (h1, .inr (1, nm_fs (f_X1_become n0 n2))), (h2, .inr (1, nm_fs (f_X1_become n1 n3))), (h3, .inr (1, nm_fs n2)), (h4, .inr (1, nm_fs n3))]) H := hP
      have hD : va_D A ([(h0, .inr (3, [.ref h1, .ref h2])), (h1, .inr (1, nm_fs (f_X1_become n0 n2))), (h2, .inr (1, nm_fs (f_X1_become n1 n3))), (h3, .inr (1, nm_fs n2)), (h4, .inr (1, nm_fs n3))]) := hD
      refine lv_if_eq (tgt := 50) hx hb dX3_tell_45 (by decide) (fun c7 => ?_) (fun c7 => ?_)
      · refine lv_aload_n hx hb dX3_tell_50 rfl (lv_at hl 1 rfl) ?_
        refine va_get (D := D) (ci := 3) (v := .ref h1) (C := RX3) (T := TX3) (N := 2) hx hb hts hi3 hown hK hP 0 rfl rfl 0 (by decide) hk0 (fun _ h9 => h9) rfl dX3_tell_51 ?_
        refine sp_callv (sp_runV (As := []) (rest := []) C (c_X1_narrow l D h1 (f_X1_become n0 n2)) (cwV 0 hts (gV wG_c wm_340 wm_257 wm_258 wm_31 wm_255) rfl rfl rfl (by decide +kernel) ⟨Nat.le_of_ble_eq_true rfl, Nat.le_of_ble_eq_true rfl⟩) hK hP hD [1] (by decide) rfl [] rfl 0 1 rfl rfl rfl rfl hl.1 rfl (Nat.le_of_ble_eq_true rfl) dX3_tell_54 ⟨Nat.le_of_ble_eq_true rfl, Nat.le_of_ble_eq_true rfl⟩) hP hD hS hA [1] rfl (sp_fc sp_f0) (fun H locs hP hD hS => ?_)
        have hP : va_P D vwCl ([(h0, .inr (3, [.ref h1, .ref h2])), (h1, .inr (1, nm_fs (f_X1_narrow (f_X1_become n0 n2)))), (h2, .inr (1, nm_fs (f_X1_become n1 n3))), (h3, .inr (1, nm_fs n2)), (h4, .inr (1, nm_fs n3))]) H := hP
        have hD : va_D A ([(h0, .inr (3, [.ref h1, .ref h2])), (h1, .inr (1, nm_fs (f_X1_narrow (f_X1_become n0 n2)))), (h2, .inr (1, nm_fs (f_X1_become n1 n3))), (h3, .inr (1, nm_fs n2)), (h4, .inr (1, nm_fs n3))]) := hD
        refine lv_aload_n hx hb dX3_tell_57 rfl (lv_at hl 1 rfl) ?_
        refine va_get (D := D) (ci := 3) (v := .ref h2) (C := RX3) (T := TX3) (N := 2) hx hb hts hi3 hown hK hP 0 rfl rfl 1 (by decide) hk1 (fun _ h9 => h9) rfl dX3_tell_58 ?_
        refine sp_callv (sp_runV (As := []) (rest := []) C (c_X1_narrow l D h2 (f_X1_become n1 n3)) (cwV 0 hts (gV wG_c wm_340 wm_257 wm_258 wm_31 wm_255) rfl rfl rfl (by decide +kernel) ⟨Nat.le_of_ble_eq_true rfl, Nat.le_of_ble_eq_true rfl⟩) hK hP hD [2] (by decide) rfl [] rfl 0 1 rfl rfl rfl rfl hl.1 rfl (Nat.le_of_ble_eq_true rfl) dX3_tell_61 ⟨Nat.le_of_ble_eq_true rfl, Nat.le_of_ble_eq_true rfl⟩) hP hD hS hA [2] rfl (sp_fc sp_f0) (fun H locs hP hD hS => ?_)
        have hP : va_P D vwCl ([(h0, .inr (3, [.ref h1, .ref h2])), (h1, .inr (1, nm_fs (f_X1_narrow (f_X1_become n0 n2)))), (h2, .inr (1, nm_fs (f_X1_narrow (f_X1_become n1 n3)))), (h3, .inr (1, nm_fs n2)), (h4, .inr (1, nm_fs n3))]) H := hP
        have hD : va_D A ([(h0, .inr (3, [.ref h1, .ref h2])), (h1, .inr (1, nm_fs (f_X1_narrow (f_X1_become n0 n2)))), (h2, .inr (1, nm_fs (f_X1_narrow (f_X1_become n1 n3)))), (h3, .inr (1, nm_fs n2)), (h4, .inr (1, nm_fs n3))]) := hD
        refine lv_aload_n hx hb dX3_tell_64 rfl (lv_at hl 1 rfl) ?_
        refine lv_iload_n hx hb dX3_tell_65 rfl (lv_at hl 2 rfl) ?_
        refine sp_callz (sp_runV (As := [.int p1]) (rest := []) C (c_X3_learn l D h0 h1 h2 (f_X1_narrow (f_X1_become n0 n2)) (f_X1_narrow (f_X1_become n1 n3)) p1) (cwV 1 hts (gV wG_c wm_333 wm_334 wm_335 wm_127 wm_332) rfl rfl rfl (by decide +kernel) ⟨Nat.le_of_ble_eq_true rfl, Nat.le_of_ble_eq_true rfl⟩) hK hP hD [0, 1, 2] (by decide) rfl [] rfl 0 3 rfl rfl rfl rfl hl.1 rfl (Nat.le_of_ble_eq_true rfl) dX3_tell_66 ⟨Nat.le_of_ble_eq_true rfl, Nat.le_of_ble_eq_true rfl⟩) hP hD hS hA [0, 1, 2] rfl (sp_fc (sp_fc (sp_fc sp_f0))) (fun H locs z8 hP hD hS => ?_)
        have hP : va_P D vwCl ([(h0, .inr (3, [.ref h1, .ref h2])), (h1, .inr (1, nm_fs ((f_X3_learn (f_X1_narrow (f_X1_become n0 n2)) (f_X1_narrow (f_X1_become n1 n3)) p1).1))), (h2, .inr (1, nm_fs ((f_X3_learn (f_X1_narrow (f_X1_become n0 n2)) (f_X1_narrow (f_X1_become n1 n3)) p1).2.1))), (h3, .inr (1, nm_fs n2)), (h4, .inr (1, nm_fs n3))]) H := hP
        have hD : va_D A ([(h0, .inr (3, [.ref h1, .ref h2])), (h1, .inr (1, nm_fs ((f_X3_learn (f_X1_narrow (f_X1_become n0 n2)) (f_X1_narrow (f_X1_become n1 n3)) p1).1))), (h2, .inr (1, nm_fs ((f_X3_learn (f_X1_narrow (f_X1_become n0 n2)) (f_X1_narrow (f_X1_become n1 n3)) p1).2.1))), (h3, .inr (1, nm_fs n2)), (h4, .inr (1, nm_fs n3))]) := hD
        refine lv_if_ne (tgt := 74) hx hb dX3_tell_69 (by decide) (fun c9 => ?_) (fun c9 => ?_)
        · refine lv_iload hx hb dX3_tell_74 (lv_at hl 0 rfl) ?_
          refine lv_if_eq (tgt := 95) hx hb dX3_tell_76 (by decide) (fun _ => ?_) (fun h9 => absurd h9 (by decide))
          refine lv_iconst (v := 1) hx hb dX3_tell_95 (by decide) ?_
          have e9 : f_X3_tell n0 n1 n2 n3 p1 p4 = (((f_X3_learn (f_X1_narrow (f_X1_become n0 n2)) (f_X1_narrow (f_X1_become n1 n3)) p1).1), ((f_X3_learn (f_X1_narrow (f_X1_become n0 n2)) (f_X1_narrow (f_X1_become n1 n3)) p1).2.1), n2, n3, 1) := (if_neg c1).trans ((if_pos c5).trans ((if_pos c7).trans ((if_neg c9).trans (rfl))))
          rw [e9]
          exact sp_zret C hAe hP hK hD hS (Or.inr rfl) dX3_tell_96
        · refine lv_iconst (v := 0) hx hb dX3_tell_72 (by decide) ?_
          have e9 : f_X3_tell n0 n1 n2 n3 p1 p4 = (((f_X3_learn (f_X1_narrow (f_X1_become n0 n2)) (f_X1_narrow (f_X1_become n1 n3)) p1).1), ((f_X3_learn (f_X1_narrow (f_X1_become n0 n2)) (f_X1_narrow (f_X1_become n1 n3)) p1).2.1), n2, n3, 0) := (if_neg c1).trans ((if_pos c5).trans ((if_pos c7).trans ((if_pos c9).trans (rfl))))
          rw [e9]
          exact sp_zret C hAe hP hK hD hS (Or.inl rfl) dX3_tell_73
      · refine lv_iconst (v := 1) hx hb dX3_tell_48 (by decide) ?_
        have e9 : f_X3_tell n0 n1 n2 n3 p1 p4 = ((f_X1_become n0 n2), (f_X1_become n1 n3), n2, n3, 1) := (if_neg c1).trans ((if_pos c5).trans ((if_neg c7).trans (rfl)))
        rw [e9]
        exact sp_zret C hAe hP hK hD hS (Or.inr rfl) dX3_tell_49
    · refine lv_iconst (v := 1) hx hb dX3_tell_29 (by decide) ?_
      refine lv_goto (tgt := 34) hx hb dX3_tell_30 (by decide) ?_
      refine lv_istore (lv' := [(5, .int 1), (0, .ref h0), (1, .int p1), (2, .ref h3), (3, .ref h4), (4, .int p4)]) hx hb dX3_tell_34 hl (by decide) rfl (fun ls hl => ?_)
      refine lv_iload hx hb dX3_tell_36 (lv_at hl 0 rfl) ?_
      refine lv_if_ne (tgt := 64) hx hb dX3_tell_38 (by decide) (fun _ => ?_) (fun h9 => absurd h9 (by decide))
      refine lv_aload_n hx hb dX3_tell_64 rfl (lv_at hl 1 rfl) ?_
      refine lv_iload_n hx hb dX3_tell_65 rfl (lv_at hl 2 rfl) ?_
      refine sp_callz (sp_runV (As := [.int p1]) (rest := []) C (c_X3_learn l D h0 h1 h2 (f_X1_become n0 n2) (f_X1_become n1 n3) p1) (cwV 1 hts (gV wG_c wm_333 wm_334 wm_335 wm_127 wm_332) rfl rfl rfl (by decide +kernel) ⟨Nat.le_of_ble_eq_true rfl, Nat.le_of_ble_eq_true rfl⟩) hK hP hD [0, 1, 2] (by decide) rfl [] rfl 0 3 rfl rfl rfl rfl hl.1 rfl (Nat.le_of_ble_eq_true rfl) dX3_tell_66 ⟨Nat.le_of_ble_eq_true rfl, Nat.le_of_ble_eq_true rfl⟩) hP hD hS hA [0, 1, 2] rfl (sp_fc (sp_fc (sp_fc sp_f0))) (fun H locs z10 hP hD hS => ?_)
      have hP : va_P D vwCl ([(h0, .inr (3, [.ref h1, .ref h2])), (h1, .inr (1, nm_fs ((f_X3_learn (f_X1_become n0 n2) (f_X1_become n1 n3) p1).1))), (h2, .inr (1, nm_fs ((f_X3_learn (f_X1_become n0 n2) (f_X1_become n1 n3) p1).2.1))), (h3, .inr (1, nm_fs n2)), (h4, .inr (1, nm_fs n3))]) H := hP
      have hD : va_D A ([(h0, .inr (3, [.ref h1, .ref h2])), (h1, .inr (1, nm_fs ((f_X3_learn (f_X1_become n0 n2) (f_X1_become n1 n3) p1).1))), (h2, .inr (1, nm_fs ((f_X3_learn (f_X1_become n0 n2) (f_X1_become n1 n3) p1).2.1))), (h3, .inr (1, nm_fs n2)), (h4, .inr (1, nm_fs n3))]) := hD
      refine lv_if_ne (tgt := 74) hx hb dX3_tell_69 (by decide) (fun c11 => ?_) (fun c11 => ?_)
      · refine lv_iload hx hb dX3_tell_74 (lv_at hl 0 rfl) ?_
        refine lv_if_eq (tgt := 95) hx hb dX3_tell_76 (by decide) (fun h9 => absurd h9 (by decide)) (fun _ => ?_)
        refine lv_aload_n hx hb dX3_tell_79 rfl (lv_at hl 3 rfl) ?_
        refine lv_aload_n hx hb dX3_tell_80 rfl (lv_at hl 1 rfl) ?_
        refine va_get (D := D) (ci := 3) (v := .ref h1) (C := RX3) (T := TX3) (N := 2) hx hb hts hi3 hown hK hP 0 rfl rfl 0 (by decide) hk0 (fun _ h9 => h9) rfl dX3_tell_81 ?_
        refine sp_callv (sp_runV (As := [.ref h1]) (rest := []) C (c_X1_become l D h3 h1 n2 ((f_X3_learn (f_X1_become n0 n2) (f_X1_become n1 n3) p1).1)) (cwV 1 hts (gV wG_c wm_271 wm_167 wm_168 wm_31 wm_165) rfl rfl rfl (by decide +kernel) ⟨Nat.le_of_ble_eq_true rfl, Nat.le_of_ble_eq_true rfl⟩) hK hP hD [3, 1] (by decide) rfl [] rfl 0 1 rfl rfl rfl rfl hl.1 rfl (Nat.le_of_ble_eq_true rfl) dX3_tell_84 ⟨Nat.le_of_ble_eq_true rfl, Nat.le_of_ble_eq_true rfl⟩) hP hD hS hA [3, 1] rfl (sp_fc (sp_fc sp_f0)) (fun H locs hP hD hS => ?_)
        have hP : va_P D vwCl ([(h0, .inr (3, [.ref h1, .ref h2])), (h1, .inr (1, nm_fs ((f_X3_learn (f_X1_become n0 n2) (f_X1_become n1 n3) p1).1))), (h2, .inr (1, nm_fs ((f_X3_learn (f_X1_become n0 n2) (f_X1_become n1 n3) p1).2.1))), (h3, .inr (1, nm_fs (f_X1_become n2 ((f_X3_learn (f_X1_become n0 n2) (f_X1_become n1 n3) p1).1)))), (h4, .inr (1, nm_fs n3))]) H := hP
        have hD : va_D A ([(h0, .inr (3, [.ref h1, .ref h2])), (h1, .inr (1, nm_fs ((f_X3_learn (f_X1_become n0 n2) (f_X1_become n1 n3) p1).1))), (h2, .inr (1, nm_fs ((f_X3_learn (f_X1_become n0 n2) (f_X1_become n1 n3) p1).2.1))), (h3, .inr (1, nm_fs (f_X1_become n2 ((f_X3_learn (f_X1_become n0 n2) (f_X1_become n1 n3) p1).1)))), (h4, .inr (1, nm_fs n3))]) := hD
        refine lv_aload_n hx hb dX3_tell_87 rfl (lv_at hl 4 rfl) ?_
        refine lv_aload_n hx hb dX3_tell_88 rfl (lv_at hl 1 rfl) ?_
        refine va_get (D := D) (ci := 3) (v := .ref h2) (C := RX3) (T := TX3) (N := 2) hx hb hts hi3 hown hK hP 0 rfl rfl 1 (by decide) hk1 (fun _ h9 => h9) rfl dX3_tell_89 ?_
        refine sp_callv (sp_runV (As := [.ref h2]) (rest := []) C (c_X1_become l D h4 h2 n3 ((f_X3_learn (f_X1_become n0 n2) (f_X1_become n1 n3) p1).2.1)) (cwV 1 hts (gV wG_c wm_271 wm_167 wm_168 wm_31 wm_165) rfl rfl rfl (by decide +kernel) ⟨Nat.le_of_ble_eq_true rfl, Nat.le_of_ble_eq_true rfl⟩) hK hP hD [4, 2] (by decide) rfl [] rfl 0 1 rfl rfl rfl rfl hl.1 rfl (Nat.le_of_ble_eq_true rfl) dX3_tell_92 ⟨Nat.le_of_ble_eq_true rfl, Nat.le_of_ble_eq_true rfl⟩) hP hD hS hA [4, 2] rfl (sp_fc (sp_fc sp_f0)) (fun H locs hP hD hS => ?_)
        have hP : va_P D vwCl ([(h0, .inr (3, [.ref h1, .ref h2])), (h1, .inr (1, nm_fs ((f_X3_learn (f_X1_become n0 n2) (f_X1_become n1 n3) p1).1))), (h2, .inr (1, nm_fs ((f_X3_learn (f_X1_become n0 n2) (f_X1_become n1 n3) p1).2.1))), (h3, .inr (1, nm_fs (f_X1_become n2 ((f_X3_learn (f_X1_become n0 n2) (f_X1_become n1 n3) p1).1)))), (h4, .inr (1, nm_fs (f_X1_become n3 ((f_X3_learn (f_X1_become n0 n2) (f_X1_become n1 n3) p1).2.1))))]) H := hP
        have hD : va_D A ([(h0, .inr (3, [.ref h1, .ref h2])), (h1, .inr (1, nm_fs ((f_X3_learn (f_X1_become n0 n2) (f_X1_become n1 n3) p1).1))), (h2, .inr (1, nm_fs ((f_X3_learn (f_X1_become n0 n2) (f_X1_become n1 n3) p1).2.1))), (h3, .inr (1, nm_fs (f_X1_become n2 ((f_X3_learn (f_X1_become n0 n2) (f_X1_become n1 n3) p1).1)))), (h4, .inr (1, nm_fs (f_X1_become n3 ((f_X3_learn (f_X1_become n0 n2) (f_X1_become n1 n3) p1).2.1))))]) := hD
        refine lv_iconst (v := 1) hx hb dX3_tell_95 (by decide) ?_
        have e9 : f_X3_tell n0 n1 n2 n3 p1 p4 = (((f_X3_learn (f_X1_become n0 n2) (f_X1_become n1 n3) p1).1), ((f_X3_learn (f_X1_become n0 n2) (f_X1_become n1 n3) p1).2.1), (f_X1_become n2 ((f_X3_learn (f_X1_become n0 n2) (f_X1_become n1 n3) p1).1)), (f_X1_become n3 ((f_X3_learn (f_X1_become n0 n2) (f_X1_become n1 n3) p1).2.1)), 1) := (if_neg c1).trans ((if_neg c5).trans ((if_neg c11).trans (rfl)))
        rw [e9]
        exact sp_zret C hAe hP hK hD hS (Or.inr rfl) dX3_tell_96
      · refine lv_iconst (v := 0) hx hb dX3_tell_72 (by decide) ?_
        have e9 : f_X3_tell n0 n1 n2 n3 p1 p4 = (((f_X3_learn (f_X1_become n0 n2) (f_X1_become n1 n3) p1).1), ((f_X3_learn (f_X1_become n0 n2) (f_X1_become n1 n3) p1).2.1), n2, n3, 0) := (if_neg c1).trans ((if_neg c5).trans ((if_pos c11).trans (rfl)))
        rw [e9]
        exact sp_zret C hAe hP hK hD hS (Or.inl rfl) dX3_tell_73
