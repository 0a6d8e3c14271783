theorem wm_341 : (.code yX0_isNumber cX0_isNumber 1 (some .boolean) : Cond) ∈ wsG := wG_of 174 (by decide +kernel) (by decide +kernel)
theorem wm_342 : (.methodLink RX0 30 yX0_isNumber : Cond) ∈ wsG := wG_of 172 (by decide +kernel) (by decide +kernel)
theorem wm_343 : (.static yX0_isNumber : Cond) ∈ wsG := wG_of 173 (by decide +kernel) (by decide +kernel)
theorem wm_344 : (.methodLink RX0 34 yX1_becomeExact : Cond) ∈ wsG := wG_of 175 (by decide +kernel) (by decide +kernel)
theorem wm_345 : (.methodLink RX0 38 yX1_becomeAny : Cond) ∈ wsG := wG_of 195 (by decide +kernel) (by decide +kernel)
theorem wm_346 : (.methodLink RX0 43 yX1_setBits : Cond) ∈ wsG := wG_of 207 (by decide +kernel) (by decide +kernel)
theorem wm_347 : (.methodLink RX0 47 yX1_settle : Cond) ∈ wsG := wG_of 208 (by decide +kernel) (by decide +kernel)
theorem wm_348 : (.constantLong RX0 41 (-1) : Cond) ∈ wsG := wG_of 206 (by decide +kernel) (by decide +kernel)
theorem wm_349 : (.methodLink RX0 58 yX1_setUnsigned : Cond) ∈ wsG := wG_of 275 (by decide +kernel) (by decide +kernel)
theorem wm_350 : (.methodLink RX0 55 yX1_setSigned : Cond) ∈ wsG := wG_of 274 (by decide +kernel) (by decide +kernel)
theorem wm_351 : (.code yX2_compute cX2_compute 5 (some (.object "RangeDesk$Num")) : Cond) ∈ wsG := wG_of 283 (by decide +kernel) (by decide +kernel)
theorem wm_352 : (.methodLink RX0 61 yX2_compute : Cond) ∈ wsG := wG_of 280 (by decide +kernel) (by decide +kernel)
theorem wm_353 : (.instanceMethod yX2_compute : Cond) ∈ wsG := wG_of 281 (by decide +kernel) (by decide +kernel)
theorem wm_354 : (.selects RX2 yX2_compute yX2_compute : Cond) ∈ wsG := wG_of 282 (by decide +kernel) (by decide +kernel)
theorem wm_355 : (.methodLink RX0 65 yX1_become : Cond) ∈ wsG := wG_of 414 (by decide +kernel) (by decide +kernel)
theorem wm_356 : (.code yX3_tell cX3_tell 6 (some .boolean) : Cond) ∈ wsG := wG_of 422 (by decide +kernel) (by decide +kernel)
theorem wm_357 : (.methodLink RX0 69 yX3_tell : Cond) ∈ wsG := wG_of 419 (by decide +kernel) (by decide +kernel)
theorem wm_358 : (.instanceMethod yX3_tell : Cond) ∈ wsG := wG_of 420 (by decide +kernel) (by decide +kernel)
theorem wm_359 : (.selects RX3 yX3_tell yX3_tell : Cond) ∈ wsG := wG_of 421 (by decide +kernel) (by decide +kernel)
theorem wm_360 : (.fieldLink RX0 80 "RangeDesk$Num" "value" "J" : Cond) ∈ wsG := wG_of 97 (by decide +kernel) (by decide +kernel)
theorem wm_361 : (.fieldLink RX0 84 "RangeDesk$Num" "mask" "J" : Cond) ∈ wsG := wG_of 101 (by decide +kernel) (by decide +kernel)
theorem wm_362 : (.fieldLink RX0 87 "RangeDesk$Num" "least" "J" : Cond) ∈ wsG := wG_of 106 (by decide +kernel) (by decide +kernel)
theorem wm_363 : (.fieldLink RX0 90 "RangeDesk$Num" "greatest" "J" : Cond) ∈ wsG := wG_of 110 (by decide +kernel) (by decide +kernel)
theorem wm_364 : (.fieldLink RX0 93 "RangeDesk$Num" "signedLeast" "J" : Cond) ∈ wsG := wG_of 114 (by decide +kernel) (by decide +kernel)
theorem wm_365 : (.fieldLink RX0 96 "RangeDesk$Num" "signedGreatest" "J" : Cond) ∈ wsG := wG_of 118 (by decide +kernel) (by decide +kernel)
theorem wm_366 : (.code yX1_standsFor cX1_standsFor 3 (some .boolean) : Cond) ∈ wsG := wG_of 589 (by decide +kernel) (by decide +kernel)
theorem wm_367 : (.methodLink RX0 101 yX1_standsFor : Cond) ∈ wsG := wG_of 586 (by decide +kernel) (by decide +kernel)
theorem wm_368 : (.instanceMethod yX1_standsFor : Cond) ∈ wsG := wG_of 587 (by decide +kernel) (by decide +kernel)
theorem wm_369 : (.selects RX1 yX1_standsFor yX1_standsFor : Cond) ∈ wsG := wG_of 588 (by decide +kernel) (by decide +kernel)
theorem wm_370 : (.code yX1_isKnownOf cX1_isKnownOf 2 (some .boolean) : Cond) ∈ wsG := wG_of 600 (by decide +kernel) (by decide +kernel)
theorem wm_371 : (.methodLink RX0 105 yX1_isKnownOf : Cond) ∈ wsG := wG_of 597 (by decide +kernel) (by decide +kernel)
theorem wm_372 : (.instanceMethod yX1_isKnownOf : Cond) ∈ wsG := wG_of 598 (by decide +kernel) (by decide +kernel)
theorem wm_373 : (.selects RX1 yX1_isKnownOf yX1_isKnownOf : Cond) ∈ wsG := wG_of 599 (by decide +kernel) (by decide +kernel)
theorem dX0_exact_0 : decode cX0_exact 0 = .ok (.iload_n 1, 1) := by decide +kernel
theorem dX0_exact_1 : decode cX0_exact 1 = .ok (.invokestatic 30, 3) := by decide +kernel
theorem dX0_exact_4 : decode cX0_exact 4 = .ok (.ifCond .ne 5, 3) := by decide +kernel
theorem dX0_exact_7 : decode cX0_exact 7 = .ok (.iconst 0, 1) := by decide +kernel
theorem dX0_exact_8 : decode cX0_exact 8 = .ok (.ireturn, 1) := by decide +kernel
theorem dX0_exact_9 : decode cX0_exact 9 = .ok (.aload_n 0, 1) := by decide +kernel
theorem dX0_exact_10 : decode cX0_exact 10 = .ok (.getfield 11, 3) := by decide +kernel
theorem dX0_exact_13 : decode cX0_exact 13 = .ok (.iload_n 1, 1) := by decide +kernel
theorem dX0_exact_14 : decode cX0_exact 14 = .ok (.aaload, 1) := by decide +kernel
theorem dX0_exact_15 : decode cX0_exact 15 = .ok (.lload_n 2, 1) := by decide +kernel
theorem dX0_exact_16 : decode cX0_exact 16 = .ok (.invokevirtual 34, 3) := by decide +kernel
theorem dX0_exact_19 : decode cX0_exact 19 = .ok (.iconst 1, 1) := by decide +kernel
theorem dX0_exact_20 : decode cX0_exact 20 = .ok (.ireturn, 1) := by decide +kernel
theorem dX0_any_0 : decode cX0_any 0 = .ok (.iload_n 1, 1) := by decide +kernel
theorem dX0_any_1 : decode cX0_any 1 = .ok (.invokestatic 30, 3) := by decide +kernel
theorem dX0_any_4 : decode cX0_any 4 = .ok (.ifCond .ne 5, 3) := by decide +kernel
theorem dX0_any_7 : decode cX0_any 7 = .ok (.iconst 0, 1) := by decide +kernel
theorem dX0_any_8 : decode cX0_any 8 = .ok (.ireturn, 1) := by decide +kernel
theorem dX0_any_9 : decode cX0_any 9 = .ok (.aload_n 0, 1) := by decide +kernel
theorem dX0_any_10 : decode cX0_any 10 = .ok (.getfield 11, 3) := by decide +kernel
theorem dX0_any_13 : decode cX0_any 13 = .ok (.iload_n 1, 1) := by decide +kernel
theorem dX0_any_14 : decode cX0_any 14 = .ok (.aaload, 1) := by decide +kernel
theorem dX0_any_15 : decode cX0_any 15 = .ok (.invokevirtual 38, 3) := by decide +kernel
theorem dX0_any_18 : decode cX0_any 18 = .ok (.iconst 1, 1) := by decide +kernel
theorem dX0_any_19 : decode cX0_any 19 = .ok (.ireturn, 1) := by decide +kernel
theorem dX0_bits_0 : decode cX0_bits 0 = .ok (.iload_n 1, 1) := by decide +kernel
theorem dX0_bits_1 : decode cX0_bits 1 = .ok (.invokestatic 30, 3) := by decide +kernel
theorem dX0_bits_4 : decode cX0_bits 4 = .ok (.ifCond .ne 5, 3) := by decide +kernel
theorem dX0_bits_7 : decode cX0_bits 7 = .ok (.iconst 0, 1) := by decide +kernel
theorem dX0_bits_8 : decode cX0_bits 8 = .ok (.ireturn, 1) := by decide +kernel
theorem dX0_bits_9 : decode cX0_bits 9 = .ok (.aload_n 0, 1) := by decide +kernel
theorem dX0_bits_10 : decode cX0_bits 10 = .ok (.getfield 11, 3) := by decide +kernel
theorem dX0_bits_13 : decode cX0_bits 13 = .ok (.iload_n 1, 1) := by decide +kernel
theorem dX0_bits_14 : decode cX0_bits 14 = .ok (.aaload, 1) := by decide +kernel
theorem dX0_bits_15 : decode cX0_bits 15 = .ok (.astore 6, 2) := by decide +kernel
theorem dX0_bits_17 : decode cX0_bits 17 = .ok (.aload 6, 2) := by decide +kernel
theorem dX0_bits_19 : decode cX0_bits 19 = .ok (.invokevirtual 38, 3) := by decide +kernel
theorem dX0_bits_22 : decode cX0_bits 22 = .ok (.aload 6, 2) := by decide +kernel
theorem dX0_bits_24 : decode cX0_bits 24 = .ok (.lload_n 2, 1) := by decide +kernel
theorem dX0_bits_25 : decode cX0_bits 25 = .ok (.lload 4, 2) := by decide +kernel
theorem dX0_bits_27 : decode cX0_bits 27 = .ok (.ldc2_w 41, 3) := by decide +kernel
theorem dX0_bits_30 : decode cX0_bits 30 = .ok (.lxor, 1) := by decide +kernel
theorem dX0_bits_31 : decode cX0_bits 31 = .ok (.land, 1) := by decide +kernel
theorem dX0_bits_32 : decode cX0_bits 32 = .ok (.lload 4, 2) := by decide +kernel
theorem dX0_bits_34 : decode cX0_bits 34 = .ok (.invokevirtual 43, 3) := by decide +kernel
theorem dX0_bits_37 : decode cX0_bits 37 = .ok (.aload 6, 2) := by decide +kernel
theorem dX0_bits_39 : decode cX0_bits 39 = .ok (.invokevirtual 47, 3) := by decide +kernel
theorem dX0_bits_42 : decode cX0_bits 42 = .ok (.pop, 1) := by decide +kernel
theorem dX0_bits_43 : decode cX0_bits 43 = .ok (.iconst 1, 1) := by decide +kernel
theorem dX0_bits_44 : decode cX0_bits 44 = .ok (.ireturn, 1) := by decide +kernel
theorem dX0_bounds_0 : decode cX0_bounds 0 = .ok (.iload_n 1, 1) := by decide +kernel
theorem dX0_bounds_1 : decode cX0_bounds 1 = .ok (.invokestatic 30, 3) := by decide +kernel
theorem dX0_bounds_4 : decode cX0_bounds 4 = .ok (.ifCond .ne 5, 3) := by decide +kernel
theorem dX0_bounds_7 : decode cX0_bounds 7 = .ok (.iconst 0, 1) := by decide +kernel
theorem dX0_bounds_8 : decode cX0_bounds 8 = .ok (.ireturn, 1) := by decide +kernel
theorem dX0_bounds_9 : decode cX0_bounds 9 = .ok (.iload 6, 2) := by decide +kernel
theorem dX0_bounds_11 : decode cX0_bounds 11 = .ok (.ifCond .eq 13, 3) := by decide +kernel
theorem dX0_bounds_14 : decode cX0_bounds 14 = .ok (.lload_n 2, 1) := by decide +kernel
theorem dX0_bounds_15 : decode cX0_bounds 15 = .ok (.lload 4, 2) := by decide +kernel
theorem dX0_bounds_17 : decode cX0_bounds 17 = .ok (.lcmp, 1) := by decide +kernel
theorem dX0_bounds_18 : decode cX0_bounds 18 = .ok (.ifCond .le 17, 3) := by decide +kernel
theorem dX0_bounds_21 : decode cX0_bounds 21 = .ok (.goto 12, 3) := by decide +kernel
theorem dX0_bounds_24 : decode cX0_bounds 24 = .ok (.lload_n 2, 1) := by decide +kernel
theorem dX0_bounds_25 : decode cX0_bounds 25 = .ok (.lload 4, 2) := by decide +kernel
theorem dX0_bounds_27 : decode cX0_bounds 27 = .ok (.invokestatic 51, 3) := by decide +kernel
theorem dX0_bounds_30 : decode cX0_bounds 30 = .ok (.ifCond .eq 5, 3) := by decide +kernel
theorem dX0_bounds_33 : decode cX0_bounds 33 = .ok (.iconst 0, 1) := by decide +kernel
theorem dX0_bounds_34 : decode cX0_bounds 34 = .ok (.ireturn, 1) := by decide +kernel
theorem dX0_bounds_35 : decode cX0_bounds 35 = .ok (.aload_n 0, 1) := by decide +kernel
theorem dX0_bounds_36 : decode cX0_bounds 36 = .ok (.getfield 11, 3) := by decide +kernel
theorem dX0_bounds_39 : decode cX0_bounds 39 = .ok (.iload_n 1, 1) := by decide +kernel
theorem dX0_bounds_40 : decode cX0_bounds 40 = .ok (.aaload, 1) := by decide +kernel
theorem dX0_bounds_41 : decode cX0_bounds 41 = .ok (.astore 7, 2) := by decide +kernel
theorem dX0_bounds_43 : decode cX0_bounds 43 = .ok (.aload 7, 2) := by decide +kernel
theorem dX0_bounds_45 : decode cX0_bounds 45 = .ok (.invokevirtual 38, 3) := by decide +kernel
theorem dX0_bounds_48 : decode cX0_bounds 48 = .ok (.iload 6, 2) := by decide +kernel
theorem dX0_bounds_50 : decode cX0_bounds 50 = .ok (.ifCond .eq 14, 3) := by decide +kernel
theorem dX0_bounds_53 : decode cX0_bounds 53 = .ok (.aload 7, 2) := by decide +kernel
theorem dX0_bounds_55 : decode cX0_bounds 55 = .ok (.lload_n 2, 1) := by decide +kernel
theorem dX0_bounds_56 : decode cX0_bounds 56 = .ok (.lload 4, 2) := by decide +kernel
theorem dX0_bounds_58 : decode cX0_bounds 58 = .ok (.invokevirtual 55, 3) := by decide +kernel
theorem dX0_bounds_61 : decode cX0_bounds 61 = .ok (.goto 11, 3) := by decide +kernel
theorem dX0_bounds_64 : decode cX0_bounds 64 = .ok (.aload 7, 2) := by decide +kernel
theorem dX0_bounds_66 : decode cX0_bounds 66 = .ok (.lload_n 2, 1) := by decide +kernel
theorem dX0_bounds_67 : decode cX0_bounds 67 = .ok (.lload 4, 2) := by decide +kernel
theorem dX0_bounds_69 : decode cX0_bounds 69 = .ok (.invokevirtual 58, 3) := by decide +kernel
theorem dX0_bounds_72 : decode cX0_bounds 72 = .ok (.aload 7, 2) := by decide +kernel
theorem dX0_bounds_74 : decode cX0_bounds 74 = .ok (.invokevirtual 47, 3) := by decide +kernel
theorem dX0_bounds_77 : decode cX0_bounds 77 = .ok (.pop, 1) := by decide +kernel
theorem dX0_bounds_78 : decode cX0_bounds 78 = .ok (.iconst 1, 1) := by decide +kernel
theorem dX0_bounds_79 : decode cX0_bounds 79 = .ok (.ireturn, 1) := by decide +kernel
theorem dX0_operate_0 : decode cX0_operate 0 = .ok (.iload_n 1, 1) := by decide +kernel
theorem dX0_operate_1 : decode cX0_operate 1 = .ok (.invokestatic 30, 3) := by decide +kernel
theorem dX0_operate_4 : decode cX0_operate 4 = .ok (.ifCond .eq 18, 3) := by decide +kernel
theorem dX0_operate_7 : decode cX0_operate 7 = .ok (.iload_n 3, 1) := by decide +kernel
theorem dX0_operate_8 : decode cX0_operate 8 = .ok (.invokestatic 30, 3) := by decide +kernel
theorem dX0_operate_11 : decode cX0_operate 11 = .ok (.ifCond .eq 11, 3) := by decide +kernel
theorem dX0_operate_14 : decode cX0_operate 14 = .ok (.iload 4, 2) := by decide +kernel
theorem dX0_operate_16 : decode cX0_operate 16 = .ok (.invokestatic 30, 3) := by decide +kernel
theorem dX0_operate_19 : decode cX0_operate 19 = .ok (.ifCond .ne 5, 3) := by decide +kernel
theorem dX0_operate_22 : decode cX0_operate 22 = .ok (.iconst 0, 1) := by decide +kernel
theorem dX0_operate_23 : decode cX0_operate 23 = .ok (.ireturn, 1) := by decide +kernel
theorem dX0_operate_24 : decode cX0_operate 24 = .ok (.iload_n 2, 1) := by decide +kernel
theorem dX0_operate_25 : decode cX0_operate 25 = .ok (.ifCond .lt 9, 3) := by decide +kernel
theorem dX0_operate_28 : decode cX0_operate 28 = .ok (.iload_n 2, 1) := by decide +kernel
theorem dX0_operate_29 : decode cX0_operate 29 = .ok (.bipush 14, 2) := by decide +kernel
theorem dX0_operate_31 : decode cX0_operate 31 = .ok (.if_icmp .le 5, 3) := by decide +kernel
theorem dX0_operate_34 : decode cX0_operate 34 = .ok (.iconst 0, 1) := by decide +kernel
theorem dX0_operate_35 : decode cX0_operate 35 = .ok (.ireturn, 1) := by decide +kernel
theorem dX0_operate_36 : decode cX0_operate 36 = .ok (.aload_n 0, 1) := by decide +kernel
theorem dX0_operate_37 : decode cX0_operate 37 = .ok (.getfield 11, 3) := by decide +kernel
theorem dX0_operate_40 : decode cX0_operate 40 = .ok (.iload_n 1, 1) := by decide +kernel
theorem dX0_operate_41 : decode cX0_operate 41 = .ok (.aaload, 1) := by decide +kernel
theorem dX0_operate_42 : decode cX0_operate 42 = .ok (.aload_n 0, 1) := by decide +kernel
theorem dX0_operate_43 : decode cX0_operate 43 = .ok (.getfield 18, 3) := by decide +kernel
theorem dX0_operate_46 : decode cX0_operate 46 = .ok (.iload_n 2, 1) := by decide +kernel
theorem dX0_operate_47 : decode cX0_operate 47 = .ok (.aload_n 0, 1) := by decide +kernel
theorem dX0_operate_48 : decode cX0_operate 48 = .ok (.getfield 11, 3) := by decide +kernel
theorem dX0_operate_51 : decode cX0_operate 51 = .ok (.iload_n 3, 1) := by decide +kernel
theorem dX0_operate_52 : decode cX0_operate 52 = .ok (.aaload, 1) := by decide +kernel
theorem dX0_operate_53 : decode cX0_operate 53 = .ok (.aload_n 0, 1) := by decide +kernel
theorem dX0_operate_54 : decode cX0_operate 54 = .ok (.getfield 11, 3) := by decide +kernel
theorem dX0_operate_57 : decode cX0_operate 57 = .ok (.iload 4, 2) := by decide +kernel
theorem dX0_operate_59 : decode cX0_operate 59 = .ok (.aaload, 1) := by decide +kernel
theorem dX0_operate_60 : decode cX0_operate 60 = .ok (.iload 5, 2) := by decide +kernel
theorem dX0_operate_62 : decode cX0_operate 62 = .ok (.invokevirtual 61, 3) := by decide +kernel
theorem dX0_operate_65 : decode cX0_operate 65 = .ok (.invokevirtual 65, 3) := by decide +kernel
theorem dX0_operate_68 : decode cX0_operate 68 = .ok (.iconst 1, 1) := by decide +kernel
theorem dX0_operate_69 : decode cX0_operate 69 = .ok (.ireturn, 1) := by decide +kernel
theorem dX0_holds_0 : decode cX0_holds 0 = .ok (.iload_n 2, 1) := by decide +kernel
theorem dX0_holds_1 : decode cX0_holds 1 = .ok (.invokestatic 30, 3) := by decide +kernel
theorem dX0_holds_4 : decode cX0_holds 4 = .ok (.ifCond .eq 15, 3) := by decide +kernel
theorem dX0_holds_7 : decode cX0_holds 7 = .ok (.iload_n 3, 1) := by decide +kernel
theorem dX0_holds_8 : decode cX0_holds 8 = .ok (.invokestatic 30, 3) := by decide +kernel
theorem dX0_holds_11 : decode cX0_holds 11 = .ok (.ifCond .eq 8, 3) := by decide +kernel
theorem dX0_holds_14 : decode cX0_holds 14 = .ok (.iload_n 2, 1) := by decide +kernel
theorem dX0_holds_15 : decode cX0_holds 15 = .ok (.iload_n 3, 1) := by decide +kernel
theorem dX0_holds_16 : decode cX0_holds 16 = .ok (.if_icmp .ne 5, 3) := by decide +kernel
theorem dX0_holds_19 : decode cX0_holds 19 = .ok (.iconst 0, 1) := by decide +kernel
theorem dX0_holds_20 : decode cX0_holds 20 = .ok (.ireturn, 1) := by decide +kernel
theorem dX0_holds_21 : decode cX0_holds 21 = .ok (.iload_n 1, 1) := by decide +kernel
theorem dX0_holds_22 : decode cX0_holds 22 = .ok (.ifCond .lt 9, 3) := by decide +kernel
theorem dX0_holds_25 : decode cX0_holds 25 = .ok (.iload_n 1, 1) := by decide +kernel
theorem dX0_holds_26 : decode cX0_holds 26 = .ok (.bipush 11, 2) := by decide +kernel
theorem dX0_holds_28 : decode cX0_holds 28 = .ok (.if_icmp .le 5, 3) := by decide +kernel
theorem dX0_holds_31 : decode cX0_holds 31 = .ok (.iconst 0, 1) := by decide +kernel
theorem dX0_holds_32 : decode cX0_holds 32 = .ok (.ireturn, 1) := by decide +kernel
theorem dX0_holds_33 : decode cX0_holds 33 = .ok (.aload_n 0, 1) := by decide +kernel
theorem dX0_holds_34 : decode cX0_holds 34 = .ok (.getfield 25, 3) := by decide +kernel
theorem dX0_holds_37 : decode cX0_holds 37 = .ok (.iload_n 1, 1) := by decide +kernel
theorem dX0_holds_38 : decode cX0_holds 38 = .ok (.aload_n 0, 1) := by decide +kernel
theorem dX0_holds_39 : decode cX0_holds 39 = .ok (.getfield 11, 3) := by decide +kernel
theorem dX0_holds_42 : decode cX0_holds 42 = .ok (.iload_n 2, 1) := by decide +kernel
theorem dX0_holds_43 : decode cX0_holds 43 = .ok (.aaload, 1) := by decide +kernel
theorem dX0_holds_44 : decode cX0_holds 44 = .ok (.aload_n 0, 1) := by decide +kernel
theorem dX0_holds_45 : decode cX0_holds 45 = .ok (.getfield 11, 3) := by decide +kernel
theorem dX0_holds_48 : decode cX0_holds 48 = .ok (.iload_n 3, 1) := by decide +kernel
theorem dX0_holds_49 : decode cX0_holds 49 = .ok (.aaload, 1) := by decide +kernel
theorem dX0_holds_50 : decode cX0_holds 50 = .ok (.iload 4, 2) := by decide +kernel
theorem dX0_holds_52 : decode cX0_holds 52 = .ok (.invokevirtual 69, 3) := by decide +kernel
theorem dX0_holds_55 : decode cX0_holds 55 = .ok (.ireturn, 1) := by decide +kernel
theorem dX0_look_0 : decode cX0_look 0 = .ok (.iload_n 1, 1) := by decide +kernel
theorem dX0_look_1 : decode cX0_look 1 = .ok (.invokestatic 30, 3) := by decide +kernel
theorem dX0_look_4 : decode cX0_look 4 = .ok (.ifCond .ne 13, 3) := by decide +kernel
theorem dX0_look_17 : decode cX0_look 17 = .ok (.aload_n 0, 1) := by decide +kernel
theorem dX0_look_18 : decode cX0_look 18 = .ok (.getfield 11, 3) := by decide +kernel
theorem dX0_look_21 : decode cX0_look 21 = .ok (.iload_n 1, 1) := by decide +kernel
theorem dX0_look_22 : decode cX0_look 22 = .ok (.aaload, 1) := by decide +kernel
theorem dX0_look_23 : decode cX0_look 23 = .ok (.astore_n 3, 1) := by decide +kernel
theorem dX0_look_24 : decode cX0_look 24 = .ok (.iload_n 2, 1) := by decide +kernel
theorem dX0_look_25 : decode cX0_look 25 = .ok (.tableswitch 69 0 5 #[39, 44, 49, 54, 59, 64], 39) := by decide +kernel
theorem dX0_look_64 : decode cX0_look 64 = .ok (.aload_n 3, 1) := by decide +kernel
theorem dX0_look_65 : decode cX0_look 65 = .ok (.getfield 80, 3) := by decide +kernel
theorem dX0_look_68 : decode cX0_look 68 = .ok (.lreturn, 1) := by decide +kernel
theorem dX0_look_69 : decode cX0_look 69 = .ok (.aload_n 3, 1) := by decide +kernel
theorem dX0_look_70 : decode cX0_look 70 = .ok (.getfield 84, 3) := by decide +kernel
theorem dX0_look_73 : decode cX0_look 73 = .ok (.lreturn, 1) := by decide +kernel
theorem dX0_look_74 : decode cX0_look 74 = .ok (.aload_n 3, 1) := by decide +kernel
theorem dX0_look_75 : decode cX0_look 75 = .ok (.getfield 87, 3) := by decide +kernel
theorem dX0_look_78 : decode cX0_look 78 = .ok (.lreturn, 1) := by decide +kernel
theorem dX0_look_79 : decode cX0_look 79 = .ok (.aload_n 3, 1) := by decide +kernel
theorem dX0_look_80 : decode cX0_look 80 = .ok (.getfield 90, 3) := by decide +kernel
theorem dX0_look_83 : decode cX0_look 83 = .ok (.lreturn, 1) := by decide +kernel
theorem dX0_look_84 : decode cX0_look 84 = .ok (.aload_n 3, 1) := by decide +kernel
theorem dX0_look_85 : decode cX0_look 85 = .ok (.getfield 93, 3) := by decide +kernel
theorem dX0_look_88 : decode cX0_look 88 = .ok (.lreturn, 1) := by decide +kernel
theorem dX0_look_89 : decode cX0_look 89 = .ok (.aload_n 3, 1) := by decide +kernel
theorem dX0_look_90 : decode cX0_look 90 = .ok (.getfield 96, 3) := by decide +kernel
theorem dX0_look_93 : decode cX0_look 93 = .ok (.lreturn, 1) := by decide +kernel
theorem dX0_look_94 : decode cX0_look 94 = .ok (.new 73, 3) := by decide +kernel
theorem dX0_has_0 : decode cX0_has 0 = .ok (.iload_n 1, 1) := by decide +kernel
theorem dX0_has_1 : decode cX0_has 1 = .ok (.invokestatic 30, 3) := by decide +kernel
theorem dX0_has_4 : decode cX0_has 4 = .ok (.ifCond .ne 13, 3) := by decide +kernel
theorem dX0_has_17 : decode cX0_has 17 = .ok (.aload_n 0, 1) := by decide +kernel
theorem dX0_has_18 : decode cX0_has 18 = .ok (.getfield 11, 3) := by decide +kernel
theorem dX0_has_21 : decode cX0_has 21 = .ok (.iload_n 1, 1) := by decide +kernel
theorem dX0_has_22 : decode cX0_has 22 = .ok (.aaload, 1) := by decide +kernel
theorem dX0_has_23 : decode cX0_has 23 = .ok (.lload_n 2, 1) := by decide +kernel
theorem dX0_has_24 : decode cX0_has 24 = .ok (.invokevirtual 101, 3) := by decide +kernel
theorem dX0_has_27 : decode cX0_has 27 = .ok (.ireturn, 1) := by decide +kernel
theorem dX0_covers_0 : decode cX0_covers 0 = .ok (.iload_n 1, 1) := by decide +kernel
theorem dX0_covers_1 : decode cX0_covers 1 = .ok (.invokestatic 30, 3) := by decide +kernel
theorem dX0_covers_4 : decode cX0_covers 4 = .ok (.ifCond .eq 10, 3) := by decide +kernel
theorem dX0_covers_7 : decode cX0_covers 7 = .ok (.iload_n 2, 1) := by decide +kernel
theorem dX0_covers_8 : decode cX0_covers 8 = .ok (.invokestatic 30, 3) := by decide +kernel
theorem dX0_covers_11 : decode cX0_covers 11 = .ok (.ifCond .ne 13, 3) := by decide +kernel
theorem dX0_covers_24 : decode cX0_covers 24 = .ok (.aload_n 0, 1) := by decide +kernel
theorem dX0_covers_25 : decode cX0_covers 25 = .ok (.getfield 11, 3) := by decide +kernel
theorem dX0_covers_28 : decode cX0_covers 28 = .ok (.iload_n 1, 1) := by decide +kernel
theorem dX0_covers_29 : decode cX0_covers 29 = .ok (.aaload, 1) := by decide +kernel
theorem dX0_covers_30 : decode cX0_covers 30 = .ok (.aload_n 0, 1) := by decide +kernel
theorem dX0_covers_31 : decode cX0_covers 31 = .ok (.getfield 11, 3) := by decide +kernel
theorem dX0_covers_34 : decode cX0_covers 34 = .ok (.iload_n 2, 1) := by decide +kernel
theorem dX0_covers_35 : decode cX0_covers 35 = .ok (.aaload, 1) := by decide +kernel
theorem dX0_covers_36 : decode cX0_covers 36 = .ok (.invokevirtual 105, 3) := by decide +kernel
theorem dX0_covers_39 : decode cX0_covers 39 = .ok (.ireturn, 1) := by decide +kernel
def f_X0_exact (sg : Nat → Nm) (x1 : Nm) (x2 : Nm) (x3 : Nm) (x4 : Nm) (x5 : Nm) (p1 : Int32) (p2 : Int64) : (Nat → Nm) × Int32 :=
  if (f_X0_isNumber p1) = 0 then (sg, 0)
  else ((va_up sg p1.toNatClampNeg (f_X1_becomeExact (sg p1.toNatClampNeg) p2)), 1)
set_option maxHeartbeats 4000000 in
set_option maxRecDepth 100000 in
theorem c_X0_exact (l : Launch) (D : va_G) (h0 : Nat) (ha : Nat) (hc : Nat) (h1 : Nat) (h2 : Nat) (h3 : Nat) (hk : Nat) (h4 : Nat) (h5 : Nat) (cA : ClassId) (ad : Nat → Nat) (sg : Nat → Nm) (x1 : Nm) (x2 : Nm) (x3 : Nm) (x4 : Nm) (x5 : Nm) (p1 : Int32) (p2 : Int64) : sp_M l yX0_exact wsX0_exact ({ frames := 2, cells := 0, slots := 0, locals := 46 }) D [.ref h0, .int p1, .long p2] ([(h0, .inr (0, [.ref ha, .ref hc, .ref hk])), (ha, .inl (cA, 16, .inr (.inr (.inr (.inr (fun k => some (ad k))))))), (hc, .inr (2, [.ref h1, .ref h2, .ref h3])), (h1, .inr (1, nm_fs x1)), (h2, .inr (1, nm_fs x2)), (h3, .inr (1, nm_fs x3)), (hk, .inr (3, [.ref h4, .ref h5])), (h4, .inr (1, nm_fs x4)), (h5, .inr (1, nm_fs x5))] ++ np_pool 1 ad sg) [(cA, .object RX1)] (sp_Qz D ([(h0, .inr (0, [.ref ha, .ref hc, .ref hk])), (ha, .inl (cA, 16, .inr (.inr (.inr (.inr (fun k => some (ad k))))))), (hc, .inr (2, [.ref h1, .ref h2, .ref h3])), (h1, .inr (1, nm_fs x1)), (h2, .inr (1, nm_fs x2)), (h3, .inr (1, nm_fs x3)), (hk, .inr (3, [.ref h4, .ref h5])), (h4, .inr (1, nm_fs x4)), (h5, .inr (1, nm_fs x5))] ++ np_pool 1 ad sg) ([(h0, .inr (0, [.ref ha, .ref hc, .ref hk])), (ha, .inl (cA, 16, .inr (.inr (.inr (.inr (fun k => some (ad k))))))), (hc, .inr (2, [.ref h1, .ref h2, .ref h3])), (h1, .inr (1, nm_fs x1)), (h2, .inr (1, nm_fs x2)), (h3, .inr (1, nm_fs x3)), (hk, .inr (3, [.ref h4, .ref h5])), (h4, .inr (1, nm_fs x4)), (h5, .inr (1, nm_fs x5))] ++ np_pool 1 ad ((f_X0_exact sg x1 x2 x3 x4 x5 p1 p2).1)) [(cA, .object RX1)] ((f_X0_exact sg x1 x2 x3 x4 x5 p1 p2).2)) := by
  refine sp_ofW (cc := cX0_exact) (nL := 4) (ret := (some .boolean)) (own := RX0) (by decide) rfl rfl (Nat.le_of_ble_eq_true rfl) ?_
  intro p e s m below meth c A ls hAe hnm C hA hP hK hD hS hl
  have hx := C.1
  have hb := C.2.1
  have hown := C.2.2.2.2.1
  have hts := C.2.2.2.2.2.1
  have hl : lv_has ls 4 [(0, .ref h0), (1, .int p1), (2, .long p2)] := hl
  have hi0 : ∀ w ∈ u_ws RX0 TX0 3, w ∈ wsX0_exact := fun w h => List.mem_cons_of_mem _ (inX0 w h)
  have hk0 := hts _ (List.mem_cons_of_mem _ wm_119)
  refine lv_iload_n hx hb dX0_exact_0 rfl (lv_at hl 1 rfl) ?_
  refine sp_callz (sp_runS (As := [.int p1]) (rest := []) C (c_X0_isNumber l D p1) (va_cwS 1 hts (gS wG_c wm_342 wm_343 wm_4 wm_341) rfl rfl rfl (by decide +kernel) ⟨Nat.le_of_ble_eq_true rfl, Nat.le_of_ble_eq_true rfl⟩) hK hP hD [] (by decide) rfl [] rfl rfl hl.1 rfl (Nat.le_of_ble_eq_true rfl) dX0_exact_1 ⟨Nat.le_of_ble_eq_true rfl, Nat.le_of_ble_eq_true rfl⟩) hP hD hS hA [] rfl sp_f0 (fun H locs z1 hP hD hS => ?_)
  have hP : va_P D vwCl ([(h0, .inr (0, [.ref ha, .ref hc, .ref hk])), (ha, .inl (cA, 16, .inr (.inr (.inr (.inr (fun k => some (ad k))))))), (hc, .inr (2, [.ref h1, .ref h2, .ref h3])), (h1, .inr (1, nm_fs x1)), (h2, .inr (1, nm_fs x2)), (h3, .inr (1, nm_fs x3)), (hk, .inr (3, [.ref h4, .ref h5])), (h4, .inr (1, nm_fs x4)), (h5, .inr (1, nm_fs x5))] ++ np_pool 1 ad sg) H := hP
  have hD : va_D A ([(h0, .inr (0, [.ref ha, .ref hc, .ref hk])), (ha, .inl (cA, 16, .inr (.inr (.inr (.inr (fun k => some (ad k))))))), (hc, .inr (2, [.ref h1, .ref h2, .ref h3])), (h1, .inr (1, nm_fs x1)), (h2, .inr (1, nm_fs x2)), (h3, .inr (1, nm_fs x3)), (hk, .inr (3, [.ref h4, .ref h5])), (h4, .inr (1, nm_fs x4)), (h5, .inr (1, nm_fs x5))] ++ np_pool 1 ad sg) := hD
  refine lv_if_ne (tgt := 9) hx hb dX0_exact_4 (by decide) (fun c2 => ?_) (fun c2 => ?_)
  · refine lv_aload_n hx hb dX0_exact_9 rfl (lv_at hl 0 rfl) ?_
    refine va_get (D := D) (ci := 0) (v := .ref ha) (C := RX0) (T := TX0) (N := 3) hx hb hts hi0 hown hK hP 0 rfl rfl 0 (by decide) hk0 (fun _ h9 => h9) rfl dX0_exact_10 ?_
    refine lv_iload_n hx hb dX0_exact_13 rfl (lv_at hl 1 rfl) ?_
    refine va_aldq (C := RX1) hx hb hK hP 1 0 rfl rfl (nb_in c2) dX0_exact_14 ?_
    refine W.eq (g2 := F0 m 15 ls [.ref (ad p1.toNatClampNeg)]) rfl ?_
    refine lv_lload_n hx hb dX0_exact_15 rfl (lv_at hl 2 rfl) ?_
    refine sp_callv (sp_runV (As := [.long p2]) (rest := []) C (c_X1_becomeExact l D (ad p1.toNatClampNeg) (sg p1.toNatClampNeg) p2) (cwV 1 hts (gV wG_c wm_344 wm_159 wm_160 wm_31 wm_157) rfl rfl rfl (by decide +kernel) ⟨Nat.le_of_ble_eq_true rfl, Nat.le_of_ble_eq_true rfl⟩) hK hP hD [9 + p1.toNatClampNeg] rfl (sp_cc (np_at rfl (nb_lt c2)) sp_c0) [] rfl 0 1 rfl rfl rfl rfl hl.1 rfl (Nat.le_of_ble_eq_true rfl) dX0_exact_16 ⟨Nat.le_of_ble_eq_true rfl, Nat.le_of_ble_eq_true rfl⟩) hP hD hS hA [9 + p1.toNatClampNeg] (sp_cc (np_at rfl (nb_lt c2)) sp_c0) (sp_fc sp_f0) (fun H locs hP hD hS => ?_)
    have hP : va_P D vwCl ((([(h0, .inr (0, [.ref ha, .ref hc, .ref hk])), (ha, .inl (cA, 16, .inr (.inr (.inr (.inr (fun k => some (ad k))))))), (hc, .inr (2, [.ref h1, .ref h2, .ref h3])), (h1, .inr (1, nm_fs x1)), (h2, .inr (1, nm_fs x2)), (h3, .inr (1, nm_fs x3)), (hk, .inr (3, [.ref h4, .ref h5])), (h4, .inr (1, nm_fs x4)), (h5, .inr (1, nm_fs x5))] ++ np_pool 1 ad sg) : va_W).set (9 + p1.toNatClampNeg) ((ad p1.toNatClampNeg), .inr (1, nm_fs (f_X1_becomeExact (sg p1.toNatClampNeg) p2)))) H := hP
    have hD : va_D A ((([(h0, .inr (0, [.ref ha, .ref hc, .ref hk])), (ha, .inl (cA, 16, .inr (.inr (.inr (.inr (fun k => some (ad k))))))), (hc, .inr (2, [.ref h1, .ref h2, .ref h3])), (h1, .inr (1, nm_fs x1)), (h2, .inr (1, nm_fs x2)), (h3, .inr (1, nm_fs x3)), (hk, .inr (3, [.ref h4, .ref h5])), (h4, .inr (1, nm_fs x4)), (h5, .inr (1, nm_fs x5))] ++ np_pool 1 ad sg) : va_W).set (9 + p1.toNatClampNeg) ((ad p1.toNatClampNeg), .inr (1, nm_fs (f_X1_becomeExact (sg p1.toNatClampNeg) p2)))) := hD
    rw [np_set9 (nb_lt c2)] at hP hD
    have hP : va_P D vwCl ([(h0, .inr (0, [.ref ha, .ref hc, .ref hk])), (ha, .inl (cA, 16, .inr (.inr (.inr (.inr (fun k => some (ad k))))))), (hc, .inr (2, [.ref h1, .ref h2, .ref h3])), (h1, .inr (1, nm_fs x1)), (h2, .inr (1, nm_fs x2)), (h3, .inr (1, nm_fs x3)), (hk, .inr (3, [.ref h4, .ref h5])), (h4, .inr (1, nm_fs x4)), (h5, .inr (1, nm_fs x5))] ++ np_pool 1 ad (va_up sg p1.toNatClampNeg (f_X1_becomeExact (sg p1.toNatClampNeg) p2))) H := hP
    have hD : va_D A ([(h0, .inr (0, [.ref ha, .ref hc, .ref hk])), (ha, .inl (cA, 16, .inr (.inr (.inr (.inr (fun k => some (ad k))))))), (hc, .inr (2, [.ref h1, .ref h2, .ref h3])), (h1, .inr (1, nm_fs x1)), (h2, .inr (1, nm_fs x2)), (h3, .inr (1, nm_fs x3)), (hk, .inr (3, [.ref h4, .ref h5])), (h4, .inr (1, nm_fs x4)), (h5, .inr (1, nm_fs x5))] ++ np_pool 1 ad (va_up sg p1.toNatClampNeg (f_X1_becomeExact (sg p1.toNatClampNeg) p2))) := hD
    refine lv_iconst (v := 1) hx hb dX0_exact_19 (by decide) ?_
    have e9 : f_X0_exact sg x1 x2 x3 x4 x5 p1 p2 = ((va_up sg p1.toNatClampNeg (f_X1_becomeExact (sg p1.toNatClampNeg) p2)), 1) := (if_neg c2).trans (rfl)
    rw [e9]
    exact sp_zret C hAe hP hK hD hS (Or.inr rfl) dX0_exact_20
  · refine lv_iconst (v := 0) hx hb dX0_exact_7 (by decide) ?_
    have e9 : f_X0_exact sg x1 x2 x3 x4 x5 p1 p2 = (sg, 0) := (if_pos c2).trans (rfl)
    rw [e9]
    exact sp_zret C hAe hP hK hD hS (Or.inl rfl) dX0_exact_8
def f_X0_any (sg : Nat → Nm) (x1 : Nm) (x2 : Nm) (x3 : Nm) (x4 : Nm) (x5 : Nm) (p1 : Int32) : (Nat → Nm) × Int32 :=
  if (f_X0_isNumber p1) = 0 then (sg, 0)
  else ((va_up sg p1.toNatClampNeg (f_X1_becomeAny (sg p1.toNatClampNeg))), 1)
set_option maxHeartbeats 4000000 in
set_option maxRecDepth 100000 in
theorem c_X0_any (l : Launch) (D : va_G) (h0 : Nat) (ha : Nat) (hc : Nat) (h1 : Nat) (h2 : Nat) (h3 : Nat) (hk : Nat) (h4 : Nat) (h5 : Nat) (cA : ClassId) (ad : Nat → Nat) (sg : Nat → Nm) (x1 : Nm) (x2 : Nm) (x3 : Nm) (x4 : Nm) (x5 : Nm) (p1 : Int32) : sp_M l yX0_any wsX0_any ({ frames := 2, cells := 0, slots := 0, locals := 44 }) D [.ref h0, .int p1] ([(h0, .inr (0, [.ref ha, .ref hc, .ref hk])), (ha, .inl (cA, 16, .inr (.inr (.inr (.inr (fun k => some (ad k))))))), (hc, .inr (2, [.ref h1, .ref h2, .ref h3])), (h1, .inr (1, nm_fs x1)), (h2, .inr (1, nm_fs x2)), (h3, .inr (1, nm_fs x3)), (hk, .inr (3, [.ref h4, .ref h5])), (h4, .inr (1, nm_fs x4)), (h5, .inr (1, nm_fs x5))] ++ np_pool 1 ad sg) [(cA, .object RX1)] (sp_Qz D ([(h0, .inr (0, [.ref ha, .ref hc, .ref hk])), (ha, .inl (cA, 16, .inr (.inr (.inr (.inr (fun k => some (ad k))))))), (hc, .inr (2, [.ref h1, .ref h2, .ref h3])), (h1, .inr (1, nm_fs x1)), (h2, .inr (1, nm_fs x2)), (h3, .inr (1, nm_fs x3)), (hk, .inr (3, [.ref h4, .ref h5])), (h4, .inr (1, nm_fs x4)), (h5, .inr (1, nm_fs x5))] ++ np_pool 1 ad sg) ([(h0, .inr (0, [.ref ha, .ref hc, .ref hk])), (ha, .inl (cA, 16, .inr (.inr (.inr (.inr (fun k => some (ad k))))))), (hc, .inr (2, [.ref h1, .ref h2, .ref h3])), (h1, .inr (1, nm_fs x1)), (h2, .inr (1, nm_fs x2)), (h3, .inr (1, nm_fs x3)), (hk, .inr (3, [.ref h4, .ref h5])), (h4, .inr (1, nm_fs x4)), (h5, .inr (1, nm_fs x5))] ++ np_pool 1 ad ((f_X0_any sg x1 x2 x3 x4 x5 p1).1)) [(cA, .object RX1)] ((f_X0_any sg x1 x2 x3 x4 x5 p1).2)) := by
  refine sp_ofW (cc := cX0_any) (nL := 2) (ret := (some .boolean)) (own := RX0) (by decide) rfl rfl (Nat.le_of_ble_eq_true rfl) ?_
  intro p e s m below meth c A ls hAe hnm C hA hP hK hD hS hl
  have hx := C.1
  have hb := C.2.1
  have hown := C.2.2.2.2.1
  have hts := C.2.2.2.2.2.1
  have hl : lv_has ls 2 [(0, .ref h0), (1, .int p1)] := hl
  have hi0 : ∀ w ∈ u_ws RX0 TX0 3, w ∈ wsX0_any := fun w h => List.mem_cons_of_mem _ (inX0 w h)
  have hk0 := hts _ (List.mem_cons_of_mem _ wm_119)
  refine lv_iload_n hx hb dX0_any_0 rfl (lv_at hl 1 rfl) ?_
  refine sp_callz (sp_runS (As := [.int p1]) (rest := []) C (c_X0_isNumber l D p1) (va_cwS 1 hts (gS wG_c wm_342 wm_343 wm_4 wm_341) rfl rfl rfl (by decide +kernel) ⟨Nat.le_of_ble_eq_true rfl, Nat.le_of_ble_eq_true rfl⟩) hK hP hD [] (by decide) rfl [] rfl rfl hl.1 rfl (Nat.le_of_ble_eq_true rfl) dX0_any_1 ⟨Nat.le_of_ble_eq_true rfl, Nat.le_of_ble_eq_true rfl⟩) hP hD hS hA [] rfl sp_f0 (fun H locs z1 hP hD hS => ?_)
  have hP : va_P D vwCl ([(h0, .inr (0, [.ref ha, .ref hc, .ref hk])), (ha, .inl (cA, 16, .inr (.inr (.inr (.inr (fun k => some (ad k))))))), (hc, .inr (2, [.ref h1, .ref h2, .ref h3])), (h1, .inr (1, nm_fs x1)), (h2, .inr (1, nm_fs x2)), (h3, .inr (1, nm_fs x3)), (hk, .inr (3, [.ref h4, .ref h5])), (h4, .inr (1, nm_fs x4)), (h5, .inr (1, nm_fs x5))] ++ np_pool 1 ad sg) H := hP
  have hD : va_D A ([(h0, .inr (0, [.ref ha, .ref hc, .ref hk])), (ha, .inl (cA, 16, .inr (.inr (.inr (.inr (fun k => some (ad k))))))), (hc, .inr (2, [.ref h1, .ref h2, .ref h3])), (h1, .inr (1, nm_fs x1)), (h2, .inr (1, nm_fs x2)), (h3, .inr (1, nm_fs x3)), (hk, .inr (3, [.ref h4, .ref h5])), (h4, .inr (1, nm_fs x4)), (h5, .inr (1, nm_fs x5))] ++ np_pool 1 ad sg) := hD
  refine lv_if_ne (tgt := 9) hx hb dX0_any_4 (by decide) (fun c2 => ?_) (fun c2 => ?_)
  · refine lv_aload_n hx hb dX0_any_9 rfl (lv_at hl 0 rfl) ?_
    refine va_get (D := D) (ci := 0) (v := .ref ha) (C := RX0) (T := TX0) (N := 3) hx hb hts hi0 hown hK hP 0 rfl rfl 0 (by decide) hk0 (fun _ h9 => h9) rfl dX0_any_10 ?_
    refine lv_iload_n hx hb dX0_any_13 rfl (lv_at hl 1 rfl) ?_
    refine va_aldq (C := RX1) hx hb hK hP 1 0 rfl rfl (nb_in c2) dX0_any_14 ?_
    refine W.eq (g2 := F0 m 15 ls [.ref (ad p1.toNatClampNeg)]) rfl ?_
    refine sp_callv (sp_runV (As := []) (rest := []) C (c_X1_becomeAny l D (ad p1.toNatClampNeg) (sg p1.toNatClampNeg)) (cwV 0 hts (gV wG_c wm_345 wm_244 wm_245 wm_31 wm_242) rfl rfl rfl (by decide +kernel) ⟨Nat.le_of_ble_eq_true rfl, Nat.le_of_ble_eq_true rfl⟩) hK hP hD [9 + p1.toNatClampNeg] rfl (sp_cc (np_at rfl (nb_lt c2)) sp_c0) [] rfl 0 1 rfl rfl rfl rfl hl.1 rfl (Nat.le_of_ble_eq_true rfl) dX0_any_15 ⟨Nat.le_of_ble_eq_true rfl, Nat.le_of_ble_eq_true rfl⟩) hP hD hS hA [9 + p1.toNatClampNeg] (sp_cc (np_at rfl (nb_lt c2)) sp_c0) (sp_fc sp_f0) (fun H locs hP hD hS => ?_)
    have hP : va_P D vwCl ((([(h0, .inr (0, [.ref ha, .ref hc, .ref hk])), (ha, .inl (cA, 16, .inr (.inr (.inr (.inr (fun k => some (ad k))))))), (hc, .inr (2, [.ref h1, .ref h2, .ref h3])), (h1, .inr (1, nm_fs x1)), (h2, .inr (1, nm_fs x2)), (h3, .inr (1, nm_fs x3)), (hk, .inr (3, [.ref h4, .ref h5])), (h4, .inr (1, nm_fs x4)), (h5, .inr (1, nm_fs x5))] ++ np_pool 1 ad sg) : va_W).set (9 + p1.toNatClampNeg) ((ad p1.toNatClampNeg), .inr (1, nm_fs (f_X1_becomeAny (sg p1.toNatClampNeg))))) H := hP
    have hD : va_D A ((([(h0, .inr (0, [.ref ha, .ref hc, .ref hk])), (ha, .inl (cA, 16, .inr (.inr (.inr (.inr (fun k => some (ad k))))))), (hc, .inr (2, [.ref h1, .ref h2, .ref h3])), (h1, .inr (1, nm_fs x1)), (h2, .inr (1, nm_fs x2)), (h3, .inr (1, nm_fs x3)), (hk, .inr (3, [.ref h4, .ref h5])), (h4, .inr (1, nm_fs x4)), (h5, .inr (1, nm_fs x5))] ++ np_pool 1 ad sg) : va_W).set (9 + p1.toNatClampNeg) ((ad p1.toNatClampNeg), .inr (1, nm_fs (f_X1_becomeAny (sg p1.toNatClampNeg))))) := hD
    rw [np_set9 (nb_lt c2)] at hP hD
    have hP : va_P D vwCl ([(h0, .inr (0, [.ref ha, .ref hc, .ref hk])), (ha, .inl (cA, 16, .inr (.inr (.inr (.inr (fun k => some (ad k))))))), (hc, .inr (2, [.ref h1, .ref h2, .ref h3])), (h1, .inr (1, nm_fs x1)), (h2, .inr (1, nm_fs x2)), (h3, .inr (1, nm_fs x3)), (hk, .inr (3, [.ref h4, .ref h5])), (h4, .inr (1, nm_fs x4)), (h5, .inr (1, nm_fs x5))] ++ np_pool 1 ad (va_up sg p1.toNatClampNeg (f_X1_becomeAny (sg p1.toNatClampNeg)))) H := hP
    have hD : va_D A ([(h0, .inr (0, [.ref ha, .ref hc, .ref hk])), (ha, .inl (cA, 16, .inr (.inr (.inr (.inr (fun k => some (ad k))))))), (hc, .inr (2, [.ref h1, .ref h2, .ref h3])), (h1, .inr (1, nm_fs x1)), (h2, .inr (1, nm_fs x2)), (h3, .inr (1, nm_fs x3)), (hk, .inr (3, [.ref h4, .ref h5])), (h4, .inr (1, nm_fs x4)), (h5, .inr (1, nm_fs x5))] ++ np_pool 1 ad (va_up sg p1.toNatClampNeg (f_X1_becomeAny (sg p1.toNatClampNeg)))) := hD
    refine lv_iconst (v := 1) hx hb dX0_any_18 (by decide) ?_
    have e9 : f_X0_any sg x1 x2 x3 x4 x5 p1 = ((va_up sg p1.toNatClampNeg (f_X1_becomeAny (sg p1.toNatClampNeg))), 1) := (if_neg c2).trans (rfl)
    rw [e9]
    exact sp_zret C hAe hP hK hD hS (Or.inr rfl) dX0_any_19
  · refine lv_iconst (v := 0) hx hb dX0_any_7 (by decide) ?_
    have e9 : f_X0_any sg x1 x2 x3 x4 x5 p1 = (sg, 0) := (if_pos c2).trans (rfl)
    rw [e9]
    exact sp_zret C hAe hP hK hD hS (Or.inl rfl) dX0_any_8
def f_X0_bits (sg : Nat → Nm) (x1 : Nm) (x2 : Nm) (x3 : Nm) (x4 : Nm) (x5 : Nm) (p1 : Int32) (p2 : Int64) (p3 : Int64) : (Nat → Nm) × Int32 :=
  if (f_X0_isNumber p1) = 0 then (sg, 0)
  else ((va_up (va_up (va_up sg p1.toNatClampNeg (f_X1_becomeAny (sg p1.toNatClampNeg))) p1.toNatClampNeg (f_X1_setBits ((va_up sg p1.toNatClampNeg (f_X1_becomeAny (sg p1.toNatClampNeg))) p1.toNatClampNeg) (p2 &&& (p3 ^^^ (-1))) p3)) p1.toNatClampNeg ((f_X1_settle ((va_up (va_up sg p1.toNatClampNeg (f_X1_becomeAny (sg p1.toNatClampNeg))) p1.toNatClampNeg (f_X1_setBits ((va_up sg p1.toNatClampNeg (f_X1_becomeAny (sg p1.toNatClampNeg))) p1.toNatClampNeg) (p2 &&& (p3 ^^^ (-1))) p3)) p1.toNatClampNeg)).1)), 1)
set_option maxHeartbeats 4000000 in
set_option maxRecDepth 100000 in
theorem c_X0_bits (l : Launch) (D : va_G) (h0 : Nat) (ha : Nat) (hc : Nat) (h1 : Nat) (h2 : Nat) (h3 : Nat) (hk : Nat) (h4 : Nat) (h5 : Nat) (cA : ClassId) (ad : Nat → Nat) (sg : Nat → Nm) (x1 : Nm) (x2 : Nm) (x3 : Nm) (x4 : Nm) (x5 : Nm) (p1 : Int32) (p2 : Int64) (p3 : Int64) : sp_M l yX0_bits wsX0_bits ({ frames := 4, cells := 0, slots := 0, locals := 88 }) D [.ref h0, .int p1, .long p2, .long p3] ([(h0, .inr (0, [.ref ha, .ref hc, .ref hk])), (ha, .inl (cA, 16, .inr (.inr (.inr (.inr (fun k => some (ad k))))))), (hc, .inr (2, [.ref h1, .ref h2, .ref h3])), (h1, .inr (1, nm_fs x1)), (h2, .inr (1, nm_fs x2)), (h3, .inr (1, nm_fs x3)), (hk, .inr (3, [.ref h4, .ref h5])), (h4, .inr (1, nm_fs x4)), (h5, .inr (1, nm_fs x5))] ++ np_pool 1 ad sg) [(cA, .object RX1)] (sp_Qz D ([(h0, .inr (0, [.ref ha, .ref hc, .ref hk])), (ha, .inl (cA, 16, .inr (.inr (.inr (.inr (fun k => some (ad k))))))), (hc, .inr (2, [.ref h1, .ref h2, .ref h3])), (h1, .inr (1, nm_fs x1)), (h2, .inr (1, nm_fs x2)), (h3, .inr (1, nm_fs x3)), (hk, .inr (3, [.ref h4, .ref h5])), (h4, .inr (1, nm_fs x4)), (h5, .inr (1, nm_fs x5))] ++ np_pool 1 ad sg) ([(h0, .inr (0, [.ref ha, .ref hc, .ref hk])), (ha, .inl (cA, 16, .inr (.inr (.inr (.inr (fun k => some (ad k))))))), (hc, .inr (2, [.ref h1, .ref h2, .ref h3])), (h1, .inr (1, nm_fs x1)), (h2, .inr (1, nm_fs x2)), (h3, .inr (1, nm_fs x3)), (hk, .inr (3, [.ref h4, .ref h5])), (h4, .inr (1, nm_fs x4)), (h5, .inr (1, nm_fs x5))] ++ np_pool 1 ad ((f_X0_bits sg x1 x2 x3 x4 x5 p1 p2 p3).1)) [(cA, .object RX1)] ((f_X0_bits sg x1 x2 x3 x4 x5 p1 p2 p3).2)) := by
  refine sp_ofW (cc := cX0_bits) (nL := 7) (ret := (some .boolean)) (own := RX0) (by decide) rfl rfl (Nat.le_of_ble_eq_true rfl) ?_
  intro p e s m below meth c A ls hAe hnm C hA hP hK hD hS hl
  have hx := C.1
  have hb := C.2.1
  have hown := C.2.2.2.2.1
  have hts := C.2.2.2.2.2.1
  have hl : lv_has ls 7 [(0, .ref h0), (1, .int p1), (2, .long p2), (4, .long p3)] := hl
  have hi0 : ∀ w ∈ u_ws RX0 TX0 3, w ∈ wsX0_bits := fun w h => List.mem_cons_of_mem _ (inX0 w h)
  have hk0 := hts _ (List.mem_cons_of_mem _ wm_119)
  have hk1 := hts _ (List.mem_cons_of_mem _ wm_348)
  refine lv_iload_n hx hb dX0_bits_0 rfl (lv_at hl 1 rfl) ?_
  refine sp_callz (sp_runS (As := [.int p1]) (rest := []) C (c_X0_isNumber l D p1) (va_cwS 1 hts (gS wG_c wm_342 wm_343 wm_4 wm_341) rfl rfl rfl (by decide +kernel) ⟨Nat.le_of_ble_eq_true rfl, Nat.le_of_ble_eq_true rfl⟩) hK hP hD [] (by decide) rfl [] rfl rfl hl.1 rfl (Nat.le_of_ble_eq_true rfl) dX0_bits_1 ⟨Nat.le_of_ble_eq_true rfl, Nat.le_of_ble_eq_true rfl⟩) hP hD hS hA [] rfl sp_f0 (fun H locs z1 hP hD hS => ?_)
  have hP : va_P D vwCl ([(h0, .inr (0, [.ref ha, .ref hc, .ref hk])), (ha, .inl (cA, 16, .inr (.inr (.inr (.inr (fun k => some (ad k))))))), (hc, .inr (2, [.ref h1, .ref h2, .ref h3])), (h1, .inr (1, nm_fs x1)), (h2, .inr (1, nm_fs x2)), (h3, .inr (1, nm_fs x3)), (hk, .inr (3, [.ref h4, .ref h5])), (h4, .inr (1, nm_fs x4)), (h5, .inr (1, nm_fs x5))] ++ np_pool 1 ad sg) H := hP
  have hD : va_D A ([(h0, .inr (0, [.ref ha, .ref hc, .ref hk])), (ha, .inl (cA, 16, .inr (.inr (.inr (.inr (fun k => some (ad k))))))), (hc, .inr (2, [.ref h1, .ref h2, .ref h3])), (h1, .inr (1, nm_fs x1)), (h2, .inr (1, nm_fs x2)), (h3, .inr (1, nm_fs x3)), (hk, .inr (3, [.ref h4, .ref h5])), (h4, .inr (1, nm_fs x4)), (h5, .inr (1, nm_fs x5))] ++ np_pool 1 ad sg) := hD
  refine lv_if_ne (tgt := 9) hx hb dX0_bits_4 (by decide) (fun c2 => ?_) (fun c2 => ?_)
  · refine lv_aload_n hx hb dX0_bits_9 rfl (lv_at hl 0 rfl) ?_
    refine va_get (D := D) (ci := 0) (v := .ref ha) (C := RX0) (T := TX0) (N := 3) hx hb hts hi0 hown hK hP 0 rfl rfl 0 (by decide) hk0 (fun _ h9 => h9) rfl dX0_bits_10 ?_
    refine lv_iload_n hx hb dX0_bits_13 rfl (lv_at hl 1 rfl) ?_
    refine va_aldq (C := RX1) hx hb hK hP 1 0 rfl rfl (nb_in c2) dX0_bits_14 ?_
    refine W.eq (g2 := F0 m 15 ls [.ref (ad p1.toNatClampNeg)]) rfl ?_
    refine lv_astore (lv' := [(6, .ref (ad p1.toNatClampNeg)), (0, .ref h0), (1, .int p1), (2, .long p2), (4, .long p3)]) hx hb dX0_bits_15 hl (by decide) rfl (fun ls hl => ?_)
    refine lv_aload hx hb dX0_bits_17 (lv_at hl 0 rfl) ?_
    refine sp_callv (sp_runV (As := []) (rest := []) C (c_X1_becomeAny l D (ad p1.toNatClampNeg) (sg p1.toNatClampNeg)) (cwV 0 hts (gV wG_c wm_345 wm_244 wm_245 wm_31 wm_242) rfl rfl rfl (by decide +kernel) ⟨Nat.le_of_ble_eq_true rfl, Nat.le_of_ble_eq_true rfl⟩) hK hP hD [9 + p1.toNatClampNeg] rfl (sp_cc (np_at rfl (nb_lt c2)) sp_c0) [] rfl 0 1 rfl rfl rfl rfl hl.1 rfl (Nat.le_of_ble_eq_true rfl) dX0_bits_19 ⟨Nat.le_of_ble_eq_true rfl, Nat.le_of_ble_eq_true rfl⟩) hP hD hS hA [9 + p1.toNatClampNeg] (sp_cc (np_at rfl (nb_lt c2)) sp_c0) (sp_fc sp_f0) (fun H locs hP hD hS => ?_)
    have hP : va_P D vwCl ((([(h0, .inr (0, [.ref ha, .ref hc, .ref hk])), (ha, .inl (cA, 16, .inr (.inr (.inr (.inr (fun k => some (ad k))))))), (hc, .inr (2, [.ref h1, .ref h2, .ref h3])), (h1, .inr (1, nm_fs x1)), (h2, .inr (1, nm_fs x2)), (h3, .inr (1, nm_fs x3)), (hk, .inr (3, [.ref h4, .ref h5])), (h4, .inr (1, nm_fs x4)), (h5, .inr (1, nm_fs x5))] ++ np_pool 1 ad sg) : va_W).set (9 + p1.toNatClampNeg) ((ad p1.toNatClampNeg), .inr (1, nm_fs (f_X1_becomeAny (sg p1.toNatClampNeg))))) H := hP
    have hD : va_D A ((([(h0, .inr (0, [.ref ha, .ref hc, .ref hk])), (ha, .inl (cA, 16, .inr (.inr (.inr (.inr (fun k => some (ad k))))))), (hc, .inr (2, [.ref h1, .ref h2, .ref h3])), (h1, .inr (1, nm_fs x1)), (h2, .inr (1, nm_fs x2)), (h3, .inr (1, nm_fs x3)), (hk, .inr (3, [.ref h4, .ref h5])), (h4, .inr (1, nm_fs x4)), (h5, .inr (1, nm_fs x5))] ++ np_pool 1 ad sg) : va_W).set (9 + p1.toNatClampNeg) ((ad p1.toNatClampNeg), .inr (1, nm_fs (f_X1_becomeAny (sg p1.toNatClampNeg))))) := hD
    rw [np_set9 (nb_lt c2)] at hP hD
    have hP : va_P D vwCl ([(h0, .inr (0, [.ref ha, .ref hc, .ref hk])), (ha, .inl (cA, 16, .inr (.inr (.inr (.inr (fun k => some (ad k))))))), (hc, .inr (2, [.ref h1, .ref h2, .ref h3])), (h1, .inr (1, nm_fs x1)), (h2, .inr (1, nm_fs x2)), (h3, .inr (1, nm_fs x3)), (hk, .inr (3, [.ref h4, .ref h5])), (h4, .inr (1, nm_fs x4)), (h5, .inr (1, nm_fs x5))] ++ np_pool 1 ad (va_up sg p1.toNatClampNeg (f_X1_becomeAny (sg p1.toNatClampNeg)))) H := hP
    have hD : va_D A ([(h0, .inr (0, [.ref ha, .ref hc, .ref hk])), (ha, .inl (cA, 16, .inr (.inr (.inr (.inr (fun k => some (ad k))))))), (hc, .inr (2, [.ref h1, .ref h2, .ref h3])), (h1, .inr (1, nm_fs x1)), (h2, .inr (1, nm_fs x2)), (h3, .inr (1, nm_fs x3)), (hk, .inr (3, [.ref h4, .ref h5])), (h4, .inr (1, nm_fs x4)), (h5, .inr (1, nm_fs x5))] ++ np_pool 1 ad (va_up sg p1.toNatClampNeg (f_X1_becomeAny (sg p1.toNatClampNeg)))) := hD
    refine lv_aload hx hb dX0_bits_22 (lv_at hl 0 rfl) ?_
    refine lv_lload_n hx hb dX0_bits_24 rfl (lv_at hl 3 rfl) ?_
    refine lv_lload hx hb dX0_bits_25 (lv_at hl 4 rfl) ?_
    refine lv_ldc2 (v := (-1)) hx hb hown hk1 dX0_bits_27 ?_
    refine lv_lxor hx hb dX0_bits_30 ?_
    refine lv_land hx hb dX0_bits_31 ?_
    refine lv_lload hx hb dX0_bits_32 (lv_at hl 4 rfl) ?_
    refine sp_callv (sp_runV (As := [.long (p2 &&& (p3 ^^^ (-1))), .long p3]) (rest := []) C (c_X1_setBits l D (ad p1.toNatClampNeg) ((va_up sg p1.toNatClampNeg (f_X1_becomeAny (sg p1.toNatClampNeg))) p1.toNatClampNeg) (p2 &&& (p3 ^^^ (-1))) p3) (cwV 2 hts (gV wG_c wm_346 wm_29 wm_30 wm_31 wm_27) rfl rfl rfl (by decide +kernel) ⟨Nat.le_of_ble_eq_true rfl, Nat.le_of_ble_eq_true rfl⟩) hK hP hD [9 + p1.toNatClampNeg] rfl (sp_cc (np_at rfl (nb_lt c2)) sp_c0) [] rfl 0 1 rfl rfl rfl rfl hl.1 rfl (Nat.le_of_ble_eq_true rfl) dX0_bits_34 ⟨Nat.le_of_ble_eq_true rfl, Nat.le_of_ble_eq_true rfl⟩) hP hD hS hA [9 + p1.toNatClampNeg] (sp_cc (np_at rfl (nb_lt c2)) sp_c0) (sp_fc sp_f0) (fun H locs hP hD hS => ?_)
    have hP : va_P D vwCl ((([(h0, .inr (0, [.ref ha, .ref hc, .ref hk])), (ha, .inl (cA, 16, .inr (.inr (.inr (.inr (fun k => some (ad k))))))), (hc, .inr (2, [.ref h1, .ref h2, .ref h3])), (h1, .inr (1, nm_fs x1)), (h2, .inr (1, nm_fs x2)), (h3, .inr (1, nm_fs x3)), (hk, .inr (3, [.ref h4, .ref h5])), (h4, .inr (1, nm_fs x4)), (h5, .inr (1, nm_fs x5))] ++ np_pool 1 ad (va_up sg p1.toNatClampNeg (f_X1_becomeAny (sg p1.toNatClampNeg)))) : va_W).set (9 + p1.toNatClampNeg) ((ad p1.toNatClampNeg), .inr (1, nm_fs (f_X1_setBits ((va_up sg p1.toNatClampNeg (f_X1_becomeAny (sg p1.toNatClampNeg))) p1.toNatClampNeg) (p2 &&& (p3 ^^^ (-1))) p3)))) H := hP
    have hD : va_D A ((([(h0, .inr (0, [.ref ha, .ref hc, .ref hk])), (ha, .inl (cA, 16, .inr (.inr (.inr (.inr (fun k => some (ad k))))))), (hc, .inr (2, [.ref h1, .ref h2, .ref h3])), (h1, .inr (1, nm_fs x1)), (h2, .inr (1, nm_fs x2)), (h3, .inr (1, nm_fs x3)), (hk, .inr (3, [.ref h4, .ref h5])), (h4, .inr (1, nm_fs x4)), (h5, .inr (1, nm_fs x5))] ++ np_pool 1 ad (va_up sg p1.toNatClampNeg (f_X1_becomeAny (sg p1.toNatClampNeg)))) : va_W).set (9 + p1.toNatClampNeg) ((ad p1.toNatClampNeg), .inr (1, nm_fs (f_X1_setBits ((va_up sg p1.toNatClampNeg (f_X1_becomeAny (sg p1.toNatClampNeg))) p1.toNatClampNeg) (p2 &&& (p3 ^^^ (-1))) p3)))) := hD
    rw [np_set9 (nb_lt c2)] at hP hD
    have hP : va_P D vwCl ([(h0, .inr (0, [.ref ha, .ref hc, .ref hk])), (ha, .inl (cA, 16, .inr (.inr (.inr (.inr (fun k => some (ad k))))))), (hc, .inr (2, [.ref h1, .ref h2, .ref h3])), (h1, .inr (1, nm_fs x1)), (h2, .inr (1, nm_fs x2)), (h3, .inr (1, nm_fs x3)), (hk, .inr (3, [.ref h4, .ref h5])), (h4, .inr (1, nm_fs x4)), (h5, .inr (1, nm_fs x5))] ++ np_pool 1 ad (va_up (va_up sg p1.toNatClampNeg (f_X1_becomeAny (sg p1.toNatClampNeg))) p1.toNatClampNeg (f_X1_setBits ((va_up sg p1.toNatClampNeg (f_X1_becomeAny (sg p1.toNatClampNeg))) p1.toNatClampNeg) (p2 &&& (p3 ^^^ (-1))) p3))) H := hP
    have hD : va_D A ([(h0, .inr (0, [.ref ha, .ref hc, .ref hk])), (ha, .inl (cA, 16, .inr (.inr (.inr (.inr (fun k => some (ad k))))))), (hc, .inr (2, [.ref h1, .ref h2, .ref h3])), (h1, .inr (1, nm_fs x1)), (h2, .inr (1, nm_fs x2)), (h3, .inr (1, nm_fs x3)), (hk, .inr (3, [.ref h4, .ref h5])), (h4, .inr (1, nm_fs x4)), (h5, .inr (1, nm_fs x5))] ++ np_pool 1 ad (va_up (va_up sg p1.toNatClampNeg (f_X1_becomeAny (sg p1.toNatClampNeg))) p1.toNatClampNeg (f_X1_setBits ((va_up sg p1.toNatClampNeg (f_X1_becomeAny (sg p1.toNatClampNeg))) p1.toNatClampNeg) (p2 &&& (p3 ^^^ (-1))) p3))) := hD
    refine lv_aload hx hb dX0_bits_37 (lv_at hl 0 rfl) ?_
    refine sp_callz (sp_runV (As := []) (rest := []) C (c_X1_settle l D (ad p1.toNatClampNeg) ((va_up (va_up sg p1.toNatClampNeg (f_X1_becomeAny (sg p1.toNatClampNeg))) p1.toNatClampNeg (f_X1_setBits ((va_up sg p1.toNatClampNeg (f_X1_becomeAny (sg p1.toNatClampNeg))) p1.toNatClampNeg) (p2 &&& (p3 ^^^ (-1))) p3)) p1.toNatClampNeg)) (cwV 0 hts (gV wG_c wm_347 wm_100 wm_101 wm_31 wm_98) rfl rfl rfl (by decide +kernel) ⟨Nat.le_of_ble_eq_true rfl, Nat.le_of_ble_eq_true rfl⟩) hK hP hD [9 + p1.toNatClampNeg] rfl (sp_cc (np_at rfl (nb_lt c2)) sp_c0) [] rfl 0 1 rfl rfl rfl rfl hl.1 rfl (Nat.le_of_ble_eq_true rfl) dX0_bits_39 ⟨Nat.le_of_ble_eq_true rfl, Nat.le_of_ble_eq_true rfl⟩) hP hD hS hA [9 + p1.toNatClampNeg] (sp_cc (np_at rfl (nb_lt c2)) sp_c0) (sp_fc sp_f0) (fun H locs z3 hP hD hS => ?_)
    have hP : va_P D vwCl ((([(h0, .inr (0, [.ref ha, .ref hc, .ref hk])), (ha, .inl (cA, 16, .inr (.inr (.inr (.inr (fun k => some (ad k))))))), (hc, .inr (2, [.ref h1, .ref h2, .ref h3])), (h1, .inr (1, nm_fs x1)), (h2, .inr (1, nm_fs x2)), (h3, .inr (1, nm_fs x3)), (hk, .inr (3, [.ref h4, .ref h5])), (h4, .inr (1, nm_fs x4)), (h5, .inr (1, nm_fs x5))] ++ np_pool 1 ad (va_up (va_up sg p1.toNatClampNeg (f_X1_becomeAny (sg p1.toNatClampNeg))) p1.toNatClampNeg (f_X1_setBits ((va_up sg p1.toNatClampNeg (f_X1_becomeAny (sg p1.toNatClampNeg))) p1.toNatClampNeg) (p2 &&& (p3 ^^^ (-1))) p3))) : va_W).set (9 + p1.toNatClampNeg) ((ad p1.toNatClampNeg), .inr (1, nm_fs ((f_X1_settle ((va_up (va_up sg p1.toNatClampNeg (f_X1_becomeAny (sg p1.toNatClampNeg))) p1.toNatClampNeg (f_X1_setBits ((va_up sg p1.toNatClampNeg (f_X1_becomeAny (sg p1.toNatClampNeg))) p1.toNatClampNeg) (p2 &&& (p3 ^^^ (-1))) p3)) p1.toNatClampNeg)).1)))) H := hP
    have hD : va_D A ((([(h0, .inr (0, [.ref ha, .ref hc, .ref hk])), (ha, .inl (cA, 16, .inr (.inr (.inr (.inr (fun k => some (ad k))))))), (hc, .inr (2, [.ref h1, .ref h2, .ref h3])), (h1, .inr (1, nm_fs x1)), (h2, .inr (1, nm_fs x2)), (h3, .inr (1, nm_fs x3)), (hk, .inr (3, [.ref h4, .ref h5])), (h4, .inr (1, nm_fs x4)), (h5, .inr (1, nm_fs x5))] ++ np_pool 1 ad (va_up (va_up sg p1.toNatClampNeg (f_X1_becomeAny (sg p1.toNatClampNeg))) p1.toNatClampNeg (f_X1_setBits ((va_up sg p1.toNatClampNeg (f_X1_becomeAny (sg p1.toNatClampNeg))) p1.toNatClampNeg) (p2 &&& (p3 ^^^ (-1))) p3))) : va_W).set (9 + p1.toNatClampNeg) ((ad p1.toNatClampNeg), .inr (1, nm_fs ((f_X1_settle ((va_up (va_up sg p1.toNatClampNeg (f_X1_becomeAny (sg p1.toNatClampNeg))) p1.toNatClampNeg (f_X1_setBits ((va_up sg p1.toNatClampNeg (f_X1_becomeAny (sg p1.toNatClampNeg))) p1.toNatClampNeg) (p2 &&& (p3 ^^^ (-1))) p3)) p1.toNatClampNeg)).1)))) := hD
    rw [np_set9 (nb_lt c2)] at hP hD
    have hP : va_P D vwCl ([(h0, .inr (0, [.ref ha, .ref hc, .ref hk])), (ha, .inl (cA, 16, .inr (.inr (.inr (.inr (fun k => some (ad k))))))), (hc, .inr (2, [.ref h1, .ref h2, .ref h3])), (h1, .inr (1, nm_fs x1)), (h2, .inr (1, nm_fs x2)), (h3, .inr (1, nm_fs x3)), (hk, .inr (3, [.ref h4, .ref h5])), (h4, .inr (1, nm_fs x4)), (h5, .inr (1, nm_fs x5))] ++ np_pool 1 ad (va_up (va_up (va_up sg p1.toNatClampNeg (f_X1_becomeAny (sg p1.toNatClampNeg))) p1.toNatClampNeg (f_X1_setBits ((va_up sg p1.toNatClampNeg (f_X1_becomeAny (sg p1.toNatClampNeg))) p1.toNatClampNeg) (p2 &&& (p3 ^^^ (-1))) p3)) p1.toNatClampNeg ((f_X1_settle ((va_up (va_up sg p1.toNatClampNeg (f_X1_becomeAny (sg p1.toNatClampNeg))) p1.toNatClampNeg (f_X1_setBits ((va_up sg p1.toNatClampNeg (f_X1_becomeAny (sg p1.toNatClampNeg))) p1.toNatClampNeg) (p2 &&& (p3 ^^^ (-1))) p3)) p1.toNatClampNeg)).1))) H := hP
    have hD : va_D A ([(h0, .inr (0, [.ref ha, .ref hc, .ref hk])), (ha, .inl (cA, 16, .inr (.inr (.inr (.inr (fun k => some (ad k))))))), (hc, .inr (2, [.ref h1, .ref h2, .ref h3])), (h1, .inr (1, nm_fs x1)), (h2, .inr (1, nm_fs x2)), (h3, .inr (1, nm_fs x3)), (hk, .inr (3, [.ref h4, .ref h5])), (h4, .inr (1, nm_fs x4)), (h5, .inr (1, nm_fs x5))] ++ np_pool 1 ad (va_up (va_up (va_up sg p1.toNatClampNeg (f_X1_becomeAny (sg p1.toNatClampNeg))) p1.toNatClampNeg (f_X1_setBits ((va_up sg p1.toNatClampNeg (f_X1_becomeAny (sg p1.toNatClampNeg))) p1.toNatClampNeg) (p2 &&& (p3 ^^^ (-1))) p3)) p1.toNatClampNeg ((f_X1_settle ((va_up (va_up sg p1.toNatClampNeg (f_X1_becomeAny (sg p1.toNatClampNeg))) p1.toNatClampNeg (f_X1_setBits ((va_up sg p1.toNatClampNeg (f_X1_becomeAny (sg p1.toNatClampNeg))) p1.toNatClampNeg) (p2 &&& (p3 ^^^ (-1))) p3)) p1.toNatClampNeg)).1))) := hD
    refine lv_pop hx hb dX0_bits_42 rfl ?_
    refine lv_iconst (v := 1) hx hb dX0_bits_43 (by decide) ?_
    have e9 : f_X0_bits sg x1 x2 x3 x4 x5 p1 p2 p3 = ((va_up (va_up (va_up sg p1.toNatClampNeg (f_X1_becomeAny (sg p1.toNatClampNeg))) p1.toNatClampNeg (f_X1_setBits ((va_up sg p1.toNatClampNeg (f_X1_becomeAny (sg p1.toNatClampNeg))) p1.toNatClampNeg) (p2 &&& (p3 ^^^ (-1))) p3)) p1.toNatClampNeg ((f_X1_settle ((va_up (va_up sg p1.toNatClampNeg (f_X1_becomeAny (sg p1.toNatClampNeg))) p1.toNatClampNeg (f_X1_setBits ((va_up sg p1.toNatClampNeg (f_X1_becomeAny (sg p1.toNatClampNeg))) p1.toNatClampNeg) (p2 &&& (p3 ^^^ (-1))) p3)) p1.toNatClampNeg)).1)), 1) := (if_neg c2).trans (rfl)
    rw [e9]
    exact sp_zret C hAe hP hK hD hS (Or.inr rfl) dX0_bits_44
  · refine lv_iconst (v := 0) hx hb dX0_bits_7 (by decide) ?_
    have e9 : f_X0_bits sg x1 x2 x3 x4 x5 p1 p2 p3 = (sg, 0) := (if_pos c2).trans (rfl)
    rw [e9]
    exact sp_zret C hAe hP hK hD hS (Or.inl rfl) dX0_bits_8
def f_X0_bounds (sg : Nat → Nm) (x1 : Nm) (x2 : Nm) (x3 : Nm) (x4 : Nm) (x5 : Nm) (p1 : Int32) (p2 : Int64) (p3 : Int64) (p4 : Int32) : (Nat → Nm) × Int32 :=
  if (f_X0_isNumber p1) = 0 then (sg, 0)
  else if p4 = 0 then (if (f_X0_isAbove p2 p3) = 0 then ((va_up (va_up (va_up sg p1.toNatClampNeg (f_X1_becomeAny (sg p1.toNatClampNeg))) p1.toNatClampNeg (f_X1_setUnsigned ((va_up sg p1.toNatClampNeg (f_X1_becomeAny (sg p1.toNatClampNeg))) p1.toNatClampNeg) p2 p3)) p1.toNatClampNeg ((f_X1_settle ((va_up (va_up sg p1.toNatClampNeg (f_X1_becomeAny (sg p1.toNatClampNeg))) p1.toNatClampNeg (f_X1_setUnsigned ((va_up sg p1.toNatClampNeg (f_X1_becomeAny (sg p1.toNatClampNeg))) p1.toNatClampNeg) p2 p3)) p1.toNatClampNeg)).1)), 1)
    else (sg, 0))
  else if (lg_cmp p2 p3) ≤ 0 then ((va_up (va_up (va_up sg p1.toNatClampNeg (f_X1_becomeAny (sg p1.toNatClampNeg))) p1.toNatClampNeg (f_X1_setSigned ((va_up sg p1.toNatClampNeg (f_X1_becomeAny (sg p1.toNatClampNeg))) p1.toNatClampNeg) p2 p3)) p1.toNatClampNeg ((f_X1_settle ((va_up (va_up sg p1.toNatClampNeg (f_X1_becomeAny (sg p1.toNatClampNeg))) p1.toNatClampNeg (f_X1_setSigned ((va_up sg p1.toNatClampNeg (f_X1_becomeAny (sg p1.toNatClampNeg))) p1.toNatClampNeg) p2 p3)) p1.toNatClampNeg)).1)), 1)
  else (sg, 0)
set_option maxHeartbeats 4000000 in
set_option maxRecDepth 100000 in
theorem c_X0_bounds (l : Launch) (D : va_G) (h0 : Nat) (ha : Nat) (hc : Nat) (h1 : Nat) (h2 : Nat) (h3 : Nat) (hk : Nat) (h4 : Nat) (h5 : Nat) (cA : ClassId) (ad : Nat → Nat) (sg : Nat → Nm) (x1 : Nm) (x2 : Nm) (x3 : Nm) (x4 : Nm) (x5 : Nm) (p1 : Int32) (p2 : Int64) (p3 : Int64) (p4 : Int32) : sp_M l yX0_bounds wsX0_bounds ({ frames := 4, cells := 0, slots := 0, locals := 88 }) D [.ref h0, .int p1, .long p2, .long p3, .int p4] ([(h0, .inr (0, [.ref ha, .ref hc, .ref hk])), (ha, .inl (cA, 16, .inr (.inr (.inr (.inr (fun k => some (ad k))))))), (hc, .inr (2, [.ref h1, .ref h2, .ref h3])), (h1, .inr (1, nm_fs x1)), (h2, .inr (1, nm_fs x2)), (h3, .inr (1, nm_fs x3)), (hk, .inr (3, [.ref h4, .ref h5])), (h4, .inr (1, nm_fs x4)), (h5, .inr (1, nm_fs x5))] ++ np_pool 1 ad sg) [(cA, .object RX1)] (sp_Qz D ([(h0, .inr (0, [.ref ha, .ref hc, .ref hk])), (ha, .inl (cA, 16, .inr (.inr (.inr (.inr (fun k => some (ad k))))))), (hc, .inr (2, [.ref h1, .ref h2, .ref h3])), (h1, .inr (1, nm_fs x1)), (h2, .inr (1, nm_fs x2)), (h3, .inr (1, nm_fs x3)), (hk, .inr (3, [.ref h4, .ref h5])), (h4, .inr (1, nm_fs x4)), (h5, .inr (1, nm_fs x5))] ++ np_pool 1 ad sg) ([(h0, .inr (0, [.ref ha, .ref hc, .ref hk])), (ha, .inl (cA, 16, .inr (.inr (.inr (.inr (fun k => some (ad k))))))), (hc, .inr (2, [.ref h1, .ref h2, .ref h3])), (h1, .inr (1, nm_fs x1)), (h2, .inr (1, nm_fs x2)), (h3, .inr (1, nm_fs x3)), (hk, .inr (3, [.ref h4, .ref h5])), (h4, .inr (1, nm_fs x4)), (h5, .inr (1, nm_fs x5))] ++ np_pool 1 ad ((f_X0_bounds sg x1 x2 x3 x4 x5 p1 p2 p3 p4).1)) [(cA, .object RX1)] ((f_X0_bounds sg x1 x2 x3 x4 x5 p1 p2 p3 p4).2)) := by
  refine sp_ofW (cc := cX0_bounds) (nL := 8) (ret := (some .boolean)) (own := RX0) (by decide) rfl rfl (Nat.le_of_ble_eq_true rfl) ?_
  intro p e s m below meth c A ls hAe hnm C hA hP hK hD hS hl
  have hx := C.1
  have hb := C.2.1
  have hown := C.2.2.2.2.1
  have hts := C.2.2.2.2.2.1
  have hl : lv_has ls 8 [(0, .ref h0), (1, .int p1), (2, .long p2), (4, .long p3), (6, .int p4)] := hl
  have hi0 : ∀ w ∈ u_ws RX0 TX0 3, w ∈ wsX0_bounds := fun w h => List.mem_cons_of_mem _ (inX0 w h)
  have hk0 := hts _ (List.mem_cons_of_mem _ wm_119)
  refine lv_iload_n hx hb dX0_bounds_0 rfl (lv_at hl 1 rfl) ?_
  refine sp_callz (sp_runS (As := [.int p1]) (rest := []) C (c_X0_isNumber l D p1) (va_cwS 1 hts (gS wG_c wm_342 wm_343 wm_4 wm_341) rfl rfl rfl (by decide +kernel) ⟨Nat.le_of_ble_eq_true rfl, Nat.le_of_ble_eq_true rfl⟩) hK hP hD [] (by decide) rfl [] rfl rfl hl.1 rfl (Nat.le_of_ble_eq_true rfl) dX0_bounds_1 ⟨Nat.le_of_ble_eq_true rfl, Nat.le_of_ble_eq_true rfl⟩) hP hD hS hA [] rfl sp_f0 (fun H locs z1 hP hD hS => ?_)
  have hP : va_P D vwCl ([(h0, .inr (0, [.ref ha, .ref hc, .ref hk])), (ha, .inl (cA, 16, .inr (.inr (.inr (.inr (fun k => some (ad k))))))), (hc, .inr (2, [.ref h1, .ref h2, .ref h3])), (h1, .inr (1, nm_fs x1)), (h2, .inr (1, nm_fs x2)), (h3, .inr (1, nm_fs x3)), (hk, .inr (3, [.ref h4, .ref h5])), (h4, .inr (1, nm_fs x4)), (h5, .inr (1, nm_fs x5))] ++ np_pool 1 ad sg) H := hP
  have hD : va_D A ([(h0, .inr (0, [.ref ha, .ref hc, .ref hk])), (ha, .inl (cA, 16, .inr (.inr (.inr (.inr (fun k => some (ad k))))))), (hc, .inr (2, [.ref h1, .ref h2, .ref h3])), (h1, .inr (1, nm_fs x1)), (h2, .inr (1, nm_fs x2)), (h3, .inr (1, nm_fs x3)), (hk, .inr (3, [.ref h4, .ref h5])), (h4, .inr (1, nm_fs x4)), (h5, .inr (1, nm_fs x5))] ++ np_pool 1 ad sg) := hD
  refine lv_if_ne (tgt := 9) hx hb dX0_bounds_4 (by decide) (fun c2 => ?_) (fun c2 => ?_)
  · refine lv_iload hx hb dX0_bounds_9 (lv_at hl 4 rfl) ?_
    refine lv_if_eq (tgt := 24) hx hb dX0_bounds_11 (by decide) (fun c3 => ?_) (fun c3 => ?_)
    · refine lv_lload_n hx hb dX0_bounds_24 rfl (lv_at hl 2 rfl) ?_
      refine lv_lload hx hb dX0_bounds_25 (lv_at hl 3 rfl) ?_
      refine sp_callz (sp_runS (As := [.long p2, .long p3]) (rest := []) C (c_X0_isAbove l D p2 p3) (va_cwS 2 hts (gS wG_c wm_2 wm_3 wm_4 wm_1) rfl rfl rfl (by decide +kernel) ⟨Nat.le_of_ble_eq_true rfl, Nat.le_of_ble_eq_true rfl⟩) hK hP hD [] (by decide) rfl [] rfl rfl hl.1 rfl (Nat.le_of_ble_eq_true rfl) dX0_bounds_27 ⟨Nat.le_of_ble_eq_true rfl, Nat.le_of_ble_eq_true rfl⟩) hP hD hS hA [] rfl sp_f0 (fun H locs z4 hP hD hS => ?_)
      have hP : va_P D vwCl ([(h0, .inr (0, [.ref ha, .ref hc, .ref hk])), (ha, .inl (cA, 16, .inr (.inr (.inr (.inr (fun k => some (ad k))))))), (hc, .inr (2, [.ref h1, .ref h2, .ref h3])), (h1, .inr (1, nm_fs x1)), (h2, .inr (1, nm_fs x2)), (h3, .inr (1, nm_fs x3)), (hk, .inr (3, [.ref h4, .ref h5])), (h4, .inr (1, nm_fs x4)), (h5, .inr (1, nm_fs x5))] ++ np_pool 1 ad sg) H := hP
      have hD : va_D A ([(h0, .inr (0, [.ref ha, .ref hc, .ref hk])), (ha, .inl (cA, 16, .inr (.inr (.inr (.inr (fun k => some (ad k))))))), (hc, .inr (2, [.ref h1, .ref h2, .ref h3])), (h1, .inr (1, nm_fs x1)), (h2, .inr (1, nm_fs x2)), (h3, .inr (1, nm_fs x3)), (hk, .inr (3, [.ref h4, .ref h5])), (h4, .inr (1, nm_fs x4)), (h5, .inr (1, nm_fs x5))] ++ np_pool 1 ad sg) := hD
      refine lv_if_eq (tgt := 35) hx hb dX0_bounds_30 (by decide) (fun c5 => ?_) (fun c5 => ?_)
      · refine lv_aload_n hx hb dX0_bounds_35 rfl (lv_at hl 0 rfl) ?_
        refine va_get (D := D) (ci := 0) (v := .ref ha) (C := RX0) (T := TX0) (N := 3) hx hb hts hi0 hown hK hP 0 rfl rfl 0 (by decide) hk0 (fun _ h9 => h9) rfl dX0_bounds_36 ?_
        refine lv_iload_n hx hb dX0_bounds_39 rfl (lv_at hl 1 rfl) ?_
        refine va_aldq (C := RX1) hx hb hK hP 1 0 rfl rfl (nb_in c2) dX0_bounds_40 ?_
        refine W.eq (g2 := F0 m 41 ls [.ref (ad p1.toNatClampNeg)]) rfl ?_
        refine lv_astore (lv' := [(7, .ref (ad p1.toNatClampNeg)), (0, .ref h0), (1, .int p1), (2, .long p2), (4, .long p3), (6, .int p4)]) hx hb dX0_bounds_41 hl (by decide) rfl (fun ls hl => ?_)
        refine lv_aload hx hb dX0_bounds_43 (lv_at hl 0 rfl) ?_
        refine sp_callv (sp_runV (As := []) (rest := []) C (c_X1_becomeAny l D (ad p1.toNatClampNeg) (sg p1.toNatClampNeg)) (cwV 0 hts (gV wG_c wm_345 wm_244 wm_245 wm_31 wm_242) rfl rfl rfl (by decide +kernel) ⟨Nat.le_of_ble_eq_true rfl, Nat.le_of_ble_eq_true rfl⟩) hK hP hD [9 + p1.toNatClampNeg] rfl (sp_cc (np_at rfl (nb_lt c2)) sp_c0) [] rfl 0 1 rfl rfl rfl rfl hl.1 rfl (Nat.le_of_ble_eq_true rfl) dX0_bounds_45 ⟨Nat.le_of_ble_eq_true rfl, Nat.le_of_ble_eq_true rfl⟩) hP hD hS hA [9 + p1.toNatClampNeg] (sp_cc (np_at rfl (nb_lt c2)) sp_c0) (sp_fc sp_f0) (fun H locs hP hD hS => ?_)
        have hP : va_P D vwCl ((([(h0, .inr (0, [.ref ha, .ref hc, .ref hk])), (ha, .inl (cA, 16, .inr (.inr (.inr (.inr (fun k => some (ad k))))))), (hc, .inr (2, [.ref h1, .ref h2, .ref h3])), (h1, .inr (1, nm_fs x1)), (h2, .inr (1, nm_fs x2)), (h3, .inr (1, nm_fs x3)), (hk, .inr (3, [.ref h4, .ref h5])), (h4, .inr (1, nm_fs x4)), (h5, .inr (1, nm_fs x5))] ++ np_pool 1 ad sg) : va_W).set (9 + p1.toNatClampNeg) ((ad p1.toNatClampNeg), .inr (1, nm_fs (f_X1_becomeAny (sg p1.toNatClampNeg))))) H := hP
        have hD : va_D A ((([(h0, .inr (0, [.ref ha, .ref hc, .ref hk])), (ha, .inl (cA, 16, .inr (.inr (.inr (.inr (fun k => some (ad k))))))), (hc, .inr (2, [.ref h1, .ref h2, .ref h3])), (h1, .inr (1, nm_fs x1)), (h2, .inr (1, nm_fs x2)), (h3, .inr (1, nm_fs x3)), (hk, .inr (3, [.ref h4, .ref h5])), (h4, .inr (1, nm_fs x4)), (h5, .inr (1, nm_fs x5))] ++ np_pool 1 ad sg) : va_W).set (9 + p1.toNatClampNeg) ((ad p1.toNatClampNeg), .inr (1, nm_fs (f_X1_becomeAny (sg p1.toNatClampNeg))))) := hD
        rw [np_set9 (nb_lt c2)] at hP hD
        have hP : va_P D vwCl ([(h0, .inr (0, [.ref ha, .ref hc, .ref hk])), (ha, .inl (cA, 16, .inr (.inr (.inr (.inr (fun k => some (ad k))))))), (hc, .inr (2, [.ref h1, .ref h2, .ref h3])), (h1, .inr (1, nm_fs x1)), (h2, .inr (1, nm_fs x2)), (h3, .inr (1, nm_fs x3)), (hk, .inr (3, [.ref h4, .ref h5])), (h4, .inr (1, nm_fs x4)), (h5, .inr (1, nm_fs x5))] ++ np_pool 1 ad (va_up sg p1.toNatClampNeg (f_X1_becomeAny (sg p1.toNatClampNeg)))) H := hP
        have hD : va_D A ([(h0, .inr (0, [.ref ha, .ref hc, .ref hk])), (ha, .inl (cA, 16, .inr (.inr (.inr (.inr (fun k => some (ad k))))))), (hc, .inr (2, [.ref h1, .ref h2, .ref h3])), (h1, .inr (1, nm_fs x1)), (h2, .inr (1, nm_fs x2)), (h3, .inr (1, nm_fs x3)), (hk, .inr (3, [.ref h4, .ref h5])), (h4, .inr (1, nm_fs x4)), (h5, .inr (1, nm_fs x5))] ++ np_pool 1 ad (va_up sg p1.toNatClampNeg (f_X1_becomeAny (sg p1.toNatClampNeg)))) := hD
        refine lv_iload hx hb dX0_bounds_48 (lv_at hl 5 rfl) ?_
        refine lv_if_eq (tgt := 64) hx hb dX0_bounds_50 (by decide) (fun _ => ?_) (fun h9 => absurd c3 h9)
        refine lv_aload hx hb dX0_bounds_64 (lv_at hl 0 rfl) ?_
        refine lv_lload_n hx hb dX0_bounds_66 rfl (lv_at hl 3 rfl) ?_
        refine lv_lload hx hb dX0_bounds_67 (lv_at hl 4 rfl) ?_
        refine sp_callv (sp_runV (As := [.long p2, .long p3]) (rest := []) C (c_X1_setUnsigned l D (ad p1.toNatClampNeg) ((va_up sg p1.toNatClampNeg (f_X1_becomeAny (sg p1.toNatClampNeg))) p1.toNatClampNeg) p2 p3) (cwV 2 hts (gV wG_c wm_349 wm_34 wm_35 wm_31 wm_32) rfl rfl rfl (by decide +kernel) ⟨Nat.le_of_ble_eq_true rfl, Nat.le_of_ble_eq_true rfl⟩) hK hP hD [9 + p1.toNatClampNeg] rfl (sp_cc (np_at rfl (nb_lt c2)) sp_c0) [] rfl 0 1 rfl rfl rfl rfl hl.1 rfl (Nat.le_of_ble_eq_true rfl) dX0_bounds_69 ⟨Nat.le_of_ble_eq_true rfl, Nat.le_of_ble_eq_true rfl⟩) hP hD hS hA [9 + p1.toNatClampNeg] (sp_cc (np_at rfl (nb_lt c2)) sp_c0) (sp_fc sp_f0) (fun H locs hP hD hS => ?_)
        have hP : va_P D vwCl ((([(h0, .inr (0, [.ref ha, .ref hc, .ref hk])), (ha, .inl (cA, 16, .inr (.inr (.inr (.inr (fun k => some (ad k))))))), (hc, .inr (2, [.ref h1, .ref h2, .ref h3])), (h1, .inr (1, nm_fs x1)), (h2, .inr (1, nm_fs x2)), (h3, .inr (1, nm_fs x3)), (hk, .inr (3, [.ref h4, .ref h5])), (h4, .inr (1, nm_fs x4)), (h5, .inr (1, nm_fs x5))] ++ np_pool 1 ad (va_up sg p1.toNatClampNeg (f_X1_becomeAny (sg p1.toNatClampNeg)))) : va_W).set (9 + p1.toNatClampNeg) ((ad p1.toNatClampNeg), .inr (1, nm_fs (f_X1_setUnsigned ((va_up sg p1.toNatClampNeg (f_X1_becomeAny (sg p1.toNatClampNeg))) p1.toNatClampNeg) p2 p3)))) H := hP
        have hD : va_D A ((([(h0, .inr (0, [.ref ha, .ref hc, .ref hk])), (ha, .inl (cA, 16, .inr (.inr (.inr (.inr (fun k => some (ad k))))))), (hc, .inr (2, [.ref h1, .ref h2, .ref h3])), (h1, .inr (1, nm_fs x1)), (h2, .inr (1, nm_fs x2)), (h3, .inr (1, nm_fs x3)), (hk, .inr (3, [.ref h4, .ref h5])), (h4, .inr (1, nm_fs x4)), (h5, .inr (1, nm_fs x5))] ++ np_pool 1 ad (va_up sg p1.toNatClampNeg (f_X1_becomeAny (sg p1.toNatClampNeg)))) : va_W).set (9 + p1.toNatClampNeg) ((ad p1.toNatClampNeg), .inr (1, nm_fs (f_X1_setUnsigned ((va_up sg p1.toNatClampNeg (f_X1_becomeAny (sg p1.toNatClampNeg))) p1.toNatClampNeg) p2 p3)))) := hD
        rw [np_set9 (nb_lt c2)] at hP hD
        have hP : va_P D vwCl ([(h0, .inr (0, [.ref ha, .ref hc, .ref hk])), (ha, .inl (cA, 16, .inr (.inr (.inr (.inr (fun k => some (ad k))))))), (hc, .inr (2, [.ref h1, .ref h2, .ref h3])), (h1, .inr (1, nm_fs x1)), (h2, .inr (1, nm_fs x2)), (h3, .inr (1, nm_fs x3)), (hk, .inr (3, [.ref h4, .ref h5])), (h4, .inr (1, nm_fs x4)), (h5, .inr (1, nm_fs x5))] ++ np_pool 1 ad (va_up (va_up sg p1.toNatClampNeg (f_X1_becomeAny (sg p1.toNatClampNeg))) p1.toNatClampNeg (f_X1_setUnsigned ((va_up sg p1.toNatClampNeg (f_X1_becomeAny (sg p1.toNatClampNeg))) p1.toNatClampNeg) p2 p3))) H := hP
        have hD : va_D A ([(h0, .inr (0, [.ref ha, .ref hc, .ref hk])), (ha, .inl (cA, 16, .inr (.inr (.inr (.inr (fun k => some (ad k))))))), (hc, .inr (2, [.ref h1, .ref h2, .ref h3])), (h1, .inr (1, nm_fs x1)), (h2, .inr (1, nm_fs x2)), (h3, .inr (1, nm_fs x3)), (hk, .inr (3, [.ref h4, .ref h5])), (h4, .inr (1, nm_fs x4)), (h5, .inr (1, nm_fs x5))] ++ np_pool 1 ad (va_up (va_up sg p1.toNatClampNeg (f_X1_becomeAny (sg p1.toNatClampNeg))) p1.toNatClampNeg (f_X1_setUnsigned ((va_up sg p1.toNatClampNeg (f_X1_becomeAny (sg p1.toNatClampNeg))) p1.toNatClampNeg) p2 p3))) := hD
        refine lv_aload hx hb dX0_bounds_72 (lv_at hl 0 rfl) ?_
        refine sp_callz (sp_runV (As := []) (rest := []) C (c_X1_settle l D (ad p1.toNatClampNeg) ((va_up (va_up sg p1.toNatClampNeg (f_X1_becomeAny (sg p1.toNatClampNeg))) p1.toNatClampNeg (f_X1_setUnsigned ((va_up sg p1.toNatClampNeg (f_X1_becomeAny (sg p1.toNatClampNeg))) p1.toNatClampNeg) p2 p3)) p1.toNatClampNeg)) (cwV 0 hts (gV wG_c wm_347 wm_100 wm_101 wm_31 wm_98) rfl rfl rfl (by decide +kernel) ⟨Nat.le_of_ble_eq_true rfl, Nat.le_of_ble_eq_true rfl⟩) hK hP hD [9 + p1.toNatClampNeg] rfl (sp_cc (np_at rfl (nb_lt c2)) sp_c0) [] rfl 0 1 rfl rfl rfl rfl hl.1 rfl (Nat.le_of_ble_eq_true rfl) dX0_bounds_74 ⟨Nat.le_of_ble_eq_true rfl, Nat.le_of_ble_eq_true rfl⟩) hP hD hS hA [9 + p1.toNatClampNeg] (sp_cc (np_at rfl (nb_lt c2)) sp_c0) (sp_fc sp_f0) (fun H locs z7 hP hD hS => ?_)
        have hP : va_P D vwCl ((([(h0, .inr (0, [.ref ha, .ref hc, .ref hk])), (ha, .inl (cA, 16, .inr (.inr (.inr (.inr (fun k => some (ad k))))))), (hc, .inr (2, [.ref h1, .ref h2, .ref h3])), (h1, .inr (1, nm_fs x1)), (h2, .inr (1, nm_fs x2)), (h3, .inr (1, nm_fs x3)), (hk, .inr (3, [.ref h4, .ref h5])), (h4, .inr (1, nm_fs x4)), (h5, .inr (1, nm_fs x5))] ++ np_pool 1 ad (va_up (va_up sg p1.toNatClampNeg (f_X1_becomeAny (sg p1.toNatClampNeg))) p1.toNatClampNeg (f_X1_setUnsigned ((va_up sg p1.toNatClampNeg (f_X1_becomeAny (sg p1.toNatClampNeg))) p1.toNatClampNeg) p2 p3))) : va_W).set (9 + p1.toNatClampNeg) ((ad p1.toNatClampNeg), .inr (1, nm_fs ((f_X1_settle ((va_up (va_up sg p1.toNatClampNeg (f_X1_becomeAny (sg p1.toNatClampNeg))) p1.toNatClampNeg (f_X1_setUnsigned ((va_up sg p1.toNatClampNeg (f_X1_becomeAny (sg p1.toNatClampNeg))) p1.toNatClampNeg) p2 p3)) p1.toNatClampNeg)).1)))) H := hP
        have hD : va_D A ((([(h0, .inr (0, [.ref ha, .ref hc, .ref hk])), (ha, .inl (cA, 16, .inr (.inr (.inr (.inr (fun k => some (ad k))))))), (hc, .inr (2, [.ref h1, .ref h2, .ref h3])), (h1, .inr (1, nm_fs x1)), (h2, .inr (1, nm_fs x2)), (h3, .inr (1, nm_fs x3)), (hk, .inr (3, [.ref h4, .ref h5])), (h4, .inr (1, nm_fs x4)), (h5, .inr (1, nm_fs x5))] ++ np_pool 1 ad (va_up (va_up sg p1.toNatClampNeg (f_X1_becomeAny (sg p1.toNatClampNeg))) p1.toNatClampNeg (f_X1_setUnsigned ((va_up sg p1.toNatClampNeg (f_X1_becomeAny (sg p1.toNatClampNeg))) p1.toNatClampNeg) p2 p3))) : va_W).set (9 + p1.toNatClampNeg) ((ad p1.toNatClampNeg), .inr (1, nm_fs ((f_X1_settle ((va_up (va_up sg p1.toNatClampNeg (f_X1_becomeAny (sg p1.toNatClampNeg))) p1.toNatClampNeg (f_X1_setUnsigned ((va_up sg p1.toNatClampNeg (f_X1_becomeAny (sg p1.toNatClampNeg))) p1.toNatClampNeg) p2 p3)) p1.toNatClampNeg)).1)))) := hD
        rw [np_set9 (nb_lt c2)] at hP hD
        have hP : va_P D vwCl ([(h0, .inr (0, [.ref ha, .ref hc, .ref hk])), (ha, .inl (cA, 16, .inr (.inr (.inr (.inr (fun k => some (ad k))))))), (hc, .inr (2, [.ref h1, .ref h2, .ref h3])), (h1, .inr (1, nm_fs x1)), (h2, .inr (1, nm_fs x2)), (h3, .inr (1, nm_fs x3)), (hk, .inr (3, [.ref h4, .ref h5])), (h4, .inr (1, nm_fs x4)), (h5, .inr (1, nm_fs x5))] ++ np_pool 1 ad (va_up (va_up (va_up sg p1.toNatClampNeg (f_X1_becomeAny (sg p1.toNatClampNeg))) p1.toNatClampNeg (f_X1_setUnsigned ((va_up sg p1.toNatClampNeg (f_X1_becomeAny (sg p1.toNatClampNeg))) p1.toNatClampNeg) p2 p3)) p1.toNatClampNeg ((f_X1_settle ((va_up (va_up sg p1.toNatClampNeg (f_X1_becomeAny (sg p1.toNatClampNeg))) p1.toNatClampNeg (f_X1_setUnsigned ((va_up sg p1.toNatClampNeg (f_X1_becomeAny (sg p1.toNatClampNeg))) p1.toNatClampNeg) p2 p3)) p1.toNatClampNeg)).1))) H := hP
        have hD : va_D A ([(h0, .inr (0, [.ref ha, .ref hc, .ref hk])), (ha, .inl (cA, 16, .inr (.inr (.inr (.inr (fun k => some (ad k))))))), (hc, .inr (2, [.ref h1, .ref h2, .ref h3])), (h1, .inr (1, nm_fs x1)), (h2, .inr (1, nm_fs x2)), (h3, .inr (1, nm_fs x3)), (hk, .inr (3, [.ref h4, .ref h5])), (h4, .inr (1, nm_fs x4)), (h5, .inr (1, nm_fs x5))] ++ np_pool 1 ad (va_up (va_up (va_up sg p1.toNatClampNeg (f_X1_becomeAny (sg p1.toNatClampNeg))) p1.toNatClampNeg (f_X1_setUnsigned ((va_up sg p1.toNatClampNeg (f_X1_becomeAny (sg p1.toNatClampNeg))) p1.toNatClampNeg) p2 p3)) p1.toNatClampNeg ((f_X1_settle ((va_up (va_up sg p1.toNatClampNeg (f_X1_becomeAny (sg p1.toNatClampNeg))) p1.toNatClampNeg (f_X1_setUnsigned ((va_up sg p1.toNatClampNeg (f_X1_becomeAny (sg p1.toNatClampNeg))) p1.toNatClampNeg) p2 p3)) p1.toNatClampNeg)).1))) := hD
        refine lv_pop hx hb dX0_bounds_77 rfl ?_
        refine lv_iconst (v := 1) hx hb dX0_bounds_78 (by decide) ?_
        have e9 : f_X0_bounds sg x1 x2 x3 x4 x5 p1 p2 p3 p4 = ((va_up (va_up (va_up sg p1.toNatClampNeg (f_X1_becomeAny (sg p1.toNatClampNeg))) p1.toNatClampNeg (f_X1_setUnsigned ((va_up sg p1.toNatClampNeg (f_X1_becomeAny (sg p1.toNatClampNeg))) p1.toNatClampNeg) p2 p3)) p1.toNatClampNeg ((f_X1_settle ((va_up (va_up sg p1.toNatClampNeg (f_X1_becomeAny (sg p1.toNatClampNeg))) p1.toNatClampNeg (f_X1_setUnsigned ((va_up sg p1.toNatClampNeg (f_X1_becomeAny (sg p1.toNatClampNeg))) p1.toNatClampNeg) p2 p3)) p1.toNatClampNeg)).1)), 1) := (if_neg c2).trans ((if_pos c3).trans ((if_pos c5).trans (rfl)))
        rw [e9]
        exact sp_zret C hAe hP hK hD hS (Or.inr rfl) dX0_bounds_79
      · refine lv_iconst (v := 0) hx hb dX0_bounds_33 (by decide) ?_
        have e9 : f_X0_bounds sg x1 x2 x3 x4 x5 p1 p2 p3 p4 = (sg, 0) := (if_neg c2).trans ((if_pos c3).trans ((if_neg c5).trans (rfl)))
        rw [e9]
        exact sp_zret C hAe hP hK hD hS (Or.inl rfl) dX0_bounds_34
    · refine lv_lload_n hx hb dX0_bounds_14 rfl (lv_at hl 2 rfl) ?_
      refine lv_lload hx hb dX0_bounds_15 (lv_at hl 3 rfl) ?_
      refine W.lcmp hx hb dX0_bounds_17 ?_
      refine lv_if_le (tgt := 35) hx hb dX0_bounds_18 (by decide) (fun c8 => ?_) (fun c8 => ?_)
      · refine lv_aload_n hx hb dX0_bounds_35 rfl (lv_at hl 0 rfl) ?_
        refine va_get (D := D) (ci := 0) (v := .ref ha) (C := RX0) (T := TX0) (N := 3) hx hb hts hi0 hown hK hP 0 rfl rfl 0 (by decide) hk0 (fun _ h9 => h9) rfl dX0_bounds_36 ?_
        refine lv_iload_n hx hb dX0_bounds_39 rfl (lv_at hl 1 rfl) ?_
        refine va_aldq (C := RX1) hx hb hK hP 1 0 rfl rfl (nb_in c2) dX0_bounds_40 ?_
        refine W.eq (g2 := F0 m 41 ls [.ref (ad p1.toNatClampNeg)]) rfl ?_
        refine lv_astore (lv' := [(7, .ref (ad p1.toNatClampNeg)), (0, .ref h0), (1, .int p1), (2, .long p2), (4, .long p3), (6, .int p4)]) hx hb dX0_bounds_41 hl (by decide) rfl (fun ls hl => ?_)
        refine lv_aload hx hb dX0_bounds_43 (lv_at hl 0 rfl) ?_
        refine sp_callv (sp_runV (As := []) (rest := []) C (c_X1_becomeAny l D (ad p1.toNatClampNeg) (sg p1.toNatClampNeg)) (cwV 0 hts (gV wG_c wm_345 wm_244 wm_245 wm_31 wm_242) rfl rfl rfl (by decide +kernel) ⟨Nat.le_of_ble_eq_true rfl, Nat.le_of_ble_eq_true rfl⟩) hK hP hD [9 + p1.toNatClampNeg] rfl (sp_cc (np_at rfl (nb_lt c2)) sp_c0) [] rfl 0 1 rfl rfl rfl rfl hl.1 rfl (Nat.le_of_ble_eq_true rfl) dX0_bounds_45 ⟨Nat.le_of_ble_eq_true rfl, Nat.le_of_ble_eq_true rfl⟩) hP hD hS hA [9 + p1.toNatClampNeg] (sp_cc (np_at rfl (nb_lt c2)) sp_c0) (sp_fc sp_f0) (fun H locs hP hD hS => ?_)
        have hP : va_P D vwCl ((([(h0, .inr (0, [.ref ha, .ref hc, .ref hk])), (ha, .inl (cA, 16, .inr (.inr (.inr (.inr (fun k => some (ad k))))))), (hc, .inr (2, [.ref h1, .ref h2, .ref h3])), (h1, .inr (1, nm_fs x1)), (h2, .inr (1, nm_fs x2)), (h3, .inr (1, nm_fs x3)), (hk, .inr (3, [.ref h4, .ref h5])), (h4, .inr (1, nm_fs x4)), (h5, .inr (1, nm_fs x5))] ++ np_pool 1 ad sg) : va_W).set (9 + p1.toNatClampNeg) ((ad p1.toNatClampNeg), .inr (1, nm_fs (f_X1_becomeAny (sg p1.toNatClampNeg))))) H := hP
        have hD : va_D A ((([(h0, .inr (0, [.ref ha, .ref hc, .ref hk])), (ha, .inl (cA, 16, .inr (.inr (.inr (.inr (fun k => some (ad k))))))), (hc, .inr (2, [.ref h1, .ref h2, .ref h3])), (h1, .inr (1, nm_fs x1)), (h2, .inr (1, nm_fs x2)), (h3, .inr (1, nm_fs x3)), (hk, .inr (3, [.ref h4, .ref h5])), (h4, .inr (1, nm_fs x4)), (h5, .inr (1, nm_fs x5))] ++ np_pool 1 ad sg) : va_W).set (9 + p1.toNatClampNeg) ((ad p1.toNatClampNeg), .inr (1, nm_fs (f_X1_becomeAny (sg p1.toNatClampNeg))))) := hD
        rw [np_set9 (nb_lt c2)] at hP hD
        have hP : va_P D vwCl ([(h0, .inr (0, [.ref ha, .ref hc, .ref hk])), (ha, .inl (cA, 16, .inr (.inr (.inr (.inr (fun k => some (ad k))))))), (hc, .inr (2, [.ref h1, .ref h2, .ref h3])), (h1, .inr (1, nm_fs x1)), (h2, .inr (1, nm_fs x2)), (h3, .inr (1, nm_fs x3)), (hk, .inr (3, [.ref h4, .ref h5])), (h4, .inr (1, nm_fs x4)), (h5, .inr (1, nm_fs x5))] ++ np_pool 1 ad (va_up sg p1.toNatClampNeg (f_X1_becomeAny (sg p1.toNatClampNeg)))) H := hP
        have hD : va_D A ([(h0, .inr (0, [.ref ha, .ref hc, .ref hk])), (ha, .inl (cA, 16, .inr (.inr (.inr (.inr (fun k => some (ad k))))))), (hc, .inr (2, [.ref h1, .ref h2, .ref h3])), (h1, .inr (1, nm_fs x1)), (h2, .inr (1, nm_fs x2)), (h3, .inr (1, nm_fs x3)), (hk, .inr (3, [.ref h4, .ref h5])), (h4, .inr (1, nm_fs x4)), (h5, .inr (1, nm_fs x5))] ++ np_pool 1 ad (va_up sg p1.toNatClampNeg (f_X1_becomeAny (sg p1.toNatClampNeg)))) := hD
        refine lv_iload hx hb dX0_bounds_48 (lv_at hl 5 rfl) ?_
        refine lv_if_eq (tgt := 64) hx hb dX0_bounds_50 (by decide) (fun h9 => absurd h9 c3) (fun _ => ?_)
        refine lv_aload hx hb dX0_bounds_53 (lv_at hl 0 rfl) ?_
        refine lv_lload_n hx hb dX0_bounds_55 rfl (lv_at hl 3 rfl) ?_
        refine lv_lload hx hb dX0_bounds_56 (lv_at hl 4 rfl) ?_
        refine sp_callv (sp_runV (As := [.long p2, .long p3]) (rest := []) C (c_X1_setSigned l D (ad p1.toNatClampNeg) ((va_up sg p1.toNatClampNeg (f_X1_becomeAny (sg p1.toNatClampNeg))) p1.toNatClampNeg) p2 p3) (cwV 2 hts (gV wG_c wm_350 wm_38 wm_39 wm_31 wm_36) rfl rfl rfl (by decide +kernel) ⟨Nat.le_of_ble_eq_true rfl, Nat.le_of_ble_eq_true rfl⟩) hK hP hD [9 + p1.toNatClampNeg] rfl (sp_cc (np_at rfl (nb_lt c2)) sp_c0) [] rfl 0 1 rfl rfl rfl rfl hl.1 rfl (Nat.le_of_ble_eq_true rfl) dX0_bounds_58 ⟨Nat.le_of_ble_eq_true rfl, Nat.le_of_ble_eq_true rfl⟩) hP hD hS hA [9 + p1.toNatClampNeg] (sp_cc (np_at rfl (nb_lt c2)) sp_c0) (sp_fc sp_f0) (fun H locs hP hD hS => ?_)
        have hP : va_P D vwCl ((([(h0, .inr (0, [.ref ha, .ref hc, .ref hk])), (ha, .inl (cA, 16, .inr (.inr (.inr (.inr (fun k => some (ad k))))))), (hc, .inr (2, [.ref h1, .ref h2, .ref h3])), (h1, .inr (1, nm_fs x1)), (h2, .inr (1, nm_fs x2)), (h3, .inr (1, nm_fs x3)), (hk, .inr (3, [.ref h4, .ref h5])), (h4, .inr (1, nm_fs x4)), (h5, .inr (1, nm_fs x5))] ++ np_pool 1 ad (va_up sg p1.toNatClampNeg (f_X1_becomeAny (sg p1.toNatClampNeg)))) : va_W).set (9 + p1.toNatClampNeg) ((ad p1.toNatClampNeg), .inr (1, nm_fs (f_X1_setSigned ((va_up sg p1.toNatClampNeg (f_X1_becomeAny (sg p1.toNatClampNeg))) p1.toNatClampNeg) p2 p3)))) H := hP
        have hD : va_D A ((([(h0, .inr (0, [.ref ha, .ref hc, .ref hk])), (ha, .inl (cA, 16, .inr (.inr (.inr (.inr (fun k => some (ad k))))))), (hc, .inr (2, [.ref h1, .ref h2, .ref h3])), (h1, .inr (1, nm_fs x1)), (h2, .inr (1, nm_fs x2)), (h3, .inr (1, nm_fs x3)), (hk, .inr (3, [.ref h4, .ref h5])), (h4, .inr (1, nm_fs x4)), (h5, .inr (1, nm_fs x5))] ++ np_pool 1 ad (va_up sg p1.toNatClampNeg (f_X1_becomeAny (sg p1.toNatClampNeg)))) : va_W).set (9 + p1.toNatClampNeg) ((ad p1.toNatClampNeg), .inr (1, nm_fs (f_X1_setSigned ((va_up sg p1.toNatClampNeg (f_X1_becomeAny (sg p1.toNatClampNeg))) p1.toNatClampNeg) p2 p3)))) := hD
        rw [np_set9 (nb_lt c2)] at hP hD
        have hP : va_P D vwCl ([(h0, .inr (0, [.ref ha, .ref hc, .ref hk])), (ha, .inl (cA, 16, .inr (.inr (.inr (.inr (fun k => some (ad k))))))), (hc, .inr (2, [.ref h1, .ref h2, .ref h3])), (h1, .inr (1, nm_fs x1)), (h2, .inr (1, nm_fs x2)), (h3, .inr (1, nm_fs x3)), (hk, .inr (3, [.ref h4, .ref h5])), (h4, .inr (1, nm_fs x4)), (h5, .inr (1, nm_fs x5))] ++ np_pool 1 ad (va_up (va_up sg p1.toNatClampNeg (f_X1_becomeAny (sg p1.toNatClampNeg))) p1.toNatClampNeg (f_X1_setSigned ((va_up sg p1.toNatClampNeg (f_X1_becomeAny (sg p1.toNatClampNeg))) p1.toNatClampNeg) p2 p3))) H := hP
        have hD : va_D A ([(h0, .inr (0, [.ref ha, .ref hc, .ref hk])), (ha, .inl (cA, 16, .inr (.inr (.inr (.inr (fun k => some (ad k))))))), (hc, .inr (2, [.ref h1, .ref h2, .ref h3])), (h1, .inr (1, nm_fs x1)), (h2, .inr (1, nm_fs x2)), (h3, .inr (1, nm_fs x3)), (hk, .inr (3, [.ref h4, .ref h5])), (h4, .inr (1, nm_fs x4)), (h5, .inr (1, nm_fs x5))] ++ np_pool 1 ad (va_up (va_up sg p1.toNatClampNeg (f_X1_becomeAny (sg p1.toNatClampNeg))) p1.toNatClampNeg (f_X1_setSigned ((va_up sg p1.toNatClampNeg (f_X1_becomeAny (sg p1.toNatClampNeg))) p1.toNatClampNeg) p2 p3))) := hD
        refine lv_goto (tgt := 72) hx hb dX0_bounds_61 (by decide) ?_
        refine lv_aload hx hb dX0_bounds_72 (lv_at hl 0 rfl) ?_
        refine sp_callz (sp_runV (As := []) (rest := []) C (c_X1_settle l D (ad p1.toNatClampNeg) ((va_up (va_up sg p1.toNatClampNeg (f_X1_becomeAny (sg p1.toNatClampNeg))) p1.toNatClampNeg (f_X1_setSigned ((va_up sg p1.toNatClampNeg (f_X1_becomeAny (sg p1.toNatClampNeg))) p1.toNatClampNeg) p2 p3)) p1.toNatClampNeg)) (cwV 0 hts (gV wG_c wm_347 wm_100 wm_101 wm_31 wm_98) rfl rfl rfl (by decide +kernel) ⟨Nat.le_of_ble_eq_true rfl, Nat.le_of_ble_eq_true rfl⟩) hK hP hD [9 + p1.toNatClampNeg] rfl (sp_cc (np_at rfl (nb_lt c2)) sp_c0) [] rfl 0 1 rfl rfl rfl rfl hl.1 rfl (Nat.le_of_ble_eq_true rfl) dX0_bounds_74 ⟨Nat.le_of_ble_eq_true rfl, Nat.le_of_ble_eq_true rfl⟩) hP hD hS hA [9 + p1.toNatClampNeg] (sp_cc (np_at rfl (nb_lt c2)) sp_c0) (sp_fc sp_f0) (fun H locs z10 hP hD hS => ?_)
        have hP : va_P D vwCl ((([(h0, .inr (0, [.ref ha, .ref hc, .ref hk])), (ha, .inl (cA, 16, .inr (.inr (.inr (.inr (fun k => some (ad k))))))), (hc, .inr (2, [.ref h1, .ref h2, .ref h3])), (h1, .inr (1, nm_fs x1)), (h2, .inr (1, nm_fs x2)), (h3, .inr (1, nm_fs x3)), (hk, .inr (3, [.ref h4, .ref h5])), (h4, .inr (1, nm_fs x4)), (h5, .inr (1, nm_fs x5))] ++ np_pool 1 ad (va_up (va_up sg p1.toNatClampNeg (f_X1_becomeAny (sg p1.toNatClampNeg))) p1.toNatClampNeg (f_X1_setSigned ((va_up sg p1.toNatClampNeg (f_X1_becomeAny (sg p1.toNatClampNeg))) p1.toNatClampNeg) p2 p3))) : va_W).set (9 + p1.toNatClampNeg) ((ad p1.toNatClampNeg), .inr (1, nm_fs ((f_X1_settle ((va_up (va_up sg p1.toNatClampNeg (f_X1_becomeAny (sg p1.toNatClampNeg))) p1.toNatClampNeg (f_X1_setSigned ((va_up sg p1.toNatClampNeg (f_X1_becomeAny (sg p1.toNatClampNeg))) p1.toNatClampNeg) p2 p3)) p1.toNatClampNeg)).1)))) H := hP
        have hD : va_D A ((([(h0, .inr (0, [.ref ha, .ref hc, .ref hk])), (ha, .inl (cA, 16, .inr (.inr (.inr (.inr (fun k => some (ad k))))))), (hc, .inr (2, [.ref h1, .ref h2, .ref h3])), (h1, .inr (1, nm_fs x1)), (h2, .inr (1, nm_fs x2)), (h3, .inr (1, nm_fs x3)), (hk, .inr (3, [.ref h4, .ref h5])), (h4, .inr (1, nm_fs x4)), (h5, .inr (1, nm_fs x5))] ++ np_pool 1 ad (va_up (va_up sg p1.toNatClampNeg (f_X1_becomeAny (sg p1.toNatClampNeg))) p1.toNatClampNeg (f_X1_setSigned ((va_up sg p1.toNatClampNeg (f_X1_becomeAny (sg p1.toNatClampNeg))) p1.toNatClampNeg) p2 p3))) : va_W).set (9 + p1.toNatClampNeg) ((ad p1.toNatClampNeg), .inr (1, nm_fs ((f_X1_settle ((va_up (va_up sg p1.toNatClampNeg (f_X1_becomeAny (sg p1.toNatClampNeg))) p1.toNatClampNeg (f_X1_setSigned ((va_up sg p1.toNatClampNeg (f_X1_becomeAny (sg p1.toNatClampNeg))) p1.toNatClampNeg) p2 p3)) p1.toNatClampNeg)).1)))) := hD
        rw [np_set9 (nb_lt c2)] at hP hD
        have hP : va_P D vwCl ([(h0, .inr (0, [.ref ha, .ref hc, .ref hk])), (ha, .inl (cA, 16, .inr (.inr (.inr (.inr (fun k => some (ad k))))))), (hc, .inr (2, [.ref h1, .ref h2, .ref h3])), (h1, .inr (1, nm_fs x1)), (h2, .inr (1, nm_fs x2)), (h3, .inr (1, nm_fs x3)), (hk, .inr (3, [.ref h4, .ref h5])), (h4, .inr (1, nm_fs x4)), (h5, .inr (1, nm_fs x5))] ++ np_pool 1 ad (va_up (va_up (va_up sg p1.toNatClampNeg (f_X1_becomeAny (sg p1.toNatClampNeg))) p1.toNatClampNeg (f_X1_setSigned ((va_up sg p1.toNatClampNeg (f_X1_becomeAny (sg p1.toNatClampNeg))) p1.toNatClampNeg) p2 p3)) p1.toNatClampNeg ((f_X1_settle ((va_up (va_up sg p1.toNatClampNeg (f_X1_becomeAny (sg p1.toNatClampNeg))) p1.toNatClampNeg (f_X1_setSigned ((va_up sg p1.toNatClampNeg (f_X1_becomeAny (sg p1.toNatClampNeg))) p1.toNatClampNeg) p2 p3)) p1.toNatClampNeg)).1))) H := hP
        have hD : va_D A ([(h0, .inr (0, [.ref ha, .ref hc, .ref hk])), (ha, .inl (cA, 16, .inr (.inr (.inr (.inr (fun k => some (ad k))))))), (hc, .inr (2, [.ref h1, .ref h2, .ref h3])), (h1, .inr (1, nm_fs x1)), (h2, .inr (1, nm_fs x2)), (h3, .inr (1, nm_fs x3)), (hk, .inr (3, [.ref h4, .ref h5])), (h4, .inr (1, nm_fs x4)), (h5, .inr (1, nm_fs x5))] ++ np_pool 1 ad (va_up (va_up (va_up sg p1.toNatClampNeg (f_X1_becomeAny (sg p1.toNatClampNeg))) p1.toNatClampNeg (f_X1_setSigned ((va_up sg p1.toNatClampNeg (f_X1_becomeAny (sg p1.toNatClampNeg))) p1.toNatClampNeg) p2 p3)) p1.toNatClampNeg ((f_X1_settle ((va_up (va_up sg p1.toNatClampNeg (f_X1_becomeAny (sg p1.toNatClampNeg))) p1.toNatClampNeg (f_X1_setSigned ((va_up sg p1.toNatClampNeg (f_X1_becomeAny (sg p1.toNatClampNeg))) p1.toNatClampNeg) p2 p3)) p1.toNatClampNeg)).1))) := hD
        refine lv_pop hx hb dX0_bounds_77 rfl ?_
        refine lv_iconst (v := 1) hx hb dX0_bounds_78 (by decide) ?_
        have e9 : f_X0_bounds sg x1 x2 x3 x4 x5 p1 p2 p3 p4 = ((va_up (va_up (va_up sg p1.toNatClampNeg (f_X1_becomeAny (sg p1.toNatClampNeg))) p1.toNatClampNeg (f_X1_setSigned ((va_up sg p1.toNatClampNeg (f_X1_becomeAny (sg p1.toNatClampNeg))) p1.toNatClampNeg) p2 p3)) p1.toNatClampNeg ((f_X1_settle ((va_up (va_up sg p1.toNatClampNeg (f_X1_becomeAny (sg p1.toNatClampNeg))) p1.toNatClampNeg (f_X1_setSigned ((va_up sg p1.toNatClampNeg (f_X1_becomeAny (sg p1.toNatClampNeg))) p1.toNatClampNeg) p2 p3)) p1.toNatClampNeg)).1)), 1) := (if_neg c2).trans ((if_neg c3).trans ((if_pos c8).trans (rfl)))
        rw [e9]
        exact sp_zret C hAe hP hK hD hS (Or.inr rfl) dX0_bounds_79
      · refine lv_goto (tgt := 33) hx hb dX0_bounds_21 (by decide) ?_
        refine lv_iconst (v := 0) hx hb dX0_bounds_33 (by decide) ?_
        have e9 : f_X0_bounds sg x1 x2 x3 x4 x5 p1 p2 p3 p4 = (sg, 0) := (if_neg c2).trans ((if_neg c3).trans ((if_neg c8).trans (rfl)))
        rw [e9]
        exact sp_zret C hAe hP hK hD hS (Or.inl rfl) dX0_bounds_34
  · refine lv_iconst (v := 0) hx hb dX0_bounds_7 (by decide) ?_
    have e9 : f_X0_bounds sg x1 x2 x3 x4 x5 p1 p2 p3 p4 = (sg, 0) := (if_pos c2).trans (rfl)
    rw [e9]
    exact sp_zret C hAe hP hK hD hS (Or.inl rfl) dX0_bounds_8
def f_X0_operate (sg : Nat → Nm) (x1 : Nm) (x2 : Nm) (x3 : Nm) (x4 : Nm) (x5 : Nm) (p1 : Int32) (p2 : Int32) (p3 : Int32) (p4 : Int32) (p5 : Int32) : (Nat → Nm) × Nm × Nm × Nm × Int32 :=
  if (f_X0_isNumber p1) = 0 then (sg, x1, x2, x3, 0)
  else if (f_X0_isNumber p3) = 0 then (sg, x1, x2, x3, 0)
  else if (f_X0_isNumber p4) = 0 then (sg, x1, x2, x3, 0)
  else if p2 < 0 then (sg, x1, x2, x3, 0)
  else if p2 ≤ 14 then ((va_up sg p1.toNatClampNeg (f_X1_become (sg p1.toNatClampNeg) ((f_X2_compute x1 x2 x3 (sg p3.toNatClampNeg) (sg p4.toNatClampNeg) p2 p5).2.2))), ((f_X2_compute x1 x2 x3 (sg p3.toNatClampNeg) (sg p4.toNatClampNeg) p2 p5).1), ((f_X2_compute x1 x2 x3 (sg p3.toNatClampNeg) (sg p4.toNatClampNeg) p2 p5).2.1), ((f_X2_compute x1 x2 x3 (sg p3.toNatClampNeg) (sg p4.toNatClampNeg) p2 p5).2.2), 1)
  else (sg, x1, x2, x3, 0)
set_option maxHeartbeats 4000000 in
set_option maxRecDepth 100000 in
theorem c_X0_operate (l : Launch) (D : va_G) (h0 : Nat) (ha : Nat) (hc : Nat) (h1 : Nat) (h2 : Nat) (h3 : Nat) (hk : Nat) (h4 : Nat) (h5 : Nat) (cA : ClassId) (ad : Nat → Nat) (sg : Nat → Nm) (x1 : Nm) (x2 : Nm) (x3 : Nm) (x4 : Nm) (x5 : Nm) (p1 : Int32) (p2 : Int32) (p3 : Int32) (p4 : Int32) (p5 : Int32) : sp_M l yX0_operate wsX0_operate ({ frames := 6, cells := 0, slots := 0, locals := 134 }) D [.ref h0, .int p1, .int p2, .int p3, .int p4, .int p5] ([(h0, .inr (0, [.ref ha, .ref hc, .ref hk])), (ha, .inl (cA, 16, .inr (.inr (.inr (.inr (fun k => some (ad k))))))), (hc, .inr (2, [.ref h1, .ref h2, .ref h3])), (h1, .inr (1, nm_fs x1)), (h2, .inr (1, nm_fs x2)), (h3, .inr (1, nm_fs x3)), (hk, .inr (3, [.ref h4, .ref h5])), (h4, .inr (1, nm_fs x4)), (h5, .inr (1, nm_fs x5))] ++ np_pool 1 ad sg) [(cA, .object RX1)] (sp_Qz D ([(h0, .inr (0, [.ref ha, .ref hc, .ref hk])), (ha, .inl (cA, 16, .inr (.inr (.inr (.inr (fun k => some (ad k))))))), (hc, .inr (2, [.ref h1, .ref h2, .ref h3])), (h1, .inr (1, nm_fs x1)), (h2, .inr (1, nm_fs x2)), (h3, .inr (1, nm_fs x3)), (hk, .inr (3, [.ref h4, .ref h5])), (h4, .inr (1, nm_fs x4)), (h5, .inr (1, nm_fs x5))] ++ np_pool 1 ad sg) ([(h0, .inr (0, [.ref ha, .ref hc, .ref hk])), (ha, .inl (cA, 16, .inr (.inr (.inr (.inr (fun k => some (ad k))))))), (hc, .inr (2, [.ref h1, .ref h2, .ref h3])), (h1, .inr (1, nm_fs ((f_X0_operate sg x1 x2 x3 x4 x5 p1 p2 p3 p4 p5).2.1))), (h2, .inr (1, nm_fs ((f_X0_operate sg x1 x2 x3 x4 x5 p1 p2 p3 p4 p5).2.2.1))), (h3, .inr (1, nm_fs ((f_X0_operate sg x1 x2 x3 x4 x5 p1 p2 p3 p4 p5).2.2.2.1))), (hk, .inr (3, [.ref h4, .ref h5])), (h4, .inr (1, nm_fs x4)), (h5, .inr (1, nm_fs x5))] ++ np_pool 1 ad ((f_X0_operate sg x1 x2 x3 x4 x5 p1 p2 p3 p4 p5).1)) [(cA, .object RX1)] ((f_X0_operate sg x1 x2 x3 x4 x5 p1 p2 p3 p4 p5).2.2.2.2)) := by
  refine sp_ofW (cc := cX0_operate) (nL := 6) (ret := (some .boolean)) (own := RX0) (by decide) rfl rfl (Nat.le_of_ble_eq_true rfl) ?_
  intro p e s m below meth c A ls hAe hnm C hA hP hK hD hS hl
  have hx := C.1
  have hb := C.2.1
  have hown := C.2.2.2.2.1
  have hts := C.2.2.2.2.2.1
  have hl : lv_has ls 6 [(0, .ref h0), (1, .int p1), (2, .int p2), (3, .int p3), (4, .int p4), (5, .int p5)] := hl
  have hi0 : ∀ w ∈ u_ws RX0 TX0 3, w ∈ wsX0_operate := fun w h => List.mem_cons_of_mem _ (inX0 w h)
  have hk0 := hts _ (List.mem_cons_of_mem _ wm_119)
  have hk1 := hts _ (List.mem_cons_of_mem _ wm_124)
  refine lv_iload_n hx hb dX0_operate_0 rfl (lv_at hl 1 rfl) ?_
  refine sp_callz (sp_runS (As := [.int p1]) (rest := []) C (c_X0_isNumber l D p1) (va_cwS 1 hts (gS wG_c wm_342 wm_343 wm_4 wm_341) rfl rfl rfl (by decide +kernel) ⟨Nat.le_of_ble_eq_true rfl, Nat.le_of_ble_eq_true rfl⟩) hK hP hD [] (by decide) rfl [] rfl rfl hl.1 rfl (Nat.le_of_ble_eq_true rfl) dX0_operate_1 ⟨Nat.le_of_ble_eq_true rfl, Nat.le_of_ble_eq_true rfl⟩) hP hD hS hA [] rfl sp_f0 (fun H locs z1 hP hD hS => ?_)
  have hP : va_P D vwCl ([(h0, .inr (0, [.ref ha, .ref hc, .ref hk])), (ha, .inl (cA, 16, .inr (.inr (.inr (.inr (fun k => some (ad k))))))), (hc, .inr (2, [.ref h1, .ref h2, .ref h3])), (h1, .inr (1, nm_fs x1)), (h2, .inr (1, nm_fs x2)), (h3, .inr (1, nm_fs x3)), (hk, .inr (3, [.ref h4, .ref h5])), (h4, .inr (1, nm_fs x4)), (h5, .inr (1, nm_fs x5))] ++ np_pool 1 ad sg) H := hP
  have hD : va_D A ([(h0, .inr (0, [.ref ha, .ref hc, .ref hk])), (ha, .inl (cA, 16, .inr (.inr (.inr (.inr (fun k => some (ad k))))))), (hc, .inr (2, [.ref h1, .ref h2, .ref h3])), (h1, .inr (1, nm_fs x1)), (h2, .inr (1, nm_fs x2)), (h3, .inr (1, nm_fs x3)), (hk, .inr (3, [.ref h4, .ref h5])), (h4, .inr (1, nm_fs x4)), (h5, .inr (1, nm_fs x5))] ++ np_pool 1 ad sg) := hD
  refine lv_if_eq (tgt := 22) hx hb dX0_operate_4 (by decide) (fun c2 => ?_) (fun c2 => ?_)
  · refine lv_iconst (v := 0) hx hb dX0_operate_22 (by decide) ?_
    have e9 : f_X0_operate sg x1 x2 x3 x4 x5 p1 p2 p3 p4 p5 = (sg, x1, x2, x3, 0) := (if_pos c2).trans (rfl)
    rw [e9]
    exact sp_zret C hAe hP hK hD hS (Or.inl rfl) dX0_operate_23
  · refine lv_iload_n hx hb dX0_operate_7 rfl (lv_at hl 3 rfl) ?_
    refine sp_callz (sp_runS (As := [.int p3]) (rest := []) C (c_X0_isNumber l D p3) (va_cwS 1 hts (gS wG_c wm_342 wm_343 wm_4 wm_341) rfl rfl rfl (by decide +kernel) ⟨Nat.le_of_ble_eq_true rfl, Nat.le_of_ble_eq_true rfl⟩) hK hP hD [] (by decide) rfl [] rfl rfl hl.1 rfl (Nat.le_of_ble_eq_true rfl) dX0_operate_8 ⟨Nat.le_of_ble_eq_true rfl, Nat.le_of_ble_eq_true rfl⟩) hP hD hS hA [] rfl sp_f0 (fun H locs z3 hP hD hS => ?_)
    have hP : va_P D vwCl ([(h0, .inr (0, [.ref ha, .ref hc, .ref hk])), (ha, .inl (cA, 16, .inr (.inr (.inr (.inr (fun k => some (ad k))))))), (hc, .inr (2, [.ref h1, .ref h2, .ref h3])), (h1, .inr (1, nm_fs x1)), (h2, .inr (1, nm_fs x2)), (h3, .inr (1, nm_fs x3)), (hk, .inr (3, [.ref h4, .ref h5])), (h4, .inr (1, nm_fs x4)), (h5, .inr (1, nm_fs x5))] ++ np_pool 1 ad sg) H := hP
    have hD : va_D A ([(h0, .inr (0, [.ref ha, .ref hc, .ref hk])), (ha, .inl (cA, 16, .inr (.inr (.inr (.inr (fun k => some (ad k))))))), (hc, .inr (2, [.ref h1, .ref h2, .ref h3])), (h1, .inr (1, nm_fs x1)), (h2, .inr (1, nm_fs x2)), (h3, .inr (1, nm_fs x3)), (hk, .inr (3, [.ref h4, .ref h5])), (h4, .inr (1, nm_fs x4)), (h5, .inr (1, nm_fs x5))] ++ np_pool 1 ad sg) := hD
    refine lv_if_eq (tgt := 22) hx hb dX0_operate_11 (by decide) (fun c4 => ?_) (fun c4 => ?_)
    · refine lv_iconst (v := 0) hx hb dX0_operate_22 (by decide) ?_
      have e9 : f_X0_operate sg x1 x2 x3 x4 x5 p1 p2 p3 p4 p5 = (sg, x1, x2, x3, 0) := (if_neg c2).trans ((if_pos c4).trans (rfl))
      rw [e9]
      exact sp_zret C hAe hP hK hD hS (Or.inl rfl) dX0_operate_23
    · refine lv_iload hx hb dX0_operate_14 (lv_at hl 4 rfl) ?_
      refine sp_callz (sp_runS (As := [.int p4]) (rest := []) C (c_X0_isNumber l D p4) (va_cwS 1 hts (gS wG_c wm_342 wm_343 wm_4 wm_341) rfl rfl rfl (by decide +kernel) ⟨Nat.le_of_ble_eq_true rfl, Nat.le_of_ble_eq_true rfl⟩) hK hP hD [] (by decide) rfl [] rfl rfl hl.1 rfl (Nat.le_of_ble_eq_true rfl) dX0_operate_16 ⟨Nat.le_of_ble_eq_true rfl, Nat.le_of_ble_eq_true rfl⟩) hP hD hS hA [] rfl sp_f0 (fun H locs z5 hP hD hS => ?_)
      have hP : va_P D vwCl ([(h0, .inr (0, [.ref ha, .ref hc, .ref hk])), (ha, .inl (cA, 16, .inr (.inr (.inr (.inr (fun k => some (ad k))))))), (hc, .inr (2, [.ref h1, .ref h2, .ref h3])), (h1, .inr (1, nm_fs x1)), (h2, .inr (1, nm_fs x2)), (h3, .inr (1, nm_fs x3)), (hk, .inr (3, [.ref h4, .ref h5])), (h4, .inr (1, nm_fs x4)), (h5, .inr (1, nm_fs x5))] ++ np_pool 1 ad sg) H := hP
      have hD : va_D A ([(h0, .inr (0, [.ref ha, .ref hc, .ref hk])), (ha, .inl (cA, 16, .inr (.inr (.inr (.inr (fun k => some (ad k))))))), (hc, .inr (2, [.ref h1, .ref h2, .ref h3])), (h1, .inr (1, nm_fs x1)), (h2, .inr (1, nm_fs x2)), (h3, .inr (1, nm_fs x3)), (hk, .inr (3, [.ref h4, .ref h5])), (h4, .inr (1, nm_fs x4)), (h5, .inr (1, nm_fs x5))] ++ np_pool 1 ad sg) := hD
      refine lv_if_ne (tgt := 24) hx hb dX0_operate_19 (by decide) (fun c6 => ?_) (fun c6 => ?_)
      · refine lv_iload_n hx hb dX0_operate_24 rfl (lv_at hl 2 rfl) ?_
        refine lv_if_lt (tgt := 34) hx hb dX0_operate_25 (by decide) (fun c7 => ?_) (fun c7 => ?_)
        · refine lv_iconst (v := 0) hx hb dX0_operate_34 (by decide) ?_
          have e9 : f_X0_operate sg x1 x2 x3 x4 x5 p1 p2 p3 p4 p5 = (sg, x1, x2, x3, 0) := (if_neg c2).trans ((if_neg c4).trans ((if_neg c6).trans ((if_pos c7).trans (rfl))))
          rw [e9]
          exact sp_zret C hAe hP hK hD hS (Or.inl rfl) dX0_operate_35
        · refine lv_iload_n hx hb dX0_operate_28 rfl (lv_at hl 2 rfl) ?_
          refine lv_bipush (v := 14) hx hb dX0_operate_29 (by decide) ?_
          refine lv_icmp_le (tgt := 36) hx hb dX0_operate_31 (by decide) (fun c8 => ?_) (fun c8 => ?_)
          · refine lv_aload_n hx hb dX0_operate_36 rfl (lv_at hl 0 rfl) ?_
            refine va_get (D := D) (ci := 0) (v := .ref ha) (C := RX0) (T := TX0) (N := 3) hx hb hts hi0 hown hK hP 0 rfl rfl 0 (by decide) hk0 (fun _ h9 => h9) rfl dX0_operate_37 ?_
            refine lv_iload_n hx hb dX0_operate_40 rfl (lv_at hl 1 rfl) ?_
            refine va_aldq (C := RX1) hx hb hK hP 1 0 rfl rfl (nb_in c2) dX0_operate_41 ?_
            refine W.eq (g2 := F0 m 42 ls [.ref (ad p1.toNatClampNeg)]) rfl ?_
            refine lv_aload_n hx hb dX0_operate_42 rfl (lv_at hl 0 rfl) ?_
            refine va_get (D := D) (ci := 0) (v := .ref hc) (C := RX0) (T := TX0) (N := 3) hx hb hts hi0 hown hK hP 0 rfl rfl 1 (by decide) hk1 (fun _ h9 => h9) rfl dX0_operate_43 ?_
            refine lv_iload_n hx hb dX0_operate_46 rfl (lv_at hl 2 rfl) ?_
            refine lv_aload_n hx hb dX0_operate_47 rfl (lv_at hl 0 rfl) ?_
            refine va_get (D := D) (ci := 0) (v := .ref ha) (C := RX0) (T := TX0) (N := 3) hx hb hts hi0 hown hK hP 0 rfl rfl 0 (by decide) hk0 (fun _ h9 => h9) rfl dX0_operate_48 ?_
            refine lv_iload_n hx hb dX0_operate_51 rfl (lv_at hl 3 rfl) ?_
            refine va_aldq (C := RX1) hx hb hK hP 1 0 rfl rfl (nb_in c4) dX0_operate_52 ?_
            refine W.eq (g2 := F0 m 53 ls [.ref (ad p3.toNatClampNeg), .int p2, .ref hc, .ref (ad p1.toNatClampNeg)]) rfl ?_
            refine lv_aload_n hx hb dX0_operate_53 rfl (lv_at hl 0 rfl) ?_
            refine va_get (D := D) (ci := 0) (v := .ref ha) (C := RX0) (T := TX0) (N := 3) hx hb hts hi0 hown hK hP 0 rfl rfl 0 (by decide) hk0 (fun _ h9 => h9) rfl dX0_operate_54 ?_
            refine lv_iload hx hb dX0_operate_57 (lv_at hl 4 rfl) ?_
            refine va_aldq (C := RX1) hx hb hK hP 1 0 rfl rfl (nb_in c6) dX0_operate_59 ?_
            refine W.eq (g2 := F0 m 60 ls [.ref (ad p4.toNatClampNeg), .ref (ad p3.toNatClampNeg), .int p2, .ref hc, .ref (ad p1.toNatClampNeg)]) rfl ?_
            refine lv_iload hx hb dX0_operate_60 (lv_at hl 5 rfl) ?_
            by_cases c9 : p3 = p4
            · subst c9
              refine sp_callr (sp_runV (As := [.int p2, .ref (ad p3.toNatClampNeg), .ref (ad p3.toNatClampNeg), .int p5]) (rest := [.ref (ad p1.toNatClampNeg)]) C (c_X2_compute_same l D hc h1 h2 h3 (ad p3.toNatClampNeg) x1 x2 x3 (sg p3.toNatClampNeg) p2 p5) (cwV 4 hts (gV wG_c wm_352 wm_353 wm_354 wm_122 wm_351) rfl rfl rfl (by decide +kernel) ⟨Nat.le_of_ble_eq_true rfl, Nat.le_of_ble_eq_true rfl⟩) hK hP hD [2, 3, 4, 5, 9 + p3.toNatClampNeg] (by have h9 := nb_lt c4; simp [va_nd]; try omega) (sp_cc rfl (sp_cc rfl (sp_cc rfl (sp_cc rfl (sp_cc (np_at rfl (nb_lt c4)) sp_c0))))) [] rfl 0 2 rfl rfl rfl rfl hl.1 rfl (Nat.le_of_ble_eq_true rfl) dX0_operate_62 ⟨Nat.le_of_ble_eq_true rfl, Nat.le_of_ble_eq_true rfl⟩) hP hD hS hA [2, 3, 4, 5, 9 + p3.toNatClampNeg] (sp_cc rfl (sp_cc rfl (sp_cc rfl (sp_cc rfl (sp_cc (np_at rfl (nb_lt c4)) sp_c0))))) (sp_fc (sp_fc (sp_fc (sp_fc (sp_fc sp_f0))))) (fun H locs hP hD hS => ?_)
              have hP : va_P D vwCl ((([(h0, .inr (0, [.ref ha, .ref hc, .ref hk])), (ha, .inl (cA, 16, .inr (.inr (.inr (.inr (fun k => some (ad k))))))), (hc, .inr (2, [.ref h1, .ref h2, .ref h3])), (h1, .inr (1, nm_fs ((f_X2_compute x1 x2 x3 (sg p3.toNatClampNeg) (sg p3.toNatClampNeg) p2 p5).1))), (h2, .inr (1, nm_fs ((f_X2_compute x1 x2 x3 (sg p3.toNatClampNeg) (sg p3.toNatClampNeg) p2 p5).2.1))), (h3, .inr (1, nm_fs ((f_X2_compute x1 x2 x3 (sg p3.toNatClampNeg) (sg p3.toNatClampNeg) p2 p5).2.2))), (hk, .inr (3, [.ref h4, .ref h5])), (h4, .inr (1, nm_fs x4)), (h5, .inr (1, nm_fs x5))] ++ np_pool 1 ad sg) : va_W).set (9 + p3.toNatClampNeg) ((ad p3.toNatClampNeg), .inr (1, nm_fs (sg p3.toNatClampNeg)))) H := hP
              have hD : va_D A ((([(h0, .inr (0, [.ref ha, .ref hc, .ref hk])), (ha, .inl (cA, 16, .inr (.inr (.inr (.inr (fun k => some (ad k))))))), (hc, .inr (2, [.ref h1, .ref h2, .ref h3])), (h1, .inr (1, nm_fs ((f_X2_compute x1 x2 x3 (sg p3.toNatClampNeg) (sg p3.toNatClampNeg) p2 p5).1))), (h2, .inr (1, nm_fs ((f_X2_compute x1 x2 x3 (sg p3.toNatClampNeg) (sg p3.toNatClampNeg) p2 p5).2.1))), (h3, .inr (1, nm_fs ((f_X2_compute x1 x2 x3 (sg p3.toNatClampNeg) (sg p3.toNatClampNeg) p2 p5).2.2))), (hk, .inr (3, [.ref h4, .ref h5])), (h4, .inr (1, nm_fs x4)), (h5, .inr (1, nm_fs x5))] ++ np_pool 1 ad sg) : va_W).set (9 + p3.toNatClampNeg) ((ad p3.toNatClampNeg), .inr (1, nm_fs (sg p3.toNatClampNeg)))) := hD
              rw [np_same9 (nb_lt c4)] at hP hD
              have hP : va_P D vwCl ([(h0, .inr (0, [.ref ha, .ref hc, .ref hk])), (ha, .inl (cA, 16, .inr (.inr (.inr (.inr (fun k => some (ad k))))))), (hc, .inr (2, [.ref h1, .ref h2, .ref h3])), (h1, .inr (1, nm_fs ((f_X2_compute x1 x2 x3 (sg p3.toNatClampNeg) (sg p3.toNatClampNeg) p2 p5).1))), (h2, .inr (1, nm_fs ((f_X2_compute x1 x2 x3 (sg p3.toNatClampNeg) (sg p3.toNatClampNeg) p2 p5).2.1))), (h3, .inr (1, nm_fs ((f_X2_compute x1 x2 x3 (sg p3.toNatClampNeg) (sg p3.toNatClampNeg) p2 p5).2.2))), (hk, .inr (3, [.ref h4, .ref h5])), (h4, .inr (1, nm_fs x4)), (h5, .inr (1, nm_fs x5))] ++ np_pool 1 ad sg) H := hP
              have hD : va_D A ([(h0, .inr (0, [.ref ha, .ref hc, .ref hk])), (ha, .inl (cA, 16, .inr (.inr (.inr (.inr (fun k => some (ad k))))))), (hc, .inr (2, [.ref h1, .ref h2, .ref h3])), (h1, .inr (1, nm_fs ((f_X2_compute x1 x2 x3 (sg p3.toNatClampNeg) (sg p3.toNatClampNeg) p2 p5).1))), (h2, .inr (1, nm_fs ((f_X2_compute x1 x2 x3 (sg p3.toNatClampNeg) (sg p3.toNatClampNeg) p2 p5).2.1))), (h3, .inr (1, nm_fs ((f_X2_compute x1 x2 x3 (sg p3.toNatClampNeg) (sg p3.toNatClampNeg) p2 p5).2.2))), (hk, .inr (3, [.ref h4, .ref h5])), (h4, .inr (1, nm_fs x4)), (h5, .inr (1, nm_fs x5))] ++ np_pool 1 ad sg) := hD
              refine sp_callv (sp_runV (As := [.ref h3]) (rest := []) C (c_X1_become l D (ad p1.toNatClampNeg) h3 (sg p1.toNatClampNeg) ((f_X2_compute x1 x2 x3 (sg p3.toNatClampNeg) (sg p3.toNatClampNeg) p2 p5).2.2)) (cwV 1 hts (gV wG_c wm_355 wm_167 wm_168 wm_31 wm_165) rfl rfl rfl (by decide +kernel) ⟨Nat.le_of_ble_eq_true rfl, Nat.le_of_ble_eq_true rfl⟩) hK hP hD [9 + p1.toNatClampNeg, 5] (by have h9 := nb_lt c2; simp [va_nd]; try omega) (sp_cc (np_at rfl (nb_lt c2)) (sp_cc rfl sp_c0)) [] rfl 0 1 rfl rfl rfl rfl hl.1 rfl (Nat.le_of_ble_eq_true rfl) dX0_operate_65 ⟨Nat.le_of_ble_eq_true rfl, Nat.le_of_ble_eq_true rfl⟩) hP hD hS hA [9 + p1.toNatClampNeg, 5] (sp_cc (np_at rfl (nb_lt c2)) (sp_cc rfl sp_c0)) (sp_fc (sp_fc sp_f0)) (fun H locs hP hD hS => ?_)
              have hP : va_P D vwCl (((([(h0, .inr (0, [.ref ha, .ref hc, .ref hk])), (ha, .inl (cA, 16, .inr (.inr (.inr (.inr (fun k => some (ad k))))))), (hc, .inr (2, [.ref h1, .ref h2, .ref h3])), (h1, .inr (1, nm_fs ((f_X2_compute x1 x2 x3 (sg p3.toNatClampNeg) (sg p3.toNatClampNeg) p2 p5).1))), (h2, .inr (1, nm_fs ((f_X2_compute x1 x2 x3 (sg p3.toNatClampNeg) (sg p3.toNatClampNeg) p2 p5).2.1))), (h3, .inr (1, nm_fs ((f_X2_compute x1 x2 x3 (sg p3.toNatClampNeg) (sg p3.toNatClampNeg) p2 p5).2.2))), (hk, .inr (3, [.ref h4, .ref h5])), (h4, .inr (1, nm_fs x4)), (h5, .inr (1, nm_fs x5))] ++ np_pool 1 ad sg) : va_W).set (9 + p1.toNatClampNeg) ((ad p1.toNatClampNeg), .inr (1, nm_fs (f_X1_become (sg p1.toNatClampNeg) ((f_X2_compute x1 x2 x3 (sg p3.toNatClampNeg) (sg p3.toNatClampNeg) p2 p5).2.2)))) : va_W).set 5 (h3, .inr (1, nm_fs ((f_X2_compute x1 x2 x3 (sg p3.toNatClampNeg) (sg p3.toNatClampNeg) p2 p5).2.2)))) H := hP
              have hD : va_D A (((([(h0, .inr (0, [.ref ha, .ref hc, .ref hk])), (ha, .inl (cA, 16, .inr (.inr (.inr (.inr (fun k => some (ad k))))))), (hc, .inr (2, [.ref h1, .ref h2, .ref h3])), (h1, .inr (1, nm_fs ((f_X2_compute x1 x2 x3 (sg p3.toNatClampNeg) (sg p3.toNatClampNeg) p2 p5).1))), (h2, .inr (1, nm_fs ((f_X2_compute x1 x2 x3 (sg p3.toNatClampNeg) (sg p3.toNatClampNeg) p2 p5).2.1))), (h3, .inr (1, nm_fs ((f_X2_compute x1 x2 x3 (sg p3.toNatClampNeg) (sg p3.toNatClampNeg) p2 p5).2.2))), (hk, .inr (3, [.ref h4, .ref h5])), (h4, .inr (1, nm_fs x4)), (h5, .inr (1, nm_fs x5))] ++ np_pool 1 ad sg) : va_W).set (9 + p1.toNatClampNeg) ((ad p1.toNatClampNeg), .inr (1, nm_fs (f_X1_become (sg p1.toNatClampNeg) ((f_X2_compute x1 x2 x3 (sg p3.toNatClampNeg) (sg p3.toNatClampNeg) p2 p5).2.2)))) : va_W).set 5 (h3, .inr (1, nm_fs ((f_X2_compute x1 x2 x3 (sg p3.toNatClampNeg) (sg p3.toNatClampNeg) p2 p5).2.2)))) := hD
              rw [np_set9 (nb_lt c2)] at hP hD
              have hP : va_P D vwCl ([(h0, .inr (0, [.ref ha, .ref hc, .ref hk])), (ha, .inl (cA, 16, .inr (.inr (.inr (.inr (fun k => some (ad k))))))), (hc, .inr (2, [.ref h1, .ref h2, .ref h3])), (h1, .inr (1, nm_fs ((f_X2_compute x1 x2 x3 (sg p3.toNatClampNeg) (sg p3.toNatClampNeg) p2 p5).1))), (h2, .inr (1, nm_fs ((f_X2_compute x1 x2 x3 (sg p3.toNatClampNeg) (sg p3.toNatClampNeg) p2 p5).2.1))), (h3, .inr (1, nm_fs ((f_X2_compute x1 x2 x3 (sg p3.toNatClampNeg) (sg p3.toNatClampNeg) p2 p5).2.2))), (hk, .inr (3, [.ref h4, .ref h5])), (h4, .inr (1, nm_fs x4)), (h5, .inr (1, nm_fs x5))] ++ np_pool 1 ad (va_up sg p1.toNatClampNeg (f_X1_become (sg p1.toNatClampNeg) ((f_X2_compute x1 x2 x3 (sg p3.toNatClampNeg) (sg p3.toNatClampNeg) p2 p5).2.2)))) H := hP
              have hD : va_D A ([(h0, .inr (0, [.ref ha, .ref hc, .ref hk])), (ha, .inl (cA, 16, .inr (.inr (.inr (.inr (fun k => some (ad k))))))), (hc, .inr (2, [.ref h1, .ref h2, .ref h3])), (h1, .inr (1, nm_fs ((f_X2_compute x1 x2 x3 (sg p3.toNatClampNeg) (sg p3.toNatClampNeg) p2 p5).1))), (h2, .inr (1, nm_fs ((f_X2_compute x1 x2 x3 (sg p3.toNatClampNeg) (sg p3.toNatClampNeg) p2 p5).2.1))), (h3, .inr (1, nm_fs ((f_X2_compute x1 x2 x3 (sg p3.toNatClampNeg) (sg p3.toNatClampNeg) p2 p5).2.2))), (hk, .inr (3, [.ref h4, .ref h5])), (h4, .inr (1, nm_fs x4)), (h5, .inr (1, nm_fs x5))] ++ np_pool 1 ad (va_up sg p1.toNatClampNeg (f_X1_become (sg p1.toNatClampNeg) ((f_X2_compute x1 x2 x3 (sg p3.toNatClampNeg) (sg p3.toNatClampNeg) p2 p5).2.2)))) := hD
              refine lv_iconst (v := 1) hx hb dX0_operate_68 (by decide) ?_
              have e9 : f_X0_operate sg x1 x2 x3 x4 x5 p1 p2 p3 p3 p5 = ((va_up sg p1.toNatClampNeg (f_X1_become (sg p1.toNatClampNeg) ((f_X2_compute x1 x2 x3 (sg p3.toNatClampNeg) (sg p3.toNatClampNeg) p2 p5).2.2))), ((f_X2_compute x1 x2 x3 (sg p3.toNatClampNeg) (sg p3.toNatClampNeg) p2 p5).1), ((f_X2_compute x1 x2 x3 (sg p3.toNatClampNeg) (sg p3.toNatClampNeg) p2 p5).2.1), ((f_X2_compute x1 x2 x3 (sg p3.toNatClampNeg) (sg p3.toNatClampNeg) p2 p5).2.2), 1) := (if_neg c2).trans ((if_neg c4).trans ((if_neg c6).trans ((if_neg c7).trans ((if_pos c8).trans (rfl)))))
              rw [e9]
              exact sp_zret C hAe hP hK hD hS (Or.inr rfl) dX0_operate_69
            · refine sp_callr (sp_runV (As := [.int p2, .ref (ad p3.toNatClampNeg), .ref (ad p4.toNatClampNeg), .int p5]) (rest := [.ref (ad p1.toNatClampNeg)]) C (c_X2_compute l D hc h1 h2 h3 (ad p3.toNatClampNeg) (ad p4.toNatClampNeg) x1 x2 x3 (sg p3.toNatClampNeg) (sg p4.toNatClampNeg) p2 p5) (cwV 4 hts (gV wG_c wm_352 wm_353 wm_354 wm_122 wm_351) rfl rfl rfl (by decide +kernel) ⟨Nat.le_of_ble_eq_true rfl, Nat.le_of_ble_eq_true rfl⟩) hK hP hD [2, 3, 4, 5, 9 + p3.toNatClampNeg, 9 + p4.toNatClampNeg] (by have h9 := nb_ne c4 c6 c9; simp [va_nd]; omega) (sp_cc rfl (sp_cc rfl (sp_cc rfl (sp_cc rfl (sp_cc (np_at rfl (nb_lt c4)) (sp_cc (np_at rfl (nb_lt c6)) sp_c0)))))) [] rfl 0 2 rfl rfl rfl rfl hl.1 rfl (Nat.le_of_ble_eq_true rfl) dX0_operate_62 ⟨Nat.le_of_ble_eq_true rfl, Nat.le_of_ble_eq_true rfl⟩) hP hD hS hA [2, 3, 4, 5, 9 + p3.toNatClampNeg, 9 + p4.toNatClampNeg] (sp_cc rfl (sp_cc rfl (sp_cc rfl (sp_cc rfl (sp_cc (np_at rfl (nb_lt c4)) (sp_cc (np_at rfl (nb_lt c6)) sp_c0)))))) (sp_fc (sp_fc (sp_fc (sp_fc (sp_fc (sp_fc sp_f0)))))) (fun H locs hP hD hS => ?_)
              have hP : va_P D vwCl (((([(h0, .inr (0, [.ref ha, .ref hc, .ref hk])), (ha, .inl (cA, 16, .inr (.inr (.inr (.inr (fun k => some (ad k))))))), (hc, .inr (2, [.ref h1, .ref h2, .ref h3])), (h1, .inr (1, nm_fs ((f_X2_compute x1 x2 x3 (sg p3.toNatClampNeg) (sg p4.toNatClampNeg) p2 p5).1))), (h2, .inr (1, nm_fs ((f_X2_compute x1 x2 x3 (sg p3.toNatClampNeg) (sg p4.toNatClampNeg) p2 p5).2.1))), (h3, .inr (1, nm_fs ((f_X2_compute x1 x2 x3 (sg p3.toNatClampNeg) (sg p4.toNatClampNeg) p2 p5).2.2))), (hk, .inr (3, [.ref h4, .ref h5])), (h4, .inr (1, nm_fs x4)), (h5, .inr (1, nm_fs x5))] ++ np_pool 1 ad sg) : va_W).set (9 + p3.toNatClampNeg) ((ad p3.toNatClampNeg), .inr (1, nm_fs (sg p3.toNatClampNeg))) : va_W).set (9 + p4.toNatClampNeg) ((ad p4.toNatClampNeg), .inr (1, nm_fs (sg p4.toNatClampNeg)))) H := hP
              have hD : va_D A (((([(h0, .inr (0, [.ref ha, .ref hc, .ref hk])), (ha, .inl (cA, 16, .inr (.inr (.inr (.inr (fun k => some (ad k))))))), (hc, .inr (2, [.ref h1, .ref h2, .ref h3])), (h1, .inr (1, nm_fs ((f_X2_compute x1 x2 x3 (sg p3.toNatClampNeg) (sg p4.toNatClampNeg) p2 p5).1))), (h2, .inr (1, nm_fs ((f_X2_compute x1 x2 x3 (sg p3.toNatClampNeg) (sg p4.toNatClampNeg) p2 p5).2.1))), (h3, .inr (1, nm_fs ((f_X2_compute x1 x2 x3 (sg p3.toNatClampNeg) (sg p4.toNatClampNeg) p2 p5).2.2))), (hk, .inr (3, [.ref h4, .ref h5])), (h4, .inr (1, nm_fs x4)), (h5, .inr (1, nm_fs x5))] ++ np_pool 1 ad sg) : va_W).set (9 + p3.toNatClampNeg) ((ad p3.toNatClampNeg), .inr (1, nm_fs (sg p3.toNatClampNeg))) : va_W).set (9 + p4.toNatClampNeg) ((ad p4.toNatClampNeg), .inr (1, nm_fs (sg p4.toNatClampNeg)))) := hD
              rw [np_same9 (nb_lt c4), np_same9 (nb_lt c6)] at hP hD
              have hP : va_P D vwCl ([(h0, .inr (0, [.ref ha, .ref hc, .ref hk])), (ha, .inl (cA, 16, .inr (.inr (.inr (.inr (fun k => some (ad k))))))), (hc, .inr (2, [.ref h1, .ref h2, .ref h3])), (h1, .inr (1, nm_fs ((f_X2_compute x1 x2 x3 (sg p3.toNatClampNeg) (sg p4.toNatClampNeg) p2 p5).1))), (h2, .inr (1, nm_fs ((f_X2_compute x1 x2 x3 (sg p3.toNatClampNeg) (sg p4.toNatClampNeg) p2 p5).2.1))), (h3, .inr (1, nm_fs ((f_X2_compute x1 x2 x3 (sg p3.toNatClampNeg) (sg p4.toNatClampNeg) p2 p5).2.2))), (hk, .inr (3, [.ref h4, .ref h5])), (h4, .inr (1, nm_fs x4)), (h5, .inr (1, nm_fs x5))] ++ np_pool 1 ad sg) H := hP
              have hD : va_D A ([(h0, .inr (0, [.ref ha, .ref hc, .ref hk])), (ha, .inl (cA, 16, .inr (.inr (.inr (.inr (fun k => some (ad k))))))), (hc, .inr (2, [.ref h1, .ref h2, .ref h3])), (h1, .inr (1, nm_fs ((f_X2_compute x1 x2 x3 (sg p3.toNatClampNeg) (sg p4.toNatClampNeg) p2 p5).1))), (h2, .inr (1, nm_fs ((f_X2_compute x1 x2 x3 (sg p3.toNatClampNeg) (sg p4.toNatClampNeg) p2 p5).2.1))), (h3, .inr (1, nm_fs ((f_X2_compute x1 x2 x3 (sg p3.toNatClampNeg) (sg p4.toNatClampNeg) p2 p5).2.2))), (hk, .inr (3, [.ref h4, .ref h5])), (h4, .inr (1, nm_fs x4)), (h5, .inr (1, nm_fs x5))] ++ np_pool 1 ad sg) := hD
              refine sp_callv (sp_runV (As := [.ref h3]) (rest := []) C (c_X1_become l D (ad p1.toNatClampNeg) h3 (sg p1.toNatClampNeg) ((f_X2_compute x1 x2 x3 (sg p3.toNatClampNeg) (sg p4.toNatClampNeg) p2 p5).2.2)) (cwV 1 hts (gV wG_c wm_355 wm_167 wm_168 wm_31 wm_165) rfl rfl rfl (by decide +kernel) ⟨Nat.le_of_ble_eq_true rfl, Nat.le_of_ble_eq_true rfl⟩) hK hP hD [9 + p1.toNatClampNeg, 5] (by have h9 := nb_lt c2; simp [va_nd]; try omega) (sp_cc (np_at rfl (nb_lt c2)) (sp_cc rfl sp_c0)) [] rfl 0 1 rfl rfl rfl rfl hl.1 rfl (Nat.le_of_ble_eq_true rfl) dX0_operate_65 ⟨Nat.le_of_ble_eq_true rfl, Nat.le_of_ble_eq_true rfl⟩) hP hD hS hA [9 + p1.toNatClampNeg, 5] (sp_cc (np_at rfl (nb_lt c2)) (sp_cc rfl sp_c0)) (sp_fc (sp_fc sp_f0)) (fun H locs hP hD hS => ?_)
              have hP : va_P D vwCl (((([(h0, .inr (0, [.ref ha, .ref hc, .ref hk])), (ha, .inl (cA, 16, .inr (.inr (.inr (.inr (fun k => some (ad k))))))), (hc, .inr (2, [.ref h1, .ref h2, .ref h3])), (h1, .inr (1, nm_fs ((f_X2_compute x1 x2 x3 (sg p3.toNatClampNeg) (sg p4.toNatClampNeg) p2 p5).1))), (h2, .inr (1, nm_fs ((f_X2_compute x1 x2 x3 (sg p3.toNatClampNeg) (sg p4.toNatClampNeg) p2 p5).2.1))), (h3, .inr (1, nm_fs ((f_X2_compute x1 x2 x3 (sg p3.toNatClampNeg) (sg p4.toNatClampNeg) p2 p5).2.2))), (hk, .inr (3, [.ref h4, .ref h5])), (h4, .inr (1, nm_fs x4)), (h5, .inr (1, nm_fs x5))] ++ np_pool 1 ad sg) : va_W).set (9 + p1.toNatClampNeg) ((ad p1.toNatClampNeg), .inr (1, nm_fs (f_X1_become (sg p1.toNatClampNeg) ((f_X2_compute x1 x2 x3 (sg p3.toNatClampNeg) (sg p4.toNatClampNeg) p2 p5).2.2)))) : va_W).set 5 (h3, .inr (1, nm_fs ((f_X2_compute x1 x2 x3 (sg p3.toNatClampNeg) (sg p4.toNatClampNeg) p2 p5).2.2)))) H := hP
              have hD : va_D A (((([(h0, .inr (0, [.ref ha, .ref hc, .ref hk])), (ha, .inl (cA, 16, .inr (.inr (.inr (.inr (fun k => some (ad k))))))), (hc, .inr (2, [.ref h1, .ref h2, .ref h3])), (h1, .inr (1, nm_fs ((f_X2_compute x1 x2 x3 (sg p3.toNatClampNeg) (sg p4.toNatClampNeg) p2 p5).1))), (h2, .inr (1, nm_fs ((f_X2_compute x1 x2 x3 (sg p3.toNatClampNeg) (sg p4.toNatClampNeg) p2 p5).2.1))), (h3, .inr (1, nm_fs ((f_X2_compute x1 x2 x3 (sg p3.toNatClampNeg) (sg p4.toNatClampNeg) p2 p5).2.2))), (hk, .inr (3, [.ref h4, .ref h5])), (h4, .inr (1, nm_fs x4)), (h5, .inr (1, nm_fs x5))] ++ np_pool 1 ad sg) : va_W).set (9 + p1.toNatClampNeg) ((ad p1.toNatClampNeg), .inr (1, nm_fs (f_X1_become (sg p1.toNatClampNeg) ((f_X2_compute x1 x2 x3 (sg p3.toNatClampNeg) (sg p4.toNatClampNeg) p2 p5).2.2)))) : va_W).set 5 (h3, .inr (1, nm_fs ((f_X2_compute x1 x2 x3 (sg p3.toNatClampNeg) (sg p4.toNatClampNeg) p2 p5).2.2)))) := hD
              rw [np_set9 (nb_lt c2)] at hP hD
              have hP : va_P D vwCl ([(h0, .inr (0, [.ref ha, .ref hc, .ref hk])), (ha, .inl (cA, 16, .inr (.inr (.inr (.inr (fun k => some (ad k))))))), (hc, .inr (2, [.ref h1, .ref h2, .ref h3])), (h1, .inr (1, nm_fs ((f_X2_compute x1 x2 x3 (sg p3.toNatClampNeg) (sg p4.toNatClampNeg) p2 p5).1))), (h2, .inr (1, nm_fs ((f_X2_compute x1 x2 x3 (sg p3.toNatClampNeg) (sg p4.toNatClampNeg) p2 p5).2.1))), (h3, .inr (1, nm_fs ((f_X2_compute x1 x2 x3 (sg p3.toNatClampNeg) (sg p4.toNatClampNeg) p2 p5).2.2))), (hk, .inr (3, [.ref h4, .ref h5])), (h4, .inr (1, nm_fs x4)), (h5, .inr (1, nm_fs x5))] ++ np_pool 1 ad (va_up sg p1.toNatClampNeg (f_X1_become (sg p1.toNatClampNeg) ((f_X2_compute x1 x2 x3 (sg p3.toNatClampNeg) (sg p4.toNatClampNeg) p2 p5).2.2)))) H := hP
              have hD : va_D A ([(h0, .inr (0, [.ref ha, .ref hc, .ref hk])), (ha, .inl (cA, 16, .inr (.inr (.inr (.inr (fun k => some (ad k))))))), (hc, .inr (2, [.ref h1, .ref h2, .ref h3])), (h1, .inr (1, nm_fs ((f_X2_compute x1 x2 x3 (sg p3.toNatClampNeg) (sg p4.toNatClampNeg) p2 p5).1))), (h2, .inr (1, nm_fs ((f_X2_compute x1 x2 x3 (sg p3.toNatClampNeg) (sg p4.toNatClampNeg) p2 p5).2.1))), (h3, .inr (1, nm_fs ((f_X2_compute x1 x2 x3 (sg p3.toNatClampNeg) (sg p4.toNatClampNeg) p2 p5).2.2))), (hk, .inr (3, [.ref h4, .ref h5])), (h4, .inr (1, nm_fs x4)), (h5, .inr (1, nm_fs x5))] ++ np_pool 1 ad (va_up sg p1.toNatClampNeg (f_X1_become (sg p1.toNatClampNeg) ((f_X2_compute x1 x2 x3 (sg p3.toNatClampNeg) (sg p4.toNatClampNeg) p2 p5).2.2)))) := hD
              refine lv_iconst (v := 1) hx hb dX0_operate_68 (by decide) ?_
              have e9 : f_X0_operate sg x1 x2 x3 x4 x5 p1 p2 p3 p4 p5 = ((va_up sg p1.toNatClampNeg (f_X1_become (sg p1.toNatClampNeg) ((f_X2_compute x1 x2 x3 (sg p3.toNatClampNeg) (sg p4.toNatClampNeg) p2 p5).2.2))), ((f_X2_compute x1 x2 x3 (sg p3.toNatClampNeg) (sg p4.toNatClampNeg) p2 p5).1), ((f_X2_compute x1 x2 x3 (sg p3.toNatClampNeg) (sg p4.toNatClampNeg) p2 p5).2.1), ((f_X2_compute x1 x2 x3 (sg p3.toNatClampNeg) (sg p4.toNatClampNeg) p2 p5).2.2), 1) := (if_neg c2).trans ((if_neg c4).trans ((if_neg c6).trans ((if_neg c7).trans ((if_pos c8).trans (rfl)))))
              rw [e9]
              exact sp_zret C hAe hP hK hD hS (Or.inr rfl) dX0_operate_69
          · refine lv_iconst (v := 0) hx hb dX0_operate_34 (by decide) ?_
            have e9 : f_X0_operate sg x1 x2 x3 x4 x5 p1 p2 p3 p4 p5 = (sg, x1, x2, x3, 0) := (if_neg c2).trans ((if_neg c4).trans ((if_neg c6).trans ((if_neg c7).trans ((if_neg c8).trans (rfl)))))
            rw [e9]
            exact sp_zret C hAe hP hK hD hS (Or.inl rfl) dX0_operate_35
      · refine lv_iconst (v := 0) hx hb dX0_operate_22 (by decide) ?_
        have e9 : f_X0_operate sg x1 x2 x3 x4 x5 p1 p2 p3 p4 p5 = (sg, x1, x2, x3, 0) := (if_neg c2).trans ((if_neg c4).trans ((if_pos c6).trans (rfl)))
        rw [e9]
        exact sp_zret C hAe hP hK hD hS (Or.inl rfl) dX0_operate_23
def f_X0_holds (sg : Nat → Nm) (x1 : Nm) (x2 : Nm) (x3 : Nm) (x4 : Nm) (x5 : Nm) (p1 : Int32) (p2 : Int32) (p3 : Int32) (p4 : Int32) : (Nat → Nm) × Nm × Nm × Int32 :=
  if (f_X0_isNumber p2) = 0 then (sg, x4, x5, 0)
  else if (f_X0_isNumber p3) = 0 then (sg, x4, x5, 0)
  else if p2 = p3 then (sg, x4, x5, 0)
  else if p1 < 0 then (sg, x4, x5, 0)
  else if p1 ≤ 11 then ((va_up (va_up sg p2.toNatClampNeg ((f_X3_tell x4 x5 (sg p2.toNatClampNeg) (sg p3.toNatClampNeg) p1 p4).2.2.1)) p3.toNatClampNeg ((f_X3_tell x4 x5 (sg p2.toNatClampNeg) (sg p3.toNatClampNeg) p1 p4).2.2.2.1)), ((f_X3_tell x4 x5 (sg p2.toNatClampNeg) (sg p3.toNatClampNeg) p1 p4).1), ((f_X3_tell x4 x5 (sg p2.toNatClampNeg) (sg p3.toNatClampNeg) p1 p4).2.1), (f_X3_tell x4 x5 (sg p2.toNatClampNeg) (sg p3.toNatClampNeg) p1 p4).2.2.2.2)
  else (sg, x4, x5, 0)
set_option maxHeartbeats 4000000 in
set_option maxRecDepth 100000 in
theorem c_X0_holds (l : Launch) (D : va_G) (h0 : Nat) (ha : Nat) (hc : Nat) (h1 : Nat) (h2 : Nat) (h3 : Nat) (hk : Nat) (h4 : Nat) (h5 : Nat) (cA : ClassId) (ad : Nat → Nat) (sg : Nat → Nm) (x1 : Nm) (x2 : Nm) (x3 : Nm) (x4 : Nm) (x5 : Nm) (p1 : Int32) (p2 : Int32) (p3 : Int32) (p4 : Int32) : sp_M l yX0_holds wsX0_holds ({ frames := 6, cells := 0, slots := 0, locals := 136 }) D [.ref h0, .int p1, .int p2, .int p3, .int p4] ([(h0, .inr (0, [.ref ha, .ref hc, .ref hk])), (ha, .inl (cA, 16, .inr (.inr (.inr (.inr (fun k => some (ad k))))))), (hc, .inr (2, [.ref h1, .ref h2, .ref h3])), (h1, .inr (1, nm_fs x1)), (h2, .inr (1, nm_fs x2)), (h3, .inr (1, nm_fs x3)), (hk, .inr (3, [.ref h4, .ref h5])), (h4, .inr (1, nm_fs x4)), (h5, .inr (1, nm_fs x5))] ++ np_pool 1 ad sg) [(cA, .object RX1)] (sp_Qz D ([(h0, .inr (0, [.ref ha, .ref hc, .ref hk])), (ha, .inl (cA, 16, .inr (.inr (.inr (.inr (fun k => some (ad k))))))), (hc, .inr (2, [.ref h1, .ref h2, .ref h3])), (h1, .inr (1, nm_fs x1)), (h2, .inr (1, nm_fs x2)), (h3, .inr (1, nm_fs x3)), (hk, .inr (3, [.ref h4, .ref h5])), (h4, .inr (1, nm_fs x4)), (h5, .inr (1, nm_fs x5))] ++ np_pool 1 ad sg) ([(h0, .inr (0, [.ref ha, .ref hc, .ref hk])), (ha, .inl (cA, 16, .inr (.inr (.inr (.inr (fun k => some (ad k))))))), (hc, .inr (2, [.ref h1, .ref h2, .ref h3])), (h1, .inr (1, nm_fs x1)), (h2, .inr (1, nm_fs x2)), (h3, .inr (1, nm_fs x3)), (hk, .inr (3, [.ref h4, .ref h5])), (h4, .inr (1, nm_fs ((f_X0_holds sg x1 x2 x3 x4 x5 p1 p2 p3 p4).2.1))), (h5, .inr (1, nm_fs ((f_X0_holds sg x1 x2 x3 x4 x5 p1 p2 p3 p4).2.2.1)))] ++ np_pool 1 ad ((f_X0_holds sg x1 x2 x3 x4 x5 p1 p2 p3 p4).1)) [(cA, .object RX1)] ((f_X0_holds sg x1 x2 x3 x4 x5 p1 p2 p3 p4).2.2.2)) := by
  refine sp_ofW (cc := cX0_holds) (nL := 5) (ret := (some .boolean)) (own := RX0) (by decide) rfl rfl (Nat.le_of_ble_eq_true rfl) ?_
  intro p e s m below meth c A ls hAe hnm C hA hP hK hD hS hl
  have hx := C.1
  have hb := C.2.1
  have hown := C.2.2.2.2.1
  have hts := C.2.2.2.2.2.1
  have hl : lv_has ls 5 [(0, .ref h0), (1, .int p1), (2, .int p2), (3, .int p3), (4, .int p4)] := hl
  have hi0 : ∀ w ∈ u_ws RX0 TX0 3, w ∈ wsX0_holds := fun w h => List.mem_cons_of_mem _ (inX0 w h)
  have hk0 := hts _ (List.mem_cons_of_mem _ wm_129)
  have hk1 := hts _ (List.mem_cons_of_mem _ wm_119)
  refine lv_iload_n hx hb dX0_holds_0 rfl (lv_at hl 2 rfl) ?_
  refine sp_callz (sp_runS (As := [.int p2]) (rest := []) C (c_X0_isNumber l D p2) (va_cwS 1 hts (gS wG_c wm_342 wm_343 wm_4 wm_341) rfl rfl rfl (by decide +kernel) ⟨Nat.le_of_ble_eq_true rfl, Nat.le_of_ble_eq_true rfl⟩) hK hP hD [] (by decide) rfl [] rfl rfl hl.1 rfl (Nat.le_of_ble_eq_true rfl) dX0_holds_1 ⟨Nat.le_of_ble_eq_true rfl, Nat.le_of_ble_eq_true rfl⟩) hP hD hS hA [] rfl sp_f0 (fun H locs z1 hP hD hS => ?_)
  have hP : va_P D vwCl ([(h0, .inr (0, [.ref ha, .ref hc, .ref hk])), (ha, .inl (cA, 16, .inr (.inr (.inr (.inr (fun k => some (ad k))))))), (hc, .inr (2, [.ref h1, .ref h2, .ref h3])), (h1, .inr (1, nm_fs x1)), (h2, .inr (1, nm_fs x2)), (h3, .inr (1, nm_fs x3)), (hk, .inr (3, [.ref h4, .ref h5])), (h4, .inr (1, nm_fs x4)), (h5, .inr (1, nm_fs x5))] ++ np_pool 1 ad sg) H := hP
  have hD : va_D A ([(h0, .inr (0, [.ref ha, .ref hc, .ref hk])), (ha, .inl (cA, 16, .inr (.inr (.inr (.inr (fun k => some (ad k))))))), (hc, .inr (2, [.ref h1, .ref h2, .ref h3])), (h1, .inr (1, nm_fs x1)), (h2, .inr (1, nm_fs x2)), (h3, .inr (1, nm_fs x3)), (hk, .inr (3, [.ref h4, .ref h5])), (h4, .inr (1, nm_fs x4)), (h5, .inr (1, nm_fs x5))] ++ np_pool 1 ad sg) := hD
  refine lv_if_eq (tgt := 19) hx hb dX0_holds_4 (by decide) (fun c2 => ?_) (fun c2 => ?_)
  · refine lv_iconst (v := 0) hx hb dX0_holds_19 (by decide) ?_
    have e9 : f_X0_holds sg x1 x2 x3 x4 x5 p1 p2 p3 p4 = (sg, x4, x5, 0) := (if_pos c2).trans (rfl)
    rw [e9]
    exact sp_zret C hAe hP hK hD hS (Or.inl rfl) dX0_holds_20
  · refine lv_iload_n hx hb dX0_holds_7 rfl (lv_at hl 3 rfl) ?_
    refine sp_callz (sp_runS (As := [.int p3]) (rest := []) C (c_X0_isNumber l D p3) (va_cwS 1 hts (gS wG_c wm_342 wm_343 wm_4 wm_341) rfl rfl rfl (by decide +kernel) ⟨Nat.le_of_ble_eq_true rfl, Nat.le_of_ble_eq_true rfl⟩) hK hP hD [] (by decide) rfl [] rfl rfl hl.1 rfl (Nat.le_of_ble_eq_true rfl) dX0_holds_8 ⟨Nat.le_of_ble_eq_true rfl, Nat.le_of_ble_eq_true rfl⟩) hP hD hS hA [] rfl sp_f0 (fun H locs z3 hP hD hS => ?_)
    have hP : va_P D vwCl ([(h0, .inr (0, [.ref ha, .ref hc, .ref hk])), (ha, .inl (cA, 16, .inr (.inr (.inr (.inr (fun k => some (ad k))))))), (hc, .inr (2, [.ref h1, .ref h2, .ref h3])), (h1, .inr (1, nm_fs x1)), (h2, .inr (1, nm_fs x2)), (h3, .inr (1, nm_fs x3)), (hk, .inr (3, [.ref h4, .ref h5])), (h4, .inr (1, nm_fs x4)), (h5, .inr (1, nm_fs x5))] ++ np_pool 1 ad sg) H := hP
    have hD : va_D A ([(h0, .inr (0, [.ref ha, .ref hc, .ref hk])), (ha, .inl (cA, 16, .inr (.inr (.inr (.inr (fun k => some (ad k))))))), (hc, .inr (2, [.ref h1, .ref h2, .ref h3])), (h1, .inr (1, nm_fs x1)), (h2, .inr (1, nm_fs x2)), (h3, .inr (1, nm_fs x3)), (hk, .inr (3, [.ref h4, .ref h5])), (h4, .inr (1, nm_fs x4)), (h5, .inr (1, nm_fs x5))] ++ np_pool 1 ad sg) := hD
    refine lv_if_eq (tgt := 19) hx hb dX0_holds_11 (by decide) (fun c4 => ?_) (fun c4 => ?_)
    · refine lv_iconst (v := 0) hx hb dX0_holds_19 (by decide) ?_
      have e9 : f_X0_holds sg x1 x2 x3 x4 x5 p1 p2 p3 p4 = (sg, x4, x5, 0) := (if_neg c2).trans ((if_pos c4).trans (rfl))
      rw [e9]
      exact sp_zret C hAe hP hK hD hS (Or.inl rfl) dX0_holds_20
    · refine lv_iload_n hx hb dX0_holds_14 rfl (lv_at hl 2 rfl) ?_
      refine lv_iload_n hx hb dX0_holds_15 rfl (lv_at hl 3 rfl) ?_
      refine lv_icmp_ne (tgt := 21) hx hb dX0_holds_16 (by decide) (fun c5 => ?_) (fun c5 => ?_)
      · refine lv_iload_n hx hb dX0_holds_21 rfl (lv_at hl 1 rfl) ?_
        refine lv_if_lt (tgt := 31) hx hb dX0_holds_22 (by decide) (fun c6 => ?_) (fun c6 => ?_)
        · refine lv_iconst (v := 0) hx hb dX0_holds_31 (by decide) ?_
          have e9 : f_X0_holds sg x1 x2 x3 x4 x5 p1 p2 p3 p4 = (sg, x4, x5, 0) := (if_neg c2).trans ((if_neg c4).trans ((if_neg c5).trans ((if_pos c6).trans (rfl))))
          rw [e9]
          exact sp_zret C hAe hP hK hD hS (Or.inl rfl) dX0_holds_32
        · refine lv_iload_n hx hb dX0_holds_25 rfl (lv_at hl 1 rfl) ?_
          refine lv_bipush (v := 11) hx hb dX0_holds_26 (by decide) ?_
          refine lv_icmp_le (tgt := 33) hx hb dX0_holds_28 (by decide) (fun c7 => ?_) (fun c7 => ?_)
          · refine lv_aload_n hx hb dX0_holds_33 rfl (lv_at hl 0 rfl) ?_
            refine va_get (D := D) (ci := 0) (v := .ref hk) (C := RX0) (T := TX0) (N := 3) hx hb hts hi0 hown hK hP 0 rfl rfl 2 (by decide) hk0 (fun _ h9 => h9) rfl dX0_holds_34 ?_
            refine lv_iload_n hx hb dX0_holds_37 rfl (lv_at hl 1 rfl) ?_
            refine lv_aload_n hx hb dX0_holds_38 rfl (lv_at hl 0 rfl) ?_
            refine va_get (D := D) (ci := 0) (v := .ref ha) (C := RX0) (T := TX0) (N := 3) hx hb hts hi0 hown hK hP 0 rfl rfl 0 (by decide) hk1 (fun _ h9 => h9) rfl dX0_holds_39 ?_
            refine lv_iload_n hx hb dX0_holds_42 rfl (lv_at hl 2 rfl) ?_
            refine va_aldq (C := RX1) hx hb hK hP 1 0 rfl rfl (nb_in c2) dX0_holds_43 ?_
            refine W.eq (g2 := F0 m 44 ls [.ref (ad p2.toNatClampNeg), .int p1, .ref hk]) rfl ?_
            refine lv_aload_n hx hb dX0_holds_44 rfl (lv_at hl 0 rfl) ?_
            refine va_get (D := D) (ci := 0) (v := .ref ha) (C := RX0) (T := TX0) (N := 3) hx hb hts hi0 hown hK hP 0 rfl rfl 0 (by decide) hk1 (fun _ h9 => h9) rfl dX0_holds_45 ?_
            refine lv_iload_n hx hb dX0_holds_48 rfl (lv_at hl 3 rfl) ?_
            refine va_aldq (C := RX1) hx hb hK hP 1 0 rfl rfl (nb_in c4) dX0_holds_49 ?_
            refine W.eq (g2 := F0 m 50 ls [.ref (ad p3.toNatClampNeg), .ref (ad p2.toNatClampNeg), .int p1, .ref hk]) rfl ?_
            refine lv_iload hx hb dX0_holds_50 (lv_at hl 4 rfl) ?_
            refine sp_callz (sp_runV (As := [.int p1, .ref (ad p2.toNatClampNeg), .ref (ad p3.toNatClampNeg), .int p4]) (rest := []) C (c_X3_tell l D hk h4 h5 (ad p2.toNatClampNeg) (ad p3.toNatClampNeg) x4 x5 (sg p2.toNatClampNeg) (sg p3.toNatClampNeg) p1 p4) (cwV 4 hts (gV wG_c wm_357 wm_358 wm_359 wm_127 wm_356) rfl rfl rfl (by decide +kernel) ⟨Nat.le_of_ble_eq_true rfl, Nat.le_of_ble_eq_true rfl⟩) hK hP hD [6, 7, 8, 9 + p2.toNatClampNeg, 9 + p3.toNatClampNeg] (by have h9 := nb_ne c2 c4 c5; simp [va_nd]; omega) (sp_cc rfl (sp_cc rfl (sp_cc rfl (sp_cc (np_at rfl (nb_lt c2)) (sp_cc (np_at rfl (nb_lt c4)) sp_c0))))) [] rfl 0 3 rfl rfl rfl rfl hl.1 rfl (Nat.le_of_ble_eq_true rfl) dX0_holds_52 ⟨Nat.le_of_ble_eq_true rfl, Nat.le_of_ble_eq_true rfl⟩) hP hD hS hA [6, 7, 8, 9 + p2.toNatClampNeg, 9 + p3.toNatClampNeg] (sp_cc rfl (sp_cc rfl (sp_cc rfl (sp_cc (np_at rfl (nb_lt c2)) (sp_cc (np_at rfl (nb_lt c4)) sp_c0))))) (sp_fc (sp_fc (sp_fc (sp_fc (sp_fc sp_f0))))) (fun H locs z8 hP hD hS => ?_)
            have hP : va_P D vwCl (((([(h0, .inr (0, [.ref ha, .ref hc, .ref hk])), (ha, .inl (cA, 16, .inr (.inr (.inr (.inr (fun k => some (ad k))))))), (hc, .inr (2, [.ref h1, .ref h2, .ref h3])), (h1, .inr (1, nm_fs x1)), (h2, .inr (1, nm_fs x2)), (h3, .inr (1, nm_fs x3)), (hk, .inr (3, [.ref h4, .ref h5])), (h4, .inr (1, nm_fs ((f_X3_tell x4 x5 (sg p2.toNatClampNeg) (sg p3.toNatClampNeg) p1 p4).1))), (h5, .inr (1, nm_fs ((f_X3_tell x4 x5 (sg p2.toNatClampNeg) (sg p3.toNatClampNeg) p1 p4).2.1)))] ++ np_pool 1 ad sg) : va_W).set (9 + p2.toNatClampNeg) ((ad p2.toNatClampNeg), .inr (1, nm_fs ((f_X3_tell x4 x5 (sg p2.toNatClampNeg) (sg p3.toNatClampNeg) p1 p4).2.2.1))) : va_W).set (9 + p3.toNatClampNeg) ((ad p3.toNatClampNeg), .inr (1, nm_fs ((f_X3_tell x4 x5 (sg p2.toNatClampNeg) (sg p3.toNatClampNeg) p1 p4).2.2.2.1)))) H := hP
            have hD : va_D A (((([(h0, .inr (0, [.ref ha, .ref hc, .ref hk])), (ha, .inl (cA, 16, .inr (.inr (.inr (.inr (fun k => some (ad k))))))), (hc, .inr (2, [.ref h1, .ref h2, .ref h3])), (h1, .inr (1, nm_fs x1)), (h2, .inr (1, nm_fs x2)), (h3, .inr (1, nm_fs x3)), (hk, .inr (3, [.ref h4, .ref h5])), (h4, .inr (1, nm_fs ((f_X3_tell x4 x5 (sg p2.toNatClampNeg) (sg p3.toNatClampNeg) p1 p4).1))), (h5, .inr (1, nm_fs ((f_X3_tell x4 x5 (sg p2.toNatClampNeg) (sg p3.toNatClampNeg) p1 p4).2.1)))] ++ np_pool 1 ad sg) : va_W).set (9 + p2.toNatClampNeg) ((ad p2.toNatClampNeg), .inr (1, nm_fs ((f_X3_tell x4 x5 (sg p2.toNatClampNeg) (sg p3.toNatClampNeg) p1 p4).2.2.1))) : va_W).set (9 + p3.toNatClampNeg) ((ad p3.toNatClampNeg), .inr (1, nm_fs ((f_X3_tell x4 x5 (sg p2.toNatClampNeg) (sg p3.toNatClampNeg) p1 p4).2.2.2.1)))) := hD
            rw [np_set9 (nb_lt c2), np_set9 (nb_lt c4)] at hP hD
            have hP : va_P D vwCl ([(h0, .inr (0, [.ref ha, .ref hc, .ref hk])), (ha, .inl (cA, 16, .inr (.inr (.inr (.inr (fun k => some (ad k))))))), (hc, .inr (2, [.ref h1, .ref h2, .ref h3])), (h1, .inr (1, nm_fs x1)), (h2, .inr (1, nm_fs x2)), (h3, .inr (1, nm_fs x3)), (hk, .inr (3, [.ref h4, .ref h5])), (h4, .inr (1, nm_fs ((f_X3_tell x4 x5 (sg p2.toNatClampNeg) (sg p3.toNatClampNeg) p1 p4).1))), (h5, .inr (1, nm_fs ((f_X3_tell x4 x5 (sg p2.toNatClampNeg) (sg p3.toNatClampNeg) p1 p4).2.1)))] ++ np_pool 1 ad (va_up (va_up sg p2.toNatClampNeg ((f_X3_tell x4 x5 (sg p2.toNatClampNeg) (sg p3.toNatClampNeg) p1 p4).2.2.1)) p3.toNatClampNeg ((f_X3_tell x4 x5 (sg p2.toNatClampNeg) (sg p3.toNatClampNeg) p1 p4).2.2.2.1))) H := hP
            have hD : va_D A ([(h0, .inr (0, [.ref ha, .ref hc, .ref hk])), (ha, .inl (cA, 16, .inr (.inr (.inr (.inr (fun k => some (ad k))))))), (hc, .inr (2, [.ref h1, .ref h2, .ref h3])), (h1, .inr (1, nm_fs x1)), (h2, .inr (1, nm_fs x2)), (h3, .inr (1, nm_fs x3)), (hk, .inr (3, [.ref h4, .ref h5])), (h4, .inr (1, nm_fs ((f_X3_tell x4 x5 (sg p2.toNatClampNeg) (sg p3.toNatClampNeg) p1 p4).1))), (h5, .inr (1, nm_fs ((f_X3_tell x4 x5 (sg p2.toNatClampNeg) (sg p3.toNatClampNeg) p1 p4).2.1)))] ++ np_pool 1 ad (va_up (va_up sg p2.toNatClampNeg ((f_X3_tell x4 x5 (sg p2.toNatClampNeg) (sg p3.toNatClampNeg) p1 p4).2.2.1)) p3.toNatClampNeg ((f_X3_tell x4 x5 (sg p2.toNatClampNeg) (sg p3.toNatClampNeg) p1 p4).2.2.2.1))) := hD
            have e9 : f_X0_holds sg x1 x2 x3 x4 x5 p1 p2 p3 p4 = ((va_up (va_up sg p2.toNatClampNeg ((f_X3_tell x4 x5 (sg p2.toNatClampNeg) (sg p3.toNatClampNeg) p1 p4).2.2.1)) p3.toNatClampNeg ((f_X3_tell x4 x5 (sg p2.toNatClampNeg) (sg p3.toNatClampNeg) p1 p4).2.2.2.1)), ((f_X3_tell x4 x5 (sg p2.toNatClampNeg) (sg p3.toNatClampNeg) p1 p4).1), ((f_X3_tell x4 x5 (sg p2.toNatClampNeg) (sg p3.toNatClampNeg) p1 p4).2.1), (f_X3_tell x4 x5 (sg p2.toNatClampNeg) (sg p3.toNatClampNeg) p1 p4).2.2.2.2) := (if_neg c2).trans ((if_neg c4).trans ((if_neg c5).trans ((if_neg c6).trans ((if_pos c7).trans (rfl)))))
            rw [e9]
            exact sp_zret C hAe hP hK hD hS z8 dX0_holds_55
          · refine lv_iconst (v := 0) hx hb dX0_holds_31 (by decide) ?_
            have e9 : f_X0_holds sg x1 x2 x3 x4 x5 p1 p2 p3 p4 = (sg, x4, x5, 0) := (if_neg c2).trans ((if_neg c4).trans ((if_neg c5).trans ((if_neg c6).trans ((if_neg c7).trans (rfl)))))
            rw [e9]
            exact sp_zret C hAe hP hK hD hS (Or.inl rfl) dX0_holds_32
      · refine lv_iconst (v := 0) hx hb dX0_holds_19 (by decide) ?_
        have e9 : f_X0_holds sg x1 x2 x3 x4 x5 p1 p2 p3 p4 = (sg, x4, x5, 0) := (if_neg c2).trans ((if_neg c4).trans ((if_pos c5).trans (rfl)))
        rw [e9]
        exact sp_zret C hAe hP hK hD hS (Or.inl rfl) dX0_holds_20
def f_X0_look (sg : Nat → Nm) (x1 : Nm) (x2 : Nm) (x3 : Nm) (x4 : Nm) (x5 : Nm) (p1 : Int32) (p2 : Int32) : Int64 :=
  if p2 = 0 then (sg p1.toNatClampNeg).1
  else if p2 = 1 then (sg p1.toNatClampNeg).2.1
  else if p2 = 2 then (sg p1.toNatClampNeg).2.2.1
  else if p2 = 3 then (sg p1.toNatClampNeg).2.2.2.1
  else if p2 = 4 then (sg p1.toNatClampNeg).2.2.2.2.1
  else if p2 = 5 then (sg p1.toNatClampNeg).2.2.2.2.2
  else 0
set_option maxHeartbeats 4000000 in
set_option maxRecDepth 100000 in
theorem c_X0_look (l : Launch) (D : va_G) (h0 : Nat) (ha : Nat) (hc : Nat) (h1 : Nat) (h2 : Nat) (h3 : Nat) (hk : Nat) (h4 : Nat) (h5 : Nat) (cA : ClassId) (ad : Nat → Nat) (sg : Nat → Nm) (x1 : Nm) (x2 : Nm) (x3 : Nm) (x4 : Nm) (x5 : Nm) (p1 : Int32) (p2 : Int32) (hw : p2 = 0 ∨ p2 = 1 ∨ p2 = 2 ∨ p2 = 3 ∨ p2 = 4 ∨ p2 = 5) (hn1 : ¬ (f_X0_isNumber p1) = 0) : sp_M l yX0_look wsX0_look ({ frames := 1, cells := 0, slots := 0, locals := 20 }) D [.ref h0, .int p1, .int p2] ([(h0, .inr (0, [.ref ha, .ref hc, .ref hk])), (ha, .inl (cA, 16, .inr (.inr (.inr (.inr (fun k => some (ad k))))))), (hc, .inr (2, [.ref h1, .ref h2, .ref h3])), (h1, .inr (1, nm_fs x1)), (h2, .inr (1, nm_fs x2)), (h3, .inr (1, nm_fs x3)), (hk, .inr (3, [.ref h4, .ref h5])), (h4, .inr (1, nm_fs x4)), (h5, .inr (1, nm_fs x5))] ++ np_pool 1 ad sg) [(cA, .object RX1)] (sp_Ql D ([(h0, .inr (0, [.ref ha, .ref hc, .ref hk])), (ha, .inl (cA, 16, .inr (.inr (.inr (.inr (fun k => some (ad k))))))), (hc, .inr (2, [.ref h1, .ref h2, .ref h3])), (h1, .inr (1, nm_fs x1)), (h2, .inr (1, nm_fs x2)), (h3, .inr (1, nm_fs x3)), (hk, .inr (3, [.ref h4, .ref h5])), (h4, .inr (1, nm_fs x4)), (h5, .inr (1, nm_fs x5))] ++ np_pool 1 ad sg) ([(h0, .inr (0, [.ref ha, .ref hc, .ref hk])), (ha, .inl (cA, 16, .inr (.inr (.inr (.inr (fun k => some (ad k))))))), (hc, .inr (2, [.ref h1, .ref h2, .ref h3])), (h1, .inr (1, nm_fs x1)), (h2, .inr (1, nm_fs x2)), (h3, .inr (1, nm_fs x3)), (hk, .inr (3, [.ref h4, .ref h5])), (h4, .inr (1, nm_fs x4)), (h5, .inr (1, nm_fs x5))] ++ np_pool 1 ad sg) [(cA, .object RX1)] (f_X0_look sg x1 x2 x3 x4 x5 p1 p2)) := by
  refine sp_ofW (cc := cX0_look) (nL := 4) (ret := (some .long)) (own := RX0) (by decide) rfl rfl (Nat.le_of_ble_eq_true rfl) ?_
  intro p e s m below meth c A ls hAe hnm C hA hP hK hD hS hl
  have hx := C.1
  have hb := C.2.1
  have hown := C.2.2.2.2.1
  have hts := C.2.2.2.2.2.1
  have hl : lv_has ls 4 [(0, .ref h0), (1, .int p1), (2, .int p2)] := hl
  have hi0 : ∀ w ∈ u_ws RX0 TX0 3, w ∈ wsX0_look := fun w h => List.mem_cons_of_mem _ (inX0 w h)
  have hi1 : ∀ w ∈ u_ws RX1 TX1 6, w ∈ wsX0_look := fun w h => List.mem_cons_of_mem _ (inX1 w h)
  have hk0 := hts _ (List.mem_cons_of_mem _ wm_119)
  have hk1 := hts _ (List.mem_cons_of_mem _ wm_360)
  have hk2 := hts _ (List.mem_cons_of_mem _ wm_361)
  have hk3 := hts _ (List.mem_cons_of_mem _ wm_362)
  have hk4 := hts _ (List.mem_cons_of_mem _ wm_363)
  have hk5 := hts _ (List.mem_cons_of_mem _ wm_364)
  have hk6 := hts _ (List.mem_cons_of_mem _ wm_365)
  refine lv_iload_n hx hb dX0_look_0 rfl (lv_at hl 1 rfl) ?_
  refine sp_callz (sp_runS (As := [.int p1]) (rest := []) C (c_X0_isNumber l D p1) (va_cwS 1 hts (gS wG_c wm_342 wm_343 wm_4 wm_341) rfl rfl rfl (by decide +kernel) ⟨Nat.le_of_ble_eq_true rfl, Nat.le_of_ble_eq_true rfl⟩) hK hP hD [] (by decide) rfl [] rfl rfl hl.1 rfl (Nat.le_of_ble_eq_true rfl) dX0_look_1 ⟨Nat.le_of_ble_eq_true rfl, Nat.le_of_ble_eq_true rfl⟩) hP hD hS hA [] rfl sp_f0 (fun H locs z1 hP hD hS => ?_)
  have hP : va_P D vwCl ([(h0, .inr (0, [.ref ha, .ref hc, .ref hk])), (ha, .inl (cA, 16, .inr (.inr (.inr (.inr (fun k => some (ad k))))))), (hc, .inr (2, [.ref h1, .ref h2, .ref h3])), (h1, .inr (1, nm_fs x1)), (h2, .inr (1, nm_fs x2)), (h3, .inr (1, nm_fs x3)), (hk, .inr (3, [.ref h4, .ref h5])), (h4, .inr (1, nm_fs x4)), (h5, .inr (1, nm_fs x5))] ++ np_pool 1 ad sg) H := hP
  have hD : va_D A ([(h0, .inr (0, [.ref ha, .ref hc, .ref hk])), (ha, .inl (cA, 16, .inr (.inr (.inr (.inr (fun k => some (ad k))))))), (hc, .inr (2, [.ref h1, .ref h2, .ref h3])), (h1, .inr (1, nm_fs x1)), (h2, .inr (1, nm_fs x2)), (h3, .inr (1, nm_fs x3)), (hk, .inr (3, [.ref h4, .ref h5])), (h4, .inr (1, nm_fs x4)), (h5, .inr (1, nm_fs x5))] ++ np_pool 1 ad sg) := hD
  refine lv_if_ne (tgt := 17) hx hb dX0_look_4 (by decide) (fun _ => ?_) (fun h9 => absurd h9 hn1)
  refine lv_aload_n hx hb dX0_look_17 rfl (lv_at hl 0 rfl) ?_
  refine va_get (D := D) (ci := 0) (v := .ref ha) (C := RX0) (T := TX0) (N := 3) hx hb hts hi0 hown hK hP 0 rfl rfl 0 (by decide) hk0 (fun _ h9 => h9) rfl dX0_look_18 ?_
  refine lv_iload_n hx hb dX0_look_21 rfl (lv_at hl 1 rfl) ?_
  refine va_aldq (C := RX1) hx hb hK hP 1 0 rfl rfl (nb_in hn1) dX0_look_22 ?_
  refine W.eq (g2 := F0 m 23 ls [.ref (ad p1.toNatClampNeg)]) rfl ?_
  refine lv_astore_n (lv' := [(3, .ref (ad p1.toNatClampNeg)), (0, .ref h0), (1, .int p1), (2, .int p2)]) hx hb dX0_look_23 rfl hl (by decide) rfl (fun ls hl => ?_)
  refine lv_iload_n hx hb dX0_look_24 rfl (lv_at hl 3 rfl) ?_
  by_cases c3 : p2 = 0
  · refine lv_tableIn (tgt := 64) hx hb dX0_look_25 (by rw [c3]; decide) (by rw [c3]; decide) (by rw [c3]; rfl) (by decide) ?_
    refine lv_aload_n hx hb dX0_look_64 rfl (lv_at hl 0 rfl) ?_
    refine va_get (D := D) (ci := 1) (v := .long ((sg p1.toNatClampNeg).1)) (C := RX1) (T := TX1) (N := 6) hx hb hts hi1 hown hK hP (9 + p1.toNatClampNeg) (np_at rfl (nb_lt hn1)) rfl 0 (by decide) hk1 (fun _ h9 => h9) rfl dX0_look_65 ?_
    have e9 : f_X0_look sg x1 x2 x3 x4 x5 p1 p2 = (sg p1.toNatClampNeg).1 := (if_pos c3).trans (rfl)
    rw [e9]
    exact sp_lret C hAe hP hK hD hS dX0_look_68
  · by_cases c4 : p2 = 1
    · refine lv_tableIn (tgt := 69) hx hb dX0_look_25 (by rw [c4]; decide) (by rw [c4]; decide) (by rw [c4]; rfl) (by decide) ?_
      refine lv_aload_n hx hb dX0_look_69 rfl (lv_at hl 0 rfl) ?_
      refine va_get (D := D) (ci := 1) (v := .long ((sg p1.toNatClampNeg).2.1)) (C := RX1) (T := TX1) (N := 6) hx hb hts hi1 hown hK hP (9 + p1.toNatClampNeg) (np_at rfl (nb_lt hn1)) rfl 1 (by decide) hk2 (fun _ h9 => h9) rfl dX0_look_70 ?_
      have e9 : f_X0_look sg x1 x2 x3 x4 x5 p1 p2 = (sg p1.toNatClampNeg).2.1 := (if_neg c3).trans ((if_pos c4).trans (rfl))
      rw [e9]
      exact sp_lret C hAe hP hK hD hS dX0_look_73
    · by_cases c5 : p2 = 2
      · refine lv_tableIn (tgt := 74) hx hb dX0_look_25 (by rw [c5]; decide) (by rw [c5]; decide) (by rw [c5]; rfl) (by decide) ?_
        refine lv_aload_n hx hb dX0_look_74 rfl (lv_at hl 0 rfl) ?_
        refine va_get (D := D) (ci := 1) (v := .long ((sg p1.toNatClampNeg).2.2.1)) (C := RX1) (T := TX1) (N := 6) hx hb hts hi1 hown hK hP (9 + p1.toNatClampNeg) (np_at rfl (nb_lt hn1)) rfl 2 (by decide) hk3 (fun _ h9 => h9) rfl dX0_look_75 ?_
        have e9 : f_X0_look sg x1 x2 x3 x4 x5 p1 p2 = (sg p1.toNatClampNeg).2.2.1 := (if_neg c3).trans ((if_neg c4).trans ((if_pos c5).trans (rfl)))
        rw [e9]
        exact sp_lret C hAe hP hK hD hS dX0_look_78
      · by_cases c6 : p2 = 3
        · refine lv_tableIn (tgt := 79) hx hb dX0_look_25 (by rw [c6]; decide) (by rw [c6]; decide) (by rw [c6]; rfl) (by decide) ?_
          refine lv_aload_n hx hb dX0_look_79 rfl (lv_at hl 0 rfl) ?_
          refine va_get (D := D) (ci := 1) (v := .long ((sg p1.toNatClampNeg).2.2.2.1)) (C := RX1) (T := TX1) (N := 6) hx hb hts hi1 hown hK hP (9 + p1.toNatClampNeg) (np_at rfl (nb_lt hn1)) rfl 3 (by decide) hk4 (fun _ h9 => h9) rfl dX0_look_80 ?_
          have e9 : f_X0_look sg x1 x2 x3 x4 x5 p1 p2 = (sg p1.toNatClampNeg).2.2.2.1 := (if_neg c3).trans ((if_neg c4).trans ((if_neg c5).trans ((if_pos c6).trans (rfl))))
          rw [e9]
          exact sp_lret C hAe hP hK hD hS dX0_look_83
        · by_cases c7 : p2 = 4
          · refine lv_tableIn (tgt := 84) hx hb dX0_look_25 (by rw [c7]; decide) (by rw [c7]; decide) (by rw [c7]; rfl) (by decide) ?_
            refine lv_aload_n hx hb dX0_look_84 rfl (lv_at hl 0 rfl) ?_
            refine va_get (D := D) (ci := 1) (v := .long ((sg p1.toNatClampNeg).2.2.2.2.1)) (C := RX1) (T := TX1) (N := 6) hx hb hts hi1 hown hK hP (9 + p1.toNatClampNeg) (np_at rfl (nb_lt hn1)) rfl 4 (by decide) hk5 (fun _ h9 => h9) rfl dX0_look_85 ?_
            have e9 : f_X0_look sg x1 x2 x3 x4 x5 p1 p2 = (sg p1.toNatClampNeg).2.2.2.2.1 := (if_neg c3).trans ((if_neg c4).trans ((if_neg c5).trans ((if_neg c6).trans ((if_pos c7).trans (rfl)))))
            rw [e9]
            exact sp_lret C hAe hP hK hD hS dX0_look_88
          · by_cases c8 : p2 = 5
            · refine lv_tableIn (tgt := 89) hx hb dX0_look_25 (by rw [c8]; decide) (by rw [c8]; decide) (by rw [c8]; rfl) (by decide) ?_
              refine lv_aload_n hx hb dX0_look_89 rfl (lv_at hl 0 rfl) ?_
              refine va_get (D := D) (ci := 1) (v := .long ((sg p1.toNatClampNeg).2.2.2.2.2)) (C := RX1) (T := TX1) (N := 6) hx hb hts hi1 hown hK hP (9 + p1.toNatClampNeg) (np_at rfl (nb_lt hn1)) rfl 5 (by decide) hk6 (fun _ h9 => h9) rfl dX0_look_90 ?_
              have e9 : f_X0_look sg x1 x2 x3 x4 x5 p1 p2 = (sg p1.toNatClampNeg).2.2.2.2.2 := (if_neg c3).trans ((if_neg c4).trans ((if_neg c5).trans ((if_neg c6).trans ((if_neg c7).trans ((if_pos c8).trans (rfl))))))
              rw [e9]
              exact sp_lret C hAe hP hK hD hS dX0_look_93
            · have ec3 := lv_neT c3 (show (0 : Int32).toInt = 0 by decide)
              have ec4 := lv_neT c4 (show (1 : Int32).toInt = 1 by decide)
              have ec5 := lv_neT c5 (show (2 : Int32).toInt = 2 by decide)
              have ec6 := lv_neT c6 (show (3 : Int32).toInt = 3 by decide)
              have ec7 := lv_neT c7 (show (4 : Int32).toInt = 4 by decide)
              have ec8 := lv_neT c8 (show (5 : Int32).toInt = 5 by decide)
              refine lv_tableOut (tgt := 94) hx hb dX0_look_25 (by omega) (by decide) ?_
              exact absurd hw (by simp only [c3, c4, c5, c6, c7, c8, or_self, not_false_eq_true])
def f_X0_has (sg : Nat → Nm) (x1 : Nm) (x2 : Nm) (x3 : Nm) (x4 : Nm) (x5 : Nm) (p1 : Int32) (p2 : Int64) : Int32 :=
  f_X1_standsFor (sg p1.toNatClampNeg) p2
set_option maxHeartbeats 4000000 in
set_option maxRecDepth 100000 in
theorem c_X0_has (l : Launch) (D : va_G) (h0 : Nat) (ha : Nat) (hc : Nat) (h1 : Nat) (h2 : Nat) (h3 : Nat) (hk : Nat) (h4 : Nat) (h5 : Nat) (cA : ClassId) (ad : Nat → Nat) (sg : Nat → Nm) (x1 : Nm) (x2 : Nm) (x3 : Nm) (x4 : Nm) (x5 : Nm) (p1 : Int32) (p2 : Int64) (hn1 : ¬ (f_X0_isNumber p1) = 0) : sp_M l yX0_has wsX0_has ({ frames := 2, cells := 0, slots := 0, locals := 45 }) D [.ref h0, .int p1, .long p2] ([(h0, .inr (0, [.ref ha, .ref hc, .ref hk])), (ha, .inl (cA, 16, .inr (.inr (.inr (.inr (fun k => some (ad k))))))), (hc, .inr (2, [.ref h1, .ref h2, .ref h3])), (h1, .inr (1, nm_fs x1)), (h2, .inr (1, nm_fs x2)), (h3, .inr (1, nm_fs x3)), (hk, .inr (3, [.ref h4, .ref h5])), (h4, .inr (1, nm_fs x4)), (h5, .inr (1, nm_fs x5))] ++ np_pool 1 ad sg) [(cA, .object RX1)] (sp_Qz D ([(h0, .inr (0, [.ref ha, .ref hc, .ref hk])), (ha, .inl (cA, 16, .inr (.inr (.inr (.inr (fun k => some (ad k))))))), (hc, .inr (2, [.ref h1, .ref h2, .ref h3])), (h1, .inr (1, nm_fs x1)), (h2, .inr (1, nm_fs x2)), (h3, .inr (1, nm_fs x3)), (hk, .inr (3, [.ref h4, .ref h5])), (h4, .inr (1, nm_fs x4)), (h5, .inr (1, nm_fs x5))] ++ np_pool 1 ad sg) ([(h0, .inr (0, [.ref ha, .ref hc, .ref hk])), (ha, .inl (cA, 16, .inr (.inr (.inr (.inr (fun k => some (ad k))))))), (hc, .inr (2, [.ref h1, .ref h2, .ref h3])), (h1, .inr (1, nm_fs x1)), (h2, .inr (1, nm_fs x2)), (h3, .inr (1, nm_fs x3)), (hk, .inr (3, [.ref h4, .ref h5])), (h4, .inr (1, nm_fs x4)), (h5, .inr (1, nm_fs x5))] ++ np_pool 1 ad sg) [(cA, .object RX1)] (f_X0_has sg x1 x2 x3 x4 x5 p1 p2)) := by
  refine sp_ofW (cc := cX0_has) (nL := 4) (ret := (some .boolean)) (own := RX0) (by decide) rfl rfl (Nat.le_of_ble_eq_true rfl) ?_
  intro p e s m below meth c A ls hAe hnm C hA hP hK hD hS hl
  have hx := C.1
  have hb := C.2.1
  have hown := C.2.2.2.2.1
  have hts := C.2.2.2.2.2.1
  have hl : lv_has ls 4 [(0, .ref h0), (1, .int p1), (2, .long p2)] := hl
  have hi0 : ∀ w ∈ u_ws RX0 TX0 3, w ∈ wsX0_has := fun w h => List.mem_cons_of_mem _ (inX0 w h)
  have hk0 := hts _ (List.mem_cons_of_mem _ wm_119)
  refine lv_iload_n hx hb dX0_has_0 rfl (lv_at hl 1 rfl) ?_
  refine sp_callz (sp_runS (As := [.int p1]) (rest := []) C (c_X0_isNumber l D p1) (va_cwS 1 hts (gS wG_c wm_342 wm_343 wm_4 wm_341) rfl rfl rfl (by decide +kernel) ⟨Nat.le_of_ble_eq_true rfl, Nat.le_of_ble_eq_true rfl⟩) hK hP hD [] (by decide) rfl [] rfl rfl hl.1 rfl (Nat.le_of_ble_eq_true rfl) dX0_has_1 ⟨Nat.le_of_ble_eq_true rfl, Nat.le_of_ble_eq_true rfl⟩) hP hD hS hA [] rfl sp_f0 (fun H locs z1 hP hD hS => ?_)
  have hP : va_P D vwCl ([(h0, .inr (0, [.ref ha, .ref hc, .ref hk])), (ha, .inl (cA, 16, .inr (.inr (.inr (.inr (fun k => some (ad k))))))), (hc, .inr (2, [.ref h1, .ref h2, .ref h3])), (h1, .inr (1, nm_fs x1)), (h2, .inr (1, nm_fs x2)), (h3, .inr (1, nm_fs x3)), (hk, .inr (3, [.ref h4, .ref h5])), (h4, .inr (1, nm_fs x4)), (h5, .inr (1, nm_fs x5))] ++ np_pool 1 ad sg) H := hP
  have hD : va_D A ([(h0, .inr (0, [.ref ha, .ref hc, .ref hk])), (ha, .inl (cA, 16, .inr (.inr (.inr (.inr (fun k => some (ad k))))))), (hc, .inr (2, [.ref h1, .ref h2, .ref h3])), (h1, .inr (1, nm_fs x1)), (h2, .inr (1, nm_fs x2)), (h3, .inr (1, nm_fs x3)), (hk, .inr (3, [.ref h4, .ref h5])), (h4, .inr (1, nm_fs x4)), (h5, .inr (1, nm_fs x5))] ++ np_pool 1 ad sg) := hD
  refine lv_if_ne (tgt := 17) hx hb dX0_has_4 (by decide) (fun _ => ?_) (fun h9 => absurd h9 hn1)
  refine lv_aload_n hx hb dX0_has_17 rfl (lv_at hl 0 rfl) ?_
  refine va_get (D := D) (ci := 0) (v := .ref ha) (C := RX0) (T := TX0) (N := 3) hx hb hts hi0 hown hK hP 0 rfl rfl 0 (by decide) hk0 (fun _ h9 => h9) rfl dX0_has_18 ?_
  refine lv_iload_n hx hb dX0_has_21 rfl (lv_at hl 1 rfl) ?_
  refine va_aldq (C := RX1) hx hb hK hP 1 0 rfl rfl (nb_in hn1) dX0_has_22 ?_
  refine W.eq (g2 := F0 m 23 ls [.ref (ad p1.toNatClampNeg)]) rfl ?_
  refine lv_lload_n hx hb dX0_has_23 rfl (lv_at hl 2 rfl) ?_
  refine sp_callz (sp_runV (As := [.long p2]) (rest := []) C (c_X1_standsFor l D (ad p1.toNatClampNeg) (sg p1.toNatClampNeg) p2) (cwV 1 hts (gV wG_c wm_367 wm_368 wm_369 wm_31 wm_366) rfl rfl rfl (by decide +kernel) ⟨Nat.le_of_ble_eq_true rfl, Nat.le_of_ble_eq_true rfl⟩) hK hP hD [9 + p1.toNatClampNeg] rfl (sp_cc (np_at rfl (nb_lt hn1)) sp_c0) [] rfl 0 1 rfl rfl rfl rfl hl.1 rfl (Nat.le_of_ble_eq_true rfl) dX0_has_24 ⟨Nat.le_of_ble_eq_true rfl, Nat.le_of_ble_eq_true rfl⟩) hP hD hS hA [9 + p1.toNatClampNeg] (sp_cc (np_at rfl (nb_lt hn1)) sp_c0) (sp_fc sp_f0) (fun H locs z3 hP hD hS => ?_)
  have hP : va_P D vwCl ((([(h0, .inr (0, [.ref ha, .ref hc, .ref hk])), (ha, .inl (cA, 16, .inr (.inr (.inr (.inr (fun k => some (ad k))))))), (hc, .inr (2, [.ref h1, .ref h2, .ref h3])), (h1, .inr (1, nm_fs x1)), (h2, .inr (1, nm_fs x2)), (h3, .inr (1, nm_fs x3)), (hk, .inr (3, [.ref h4, .ref h5])), (h4, .inr (1, nm_fs x4)), (h5, .inr (1, nm_fs x5))] ++ np_pool 1 ad sg) : va_W).set (9 + p1.toNatClampNeg) ((ad p1.toNatClampNeg), .inr (1, nm_fs (sg p1.toNatClampNeg)))) H := hP
  have hD : va_D A ((([(h0, .inr (0, [.ref ha, .ref hc, .ref hk])), (ha, .inl (cA, 16, .inr (.inr (.inr (.inr (fun k => some (ad k))))))), (hc, .inr (2, [.ref h1, .ref h2, .ref h3])), (h1, .inr (1, nm_fs x1)), (h2, .inr (1, nm_fs x2)), (h3, .inr (1, nm_fs x3)), (hk, .inr (3, [.ref h4, .ref h5])), (h4, .inr (1, nm_fs x4)), (h5, .inr (1, nm_fs x5))] ++ np_pool 1 ad sg) : va_W).set (9 + p1.toNatClampNeg) ((ad p1.toNatClampNeg), .inr (1, nm_fs (sg p1.toNatClampNeg)))) := hD
  rw [np_same9 (nb_lt hn1)] at hP hD
  have hP : va_P D vwCl ([(h0, .inr (0, [.ref ha, .ref hc, .ref hk])), (ha, .inl (cA, 16, .inr (.inr (.inr (.inr (fun k => some (ad k))))))), (hc, .inr (2, [.ref h1, .ref h2, .ref h3])), (h1, .inr (1, nm_fs x1)), (h2, .inr (1, nm_fs x2)), (h3, .inr (1, nm_fs x3)), (hk, .inr (3, [.ref h4, .ref h5])), (h4, .inr (1, nm_fs x4)), (h5, .inr (1, nm_fs x5))] ++ np_pool 1 ad sg) H := hP
  have hD : va_D A ([(h0, .inr (0, [.ref ha, .ref hc, .ref hk])), (ha, .inl (cA, 16, .inr (.inr (.inr (.inr (fun k => some (ad k))))))), (hc, .inr (2, [.ref h1, .ref h2, .ref h3])), (h1, .inr (1, nm_fs x1)), (h2, .inr (1, nm_fs x2)), (h3, .inr (1, nm_fs x3)), (hk, .inr (3, [.ref h4, .ref h5])), (h4, .inr (1, nm_fs x4)), (h5, .inr (1, nm_fs x5))] ++ np_pool 1 ad sg) := hD
  have e9 : f_X0_has sg x1 x2 x3 x4 x5 p1 p2 = f_X1_standsFor (sg p1.toNatClampNeg) p2 := rfl
  rw [e9]
  exact sp_zret C hAe hP hK hD hS z3 dX0_has_27
def f_X0_covers (sg : Nat → Nm) (x1 : Nm) (x2 : Nm) (x3 : Nm) (x4 : Nm) (x5 : Nm) (p1 : Int32) (p2 : Int32) : Int32 :=
  f_X1_isKnownOf (sg p1.toNatClampNeg) (sg p2.toNatClampNeg)
set_option maxHeartbeats 4000000 in
set_option maxRecDepth 100000 in
theorem c_X0_covers (l : Launch) (D : va_G) (h0 : Nat) (ha : Nat) (hc : Nat) (h1 : Nat) (h2 : Nat) (h3 : Nat) (hk : Nat) (h4 : Nat) (h5 : Nat) (cA : ClassId) (ad : Nat → Nat) (sg : Nat → Nm) (x1 : Nm) (x2 : Nm) (x3 : Nm) (x4 : Nm) (x5 : Nm) (p1 : Int32) (p2 : Int32) (hn1 : ¬ (f_X0_isNumber p1) = 0) (hn2 : ¬ (f_X0_isNumber p2) = 0) : sp_M l yX0_covers wsX0_covers ({ frames := 2, cells := 0, slots := 0, locals := 44 }) D [.ref h0, .int p1, .int p2] ([(h0, .inr (0, [.ref ha, .ref hc, .ref hk])), (ha, .inl (cA, 16, .inr (.inr (.inr (.inr (fun k => some (ad k))))))), (hc, .inr (2, [.ref h1, .ref h2, .ref h3])), (h1, .inr (1, nm_fs x1)), (h2, .inr (1, nm_fs x2)), (h3, .inr (1, nm_fs x3)), (hk, .inr (3, [.ref h4, .ref h5])), (h4, .inr (1, nm_fs x4)), (h5, .inr (1, nm_fs x5))] ++ np_pool 1 ad sg) [(cA, .object RX1)] (sp_Qz D ([(h0, .inr (0, [.ref ha, .ref hc, .ref hk])), (ha, .inl (cA, 16, .inr (.inr (.inr (.inr (fun k => some (ad k))))))), (hc, .inr (2, [.ref h1, .ref h2, .ref h3])), (h1, .inr (1, nm_fs x1)), (h2, .inr (1, nm_fs x2)), (h3, .inr (1, nm_fs x3)), (hk, .inr (3, [.ref h4, .ref h5])), (h4, .inr (1, nm_fs x4)), (h5, .inr (1, nm_fs x5))] ++ np_pool 1 ad sg) ([(h0, .inr (0, [.ref ha, .ref hc, .ref hk])), (ha, .inl (cA, 16, .inr (.inr (.inr (.inr (fun k => some (ad k))))))), (hc, .inr (2, [.ref h1, .ref h2, .ref h3])), (h1, .inr (1, nm_fs x1)), (h2, .inr (1, nm_fs x2)), (h3, .inr (1, nm_fs x3)), (hk, .inr (3, [.ref h4, .ref h5])), (h4, .inr (1, nm_fs x4)), (h5, .inr (1, nm_fs x5))] ++ np_pool 1 ad sg) [(cA, .object RX1)] (f_X0_covers sg x1 x2 x3 x4 x5 p1 p2)) := by
  refine sp_ofW (cc := cX0_covers) (nL := 3) (ret := (some .boolean)) (own := RX0) (by decide) rfl rfl (Nat.le_of_ble_eq_true rfl) ?_
  intro p e s m below meth c A ls hAe hnm C hA hP hK hD hS hl
  have hx := C.1
  have hb := C.2.1
  have hown := C.2.2.2.2.1
  have hts := C.2.2.2.2.2.1
  have hl : lv_has ls 3 [(0, .ref h0), (1, .int p1), (2, .int p2)] := hl
  have hi0 : ∀ w ∈ u_ws RX0 TX0 3, w ∈ wsX0_covers := fun w h => List.mem_cons_of_mem _ (inX0 w h)
  have hk0 := hts _ (List.mem_cons_of_mem _ wm_119)
  refine lv_iload_n hx hb dX0_covers_0 rfl (lv_at hl 1 rfl) ?_
  refine sp_callz (sp_runS (As := [.int p1]) (rest := []) C (c_X0_isNumber l D p1) (va_cwS 1 hts (gS wG_c wm_342 wm_343 wm_4 wm_341) rfl rfl rfl (by decide +kernel) ⟨Nat.le_of_ble_eq_true rfl, Nat.le_of_ble_eq_true rfl⟩) hK hP hD [] (by decide) rfl [] rfl rfl hl.1 rfl (Nat.le_of_ble_eq_true rfl) dX0_covers_1 ⟨Nat.le_of_ble_eq_true rfl, Nat.le_of_ble_eq_true rfl⟩) hP hD hS hA [] rfl sp_f0 (fun H locs z1 hP hD hS => ?_)
  have hP : va_P D vwCl ([(h0, .inr (0, [.ref ha, .ref hc, .ref hk])), (ha, .inl (cA, 16, .inr (.inr (.inr (.inr (fun k => some (ad k))))))), (hc, .inr (2, [.ref h1, .ref h2, .ref h3])), (h1, .inr (1, nm_fs x1)), (h2, .inr (1, nm_fs x2)), (h3, .inr (1, nm_fs x3)), (hk, .inr (3, [.ref h4, .ref h5])), (h4, .inr (1, nm_fs x4)), (h5, .inr (1, nm_fs x5))] ++ np_pool 1 ad sg) H := hP
  have hD : va_D A ([(h0, .inr (0, [.ref ha, .ref hc, .ref hk])), (ha, .inl (cA, 16, .inr (.inr (.inr (.inr (fun k => some (ad k))))))), (hc, .inr (2, [.ref h1, .ref h2, .ref h3])), (h1, .inr (1, nm_fs x1)), (h2, .inr (1, nm_fs x2)), (h3, .inr (1, nm_fs x3)), (hk, .inr (3, [.ref h4, .ref h5])), (h4, .inr (1, nm_fs x4)), (h5, .inr (1, nm_fs x5))] ++ np_pool 1 ad sg) := hD
  refine lv_if_eq (tgt := 14) hx hb dX0_covers_4 (by decide) (fun h9 => absurd h9 hn1) (fun _ => ?_)
  refine lv_iload_n hx hb dX0_covers_7 rfl (lv_at hl 2 rfl) ?_
  refine sp_callz (sp_runS (As := [.int p2]) (rest := []) C (c_X0_isNumber l D p2) (va_cwS 1 hts (gS wG_c wm_342 wm_343 wm_4 wm_341) rfl rfl rfl (by decide +kernel) ⟨Nat.le_of_ble_eq_true rfl, Nat.le_of_ble_eq_true rfl⟩) hK hP hD [] (by decide) rfl [] rfl rfl hl.1 rfl (Nat.le_of_ble_eq_true rfl) dX0_covers_8 ⟨Nat.le_of_ble_eq_true rfl, Nat.le_of_ble_eq_true rfl⟩) hP hD hS hA [] rfl sp_f0 (fun H locs z3 hP hD hS => ?_)
  have hP : va_P D vwCl ([(h0, .inr (0, [.ref ha, .ref hc, .ref hk])), (ha, .inl (cA, 16, .inr (.inr (.inr (.inr (fun k => some (ad k))))))), (hc, .inr (2, [.ref h1, .ref h2, .ref h3])), (h1, .inr (1, nm_fs x1)), (h2, .inr (1, nm_fs x2)), (h3, .inr (1, nm_fs x3)), (hk, .inr (3, [.ref h4, .ref h5])), (h4, .inr (1, nm_fs x4)), (h5, .inr (1, nm_fs x5))] ++ np_pool 1 ad sg) H := hP
  have hD : va_D A ([(h0, .inr (0, [.ref ha, .ref hc, .ref hk])), (ha, .inl (cA, 16, .inr (.inr (.inr (.inr (fun k => some (ad k))))))), (hc, .inr (2, [.ref h1, .ref h2, .ref h3])), (h1, .inr (1, nm_fs x1)), (h2, .inr (1, nm_fs x2)), (h3, .inr (1, nm_fs x3)), (hk, .inr (3, [.ref h4, .ref h5])), (h4, .inr (1, nm_fs x4)), (h5, .inr (1, nm_fs x5))] ++ np_pool 1 ad sg) := hD
  refine lv_if_ne (tgt := 24) hx hb dX0_covers_11 (by decide) (fun _ => ?_) (fun h9 => absurd h9 hn2)
  refine lv_aload_n hx hb dX0_covers_24 rfl (lv_at hl 0 rfl) ?_
  refine va_get (D := D) (ci := 0) (v := .ref ha) (C := RX0) (T := TX0) (N := 3) hx hb hts hi0 hown hK hP 0 rfl rfl 0 (by decide) hk0 (fun _ h9 => h9) rfl dX0_covers_25 ?_
  refine lv_iload_n hx hb dX0_covers_28 rfl (lv_at hl 1 rfl) ?_
  refine va_aldq (C := RX1) hx hb hK hP 1 0 rfl rfl (nb_in hn1) dX0_covers_29 ?_
  refine W.eq (g2 := F0 m 30 ls [.ref (ad p1.toNatClampNeg)]) rfl ?_
  refine lv_aload_n hx hb dX0_covers_30 rfl (lv_at hl 0 rfl) ?_
  refine va_get (D := D) (ci := 0) (v := .ref ha) (C := RX0) (T := TX0) (N := 3) hx hb hts hi0 hown hK hP 0 rfl rfl 0 (by decide) hk0 (fun _ h9 => h9) rfl dX0_covers_31 ?_
  refine lv_iload_n hx hb dX0_covers_34 rfl (lv_at hl 2 rfl) ?_
  refine va_aldq (C := RX1) hx hb hK hP 1 0 rfl rfl (nb_in hn2) dX0_covers_35 ?_
  refine W.eq (g2 := F0 m 36 ls [.ref (ad p2.toNatClampNeg), .ref (ad p1.toNatClampNeg)]) rfl ?_
  by_cases c5 : p1 = p2
  · subst c5
    refine sp_callz (sp_runV (As := [.ref (ad p1.toNatClampNeg)]) (rest := []) C (c_X1_isKnownOf_same l D (ad p1.toNatClampNeg) (sg p1.toNatClampNeg)) (cwV 1 hts (gV wG_c wm_371 wm_372 wm_373 wm_31 wm_370) rfl rfl rfl (by decide +kernel) ⟨Nat.le_of_ble_eq_true rfl, Nat.le_of_ble_eq_true rfl⟩) hK hP hD [9 + p1.toNatClampNeg] rfl (sp_cc (np_at rfl (nb_lt hn1)) sp_c0) [] rfl 0 1 rfl rfl rfl rfl hl.1 rfl (Nat.le_of_ble_eq_true rfl) dX0_covers_36 ⟨Nat.le_of_ble_eq_true rfl, Nat.le_of_ble_eq_true rfl⟩) hP hD hS hA [9 + p1.toNatClampNeg] (sp_cc (np_at rfl (nb_lt hn1)) sp_c0) (sp_fc sp_f0) (fun H locs z6 hP hD hS => ?_)
    have hP : va_P D vwCl ((([(h0, .inr (0, [.ref ha, .ref hc, .ref hk])), (ha, .inl (cA, 16, .inr (.inr (.inr (.inr (fun k => some (ad k))))))), (hc, .inr (2, [.ref h1, .ref h2, .ref h3])), (h1, .inr (1, nm_fs x1)), (h2, .inr (1, nm_fs x2)), (h3, .inr (1, nm_fs x3)), (hk, .inr (3, [.ref h4, .ref h5])), (h4, .inr (1, nm_fs x4)), (h5, .inr (1, nm_fs x5))] ++ np_pool 1 ad sg) : va_W).set (9 + p1.toNatClampNeg) ((ad p1.toNatClampNeg), .inr (1, nm_fs (sg p1.toNatClampNeg)))) H := hP
    have hD : va_D A ((([(h0, .inr (0, [.ref ha, .ref hc, .ref hk])), (ha, .inl (cA, 16, .inr (.inr (.inr (.inr (fun k => some (ad k))))))), (hc, .inr (2, [.ref h1, .ref h2, .ref h3])), (h1, .inr (1, nm_fs x1)), (h2, .inr (1, nm_fs x2)), (h3, .inr (1, nm_fs x3)), (hk, .inr (3, [.ref h4, .ref h5])), (h4, .inr (1, nm_fs x4)), (h5, .inr (1, nm_fs x5))] ++ np_pool 1 ad sg) : va_W).set (9 + p1.toNatClampNeg) ((ad p1.toNatClampNeg), .inr (1, nm_fs (sg p1.toNatClampNeg)))) := hD
    rw [np_same9 (nb_lt hn1)] at hP hD
    have hP : va_P D vwCl ([(h0, .inr (0, [.ref ha, .ref hc, .ref hk])), (ha, .inl (cA, 16, .inr (.inr (.inr (.inr (fun k => some (ad k))))))), (hc, .inr (2, [.ref h1, .ref h2, .ref h3])), (h1, .inr (1, nm_fs x1)), (h2, .inr (1, nm_fs x2)), (h3, .inr (1, nm_fs x3)), (hk, .inr (3, [.ref h4, .ref h5])), (h4, .inr (1, nm_fs x4)), (h5, .inr (1, nm_fs x5))] ++ np_pool 1 ad sg) H := hP
    have hD : va_D A ([(h0, .inr (0, [.ref ha, .ref hc, .ref hk])), (ha, .inl (cA, 16, .inr (.inr (.inr (.inr (fun k => some (ad k))))))), (hc, .inr (2, [.ref h1, .ref h2, .ref h3])), (h1, .inr (1, nm_fs x1)), (h2, .inr (1, nm_fs x2)), (h3, .inr (1, nm_fs x3)), (hk, .inr (3, [.ref h4, .ref h5])), (h4, .inr (1, nm_fs x4)), (h5, .inr (1, nm_fs x5))] ++ np_pool 1 ad sg) := hD
    have e9 : f_X0_covers sg x1 x2 x3 x4 x5 p1 p1 = f_X1_isKnownOf (sg p1.toNatClampNeg) (sg p1.toNatClampNeg) := rfl
    rw [e9]
    exact sp_zret C hAe hP hK hD hS z6 dX0_covers_39
  · refine sp_callz (sp_runV (As := [.ref (ad p2.toNatClampNeg)]) (rest := []) C (c_X1_isKnownOf l D (ad p1.toNatClampNeg) (ad p2.toNatClampNeg) (sg p1.toNatClampNeg) (sg p2.toNatClampNeg)) (cwV 1 hts (gV wG_c wm_371 wm_372 wm_373 wm_31 wm_370) rfl rfl rfl (by decide +kernel) ⟨Nat.le_of_ble_eq_true rfl, Nat.le_of_ble_eq_true rfl⟩) hK hP hD [9 + p1.toNatClampNeg, 9 + p2.toNatClampNeg] (by have h9 := nb_ne hn1 hn2 c5; simp [va_nd]; omega) (sp_cc (np_at rfl (nb_lt hn1)) (sp_cc (np_at rfl (nb_lt hn2)) sp_c0)) [] rfl 0 1 rfl rfl rfl rfl hl.1 rfl (Nat.le_of_ble_eq_true rfl) dX0_covers_36 ⟨Nat.le_of_ble_eq_true rfl, Nat.le_of_ble_eq_true rfl⟩) hP hD hS hA [9 + p1.toNatClampNeg, 9 + p2.toNatClampNeg] (sp_cc (np_at rfl (nb_lt hn1)) (sp_cc (np_at rfl (nb_lt hn2)) sp_c0)) (sp_fc (sp_fc sp_f0)) (fun H locs z7 hP hD hS => ?_)
    have hP : va_P D vwCl (((([(h0, .inr (0, [.ref ha, .ref hc, .ref hk])), (ha, .inl (cA, 16, .inr (.inr (.inr (.inr (fun k => some (ad k))))))), (hc, .inr (2, [.ref h1, .ref h2, .ref h3])), (h1, .inr (1, nm_fs x1)), (h2, .inr (1, nm_fs x2)), (h3, .inr (1, nm_fs x3)), (hk, .inr (3, [.ref h4, .ref h5])), (h4, .inr (1, nm_fs x4)), (h5, .inr (1, nm_fs x5))] ++ np_pool 1 ad sg) : va_W).set (9 + p1.toNatClampNeg) ((ad p1.toNatClampNeg), .inr (1, nm_fs (sg p1.toNatClampNeg))) : va_W).set (9 + p2.toNatClampNeg) ((ad p2.toNatClampNeg), .inr (1, nm_fs (sg p2.toNatClampNeg)))) H := hP
    have hD : va_D A (((([(h0, .inr (0, [.ref ha, .ref hc, .ref hk])), (ha, .inl (cA, 16, .inr (.inr (.inr (.inr (fun k => some (ad k))))))), (hc, .inr (2, [.ref h1, .ref h2, .ref h3])), (h1, .inr (1, nm_fs x1)), (h2, .inr (1, nm_fs x2)), (h3, .inr (1, nm_fs x3)), (hk, .inr (3, [.ref h4, .ref h5])), (h4, .inr (1, nm_fs x4)), (h5, .inr (1, nm_fs x5))] ++ np_pool 1 ad sg) : va_W).set (9 + p1.toNatClampNeg) ((ad p1.toNatClampNeg), .inr (1, nm_fs (sg p1.toNatClampNeg))) : va_W).set (9 + p2.toNatClampNeg) ((ad p2.toNatClampNeg), .inr (1, nm_fs (sg p2.toNatClampNeg)))) := hD
    rw [np_same9 (nb_lt hn1), np_same9 (nb_lt hn2)] at hP hD
    have hP : va_P D vwCl ([(h0, .inr (0, [.ref ha, .ref hc, .ref hk])), (ha, .inl (cA, 16, .inr (.inr (.inr (.inr (fun k => some (ad k))))))), (hc, .inr (2, [.ref h1, .ref h2, .ref h3])), (h1, .inr (1, nm_fs x1)), (h2, .inr (1, nm_fs x2)), (h3, .inr (1, nm_fs x3)), (hk, .inr (3, [.ref h4, .ref h5])), (h4, .inr (1, nm_fs x4)), (h5, .inr (1, nm_fs x5))] ++ np_pool 1 ad sg) H := hP
    have hD : va_D A ([(h0, .inr (0, [.ref ha, .ref hc, .ref hk])), (ha, .inl (cA, 16, .inr (.inr (.inr (.inr (fun k => some (ad k))))))), (hc, .inr (2, [.ref h1, .ref h2, .ref h3])), (h1, .inr (1, nm_fs x1)), (h2, .inr (1, nm_fs x2)), (h3, .inr (1, nm_fs x3)), (hk, .inr (3, [.ref h4, .ref h5])), (h4, .inr (1, nm_fs x4)), (h5, .inr (1, nm_fs x5))] ++ np_pool 1 ad sg) := hD
    have e9 : f_X0_covers sg x1 x2 x3 x4 x5 p1 p2 = f_X1_isKnownOf (sg p1.toNatClampNeg) (sg p2.toNatClampNeg) := rfl
    rw [e9]
    exact sp_zret C hAe hP hK hD hS z7 dX0_covers_39
