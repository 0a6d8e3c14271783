theorem wm_5 : (.constant RJI 264 65536 : Cond) ∈ wsG := wG_of 268 (by decide +kernel) (by decide +kernel)
theorem wm_6 : (.code yJI_numberOfLeadingZeros cJI_numberOfLeadingZeros 2 (some .int) : Cond) ∈ wsG := wG_of 267 (by decide +kernel) (by decide +kernel)
theorem wm_7 : (.methodLink RJL 308 yJI_numberOfLeadingZeros : Cond) ∈ wsG := wG_of 265 (by decide +kernel) (by decide +kernel)
theorem wm_8 : (.static yJI_numberOfLeadingZeros : Cond) ∈ wsG := wG_of 266 (by decide +kernel) (by decide +kernel)
theorem wm_9 : (.initialized RJI : Cond) ∈ wsG := wG_of 68 (by decide +kernel) (by decide +kernel)
theorem wm_10 : (.code yJI_numberOfTrailingZeros cJI_numberOfTrailingZeros 2 (some .int) : Cond) ∈ wsG := wG_of 352 (by decide +kernel) (by decide +kernel)
theorem wm_11 : (.methodLink RJL 311 yJI_numberOfTrailingZeros : Cond) ∈ wsG := wG_of 350 (by decide +kernel) (by decide +kernel)
theorem wm_12 : (.static yJI_numberOfTrailingZeros : Cond) ∈ wsG := wG_of 351 (by decide +kernel) (by decide +kernel)
theorem wm_13 : (.constantLong RJL 327 71777214294589695 : Cond) ∈ wsG := wG_of 404 (by decide +kernel) (by decide +kernel)
theorem wm_14 : (.constantLong RJL 329 4294901760 : Cond) ∈ wsG := wG_of 405 (by decide +kernel) (by decide +kernel)
theorem wm_15 : (.constantLong RJL 314 6148914691236517205 : Cond) ∈ wsG := wG_of 471 (by decide +kernel) (by decide +kernel)
theorem wm_16 : (.constantLong RJL 316 3689348814741910323 : Cond) ∈ wsG := wG_of 472 (by decide +kernel) (by decide +kernel)
theorem wm_17 : (.constantLong RJL 318 1085102592571150095 : Cond) ∈ wsG := wG_of 473 (by decide +kernel) (by decide +kernel)
theorem dJI_numberOfLeadingZeros_0 : decode cJI_numberOfLeadingZeros 0 = .ok (.iload_n 0, 1) := by decide +kernel
theorem dJI_numberOfLeadingZeros_1 : decode cJI_numberOfLeadingZeros 1 = .ok (.ifCond .gt 14, 3) := by decide +kernel
theorem dJI_numberOfLeadingZeros_4 : decode cJI_numberOfLeadingZeros 4 = .ok (.iload_n 0, 1) := by decide +kernel
theorem dJI_numberOfLeadingZeros_5 : decode cJI_numberOfLeadingZeros 5 = .ok (.ifCond .ne 8, 3) := by decide +kernel
theorem dJI_numberOfLeadingZeros_8 : decode cJI_numberOfLeadingZeros 8 = .ok (.bipush 32, 2) := by decide +kernel
theorem dJI_numberOfLeadingZeros_10 : decode cJI_numberOfLeadingZeros 10 = .ok (.goto 4, 3) := by decide +kernel
theorem dJI_numberOfLeadingZeros_13 : decode cJI_numberOfLeadingZeros 13 = .ok (.iconst 0, 1) := by decide +kernel
theorem dJI_numberOfLeadingZeros_14 : decode cJI_numberOfLeadingZeros 14 = .ok (.ireturn, 1) := by decide +kernel
theorem dJI_numberOfLeadingZeros_15 : decode cJI_numberOfLeadingZeros 15 = .ok (.bipush 31, 2) := by decide +kernel
theorem dJI_numberOfLeadingZeros_17 : decode cJI_numberOfLeadingZeros 17 = .ok (.istore_n 1, 1) := by decide +kernel
theorem dJI_numberOfLeadingZeros_18 : decode cJI_numberOfLeadingZeros 18 = .ok (.iload_n 0, 1) := by decide +kernel
theorem dJI_numberOfLeadingZeros_19 : decode cJI_numberOfLeadingZeros 19 = .ok (.ldc_w 264, 3) := by decide +kernel
theorem dJI_numberOfLeadingZeros_22 : decode cJI_numberOfLeadingZeros 22 = .ok (.if_icmp .lt 11, 3) := by decide +kernel
theorem dJI_numberOfLeadingZeros_25 : decode cJI_numberOfLeadingZeros 25 = .ok (.iinc 1 (-16), 3) := by decide +kernel
theorem dJI_numberOfLeadingZeros_28 : decode cJI_numberOfLeadingZeros 28 = .ok (.iload_n 0, 1) := by decide +kernel
theorem dJI_numberOfLeadingZeros_29 : decode cJI_numberOfLeadingZeros 29 = .ok (.bipush 16, 2) := by decide +kernel
theorem dJI_numberOfLeadingZeros_31 : decode cJI_numberOfLeadingZeros 31 = .ok (.iushr, 1) := by decide +kernel
theorem dJI_numberOfLeadingZeros_32 : decode cJI_numberOfLeadingZeros 32 = .ok (.istore_n 0, 1) := by decide +kernel
theorem dJI_numberOfLeadingZeros_33 : decode cJI_numberOfLeadingZeros 33 = .ok (.iload_n 0, 1) := by decide +kernel
theorem dJI_numberOfLeadingZeros_34 : decode cJI_numberOfLeadingZeros 34 = .ok (.sipush 256, 3) := by decide +kernel
theorem dJI_numberOfLeadingZeros_37 : decode cJI_numberOfLeadingZeros 37 = .ok (.if_icmp .lt 11, 3) := by decide +kernel
theorem dJI_numberOfLeadingZeros_40 : decode cJI_numberOfLeadingZeros 40 = .ok (.iinc 1 (-8), 3) := by decide +kernel
theorem dJI_numberOfLeadingZeros_43 : decode cJI_numberOfLeadingZeros 43 = .ok (.iload_n 0, 1) := by decide +kernel
theorem dJI_numberOfLeadingZeros_44 : decode cJI_numberOfLeadingZeros 44 = .ok (.bipush 8, 2) := by decide +kernel
theorem dJI_numberOfLeadingZeros_46 : decode cJI_numberOfLeadingZeros 46 = .ok (.iushr, 1) := by decide +kernel
theorem dJI_numberOfLeadingZeros_47 : decode cJI_numberOfLeadingZeros 47 = .ok (.istore_n 0, 1) := by decide +kernel
theorem dJI_numberOfLeadingZeros_48 : decode cJI_numberOfLeadingZeros 48 = .ok (.iload_n 0, 1) := by decide +kernel
theorem dJI_numberOfLeadingZeros_49 : decode cJI_numberOfLeadingZeros 49 = .ok (.bipush 16, 2) := by decide +kernel
theorem dJI_numberOfLeadingZeros_51 : decode cJI_numberOfLeadingZeros 51 = .ok (.if_icmp .lt 10, 3) := by decide +kernel
theorem dJI_numberOfLeadingZeros_54 : decode cJI_numberOfLeadingZeros 54 = .ok (.iinc 1 (-4), 3) := by decide +kernel
theorem dJI_numberOfLeadingZeros_57 : decode cJI_numberOfLeadingZeros 57 = .ok (.iload_n 0, 1) := by decide +kernel
theorem dJI_numberOfLeadingZeros_58 : decode cJI_numberOfLeadingZeros 58 = .ok (.iconst 4, 1) := by decide +kernel
theorem dJI_numberOfLeadingZeros_59 : decode cJI_numberOfLeadingZeros 59 = .ok (.iushr, 1) := by decide +kernel
theorem dJI_numberOfLeadingZeros_60 : decode cJI_numberOfLeadingZeros 60 = .ok (.istore_n 0, 1) := by decide +kernel
theorem dJI_numberOfLeadingZeros_61 : decode cJI_numberOfLeadingZeros 61 = .ok (.iload_n 0, 1) := by decide +kernel
theorem dJI_numberOfLeadingZeros_62 : decode cJI_numberOfLeadingZeros 62 = .ok (.iconst 4, 1) := by decide +kernel
theorem dJI_numberOfLeadingZeros_63 : decode cJI_numberOfLeadingZeros 63 = .ok (.if_icmp .lt 10, 3) := by decide +kernel
theorem dJI_numberOfLeadingZeros_66 : decode cJI_numberOfLeadingZeros 66 = .ok (.iinc 1 (-2), 3) := by decide +kernel
theorem dJI_numberOfLeadingZeros_69 : decode cJI_numberOfLeadingZeros 69 = .ok (.iload_n 0, 1) := by decide +kernel
theorem dJI_numberOfLeadingZeros_70 : decode cJI_numberOfLeadingZeros 70 = .ok (.iconst 2, 1) := by decide +kernel
theorem dJI_numberOfLeadingZeros_71 : decode cJI_numberOfLeadingZeros 71 = .ok (.iushr, 1) := by decide +kernel
theorem dJI_numberOfLeadingZeros_72 : decode cJI_numberOfLeadingZeros 72 = .ok (.istore_n 0, 1) := by decide +kernel
theorem dJI_numberOfLeadingZeros_73 : decode cJI_numberOfLeadingZeros 73 = .ok (.iload_n 1, 1) := by decide +kernel
theorem dJI_numberOfLeadingZeros_74 : decode cJI_numberOfLeadingZeros 74 = .ok (.iload_n 0, 1) := by decide +kernel
theorem dJI_numberOfLeadingZeros_75 : decode cJI_numberOfLeadingZeros 75 = .ok (.iconst 1, 1) := by decide +kernel
theorem dJI_numberOfLeadingZeros_76 : decode cJI_numberOfLeadingZeros 76 = .ok (.iushr, 1) := by decide +kernel
theorem dJI_numberOfLeadingZeros_77 : decode cJI_numberOfLeadingZeros 77 = .ok (.isub, 1) := by decide +kernel
theorem dJI_numberOfLeadingZeros_78 : decode cJI_numberOfLeadingZeros 78 = .ok (.ireturn, 1) := by decide +kernel
theorem dJI_numberOfTrailingZeros_0 : decode cJI_numberOfTrailingZeros 0 = .ok (.iload_n 0, 1) := by decide +kernel
theorem dJI_numberOfTrailingZeros_1 : decode cJI_numberOfTrailingZeros 1 = .ok (.iconst (-1), 1) := by decide +kernel
theorem dJI_numberOfTrailingZeros_2 : decode cJI_numberOfTrailingZeros 2 = .ok (.ixor, 1) := by decide +kernel
theorem dJI_numberOfTrailingZeros_3 : decode cJI_numberOfTrailingZeros 3 = .ok (.iload_n 0, 1) := by decide +kernel
theorem dJI_numberOfTrailingZeros_4 : decode cJI_numberOfTrailingZeros 4 = .ok (.iconst 1, 1) := by decide +kernel
theorem dJI_numberOfTrailingZeros_5 : decode cJI_numberOfTrailingZeros 5 = .ok (.isub, 1) := by decide +kernel
theorem dJI_numberOfTrailingZeros_6 : decode cJI_numberOfTrailingZeros 6 = .ok (.iand, 1) := by decide +kernel
theorem dJI_numberOfTrailingZeros_7 : decode cJI_numberOfTrailingZeros 7 = .ok (.istore_n 0, 1) := by decide +kernel
theorem dJI_numberOfTrailingZeros_8 : decode cJI_numberOfTrailingZeros 8 = .ok (.iload_n 0, 1) := by decide +kernel
theorem dJI_numberOfTrailingZeros_9 : decode cJI_numberOfTrailingZeros 9 = .ok (.ifCond .gt 8, 3) := by decide +kernel
theorem dJI_numberOfTrailingZeros_12 : decode cJI_numberOfTrailingZeros 12 = .ok (.iload_n 0, 1) := by decide +kernel
theorem dJI_numberOfTrailingZeros_13 : decode cJI_numberOfTrailingZeros 13 = .ok (.bipush 32, 2) := by decide +kernel
theorem dJI_numberOfTrailingZeros_15 : decode cJI_numberOfTrailingZeros 15 = .ok (.iand, 1) := by decide +kernel
theorem dJI_numberOfTrailingZeros_16 : decode cJI_numberOfTrailingZeros 16 = .ok (.ireturn, 1) := by decide +kernel
theorem dJI_numberOfTrailingZeros_17 : decode cJI_numberOfTrailingZeros 17 = .ok (.iconst 1, 1) := by decide +kernel
theorem dJI_numberOfTrailingZeros_18 : decode cJI_numberOfTrailingZeros 18 = .ok (.istore_n 1, 1) := by decide +kernel
theorem dJI_numberOfTrailingZeros_19 : decode cJI_numberOfTrailingZeros 19 = .ok (.iload_n 0, 1) := by decide +kernel
theorem dJI_numberOfTrailingZeros_20 : decode cJI_numberOfTrailingZeros 20 = .ok (.ldc_w 264, 3) := by decide +kernel
theorem dJI_numberOfTrailingZeros_23 : decode cJI_numberOfTrailingZeros 23 = .ok (.if_icmp .le 11, 3) := by decide +kernel
theorem dJI_numberOfTrailingZeros_26 : decode cJI_numberOfTrailingZeros 26 = .ok (.iinc 1 16, 3) := by decide +kernel
theorem dJI_numberOfTrailingZeros_29 : decode cJI_numberOfTrailingZeros 29 = .ok (.iload_n 0, 1) := by decide +kernel
theorem dJI_numberOfTrailingZeros_30 : decode cJI_numberOfTrailingZeros 30 = .ok (.bipush 16, 2) := by decide +kernel
theorem dJI_numberOfTrailingZeros_32 : decode cJI_numberOfTrailingZeros 32 = .ok (.iushr, 1) := by decide +kernel
theorem dJI_numberOfTrailingZeros_33 : decode cJI_numberOfTrailingZeros 33 = .ok (.istore_n 0, 1) := by decide +kernel
theorem dJI_numberOfTrailingZeros_34 : decode cJI_numberOfTrailingZeros 34 = .ok (.iload_n 0, 1) := by decide +kernel
theorem dJI_numberOfTrailingZeros_35 : decode cJI_numberOfTrailingZeros 35 = .ok (.sipush 256, 3) := by decide +kernel
theorem dJI_numberOfTrailingZeros_38 : decode cJI_numberOfTrailingZeros 38 = .ok (.if_icmp .le 11, 3) := by decide +kernel
theorem dJI_numberOfTrailingZeros_41 : decode cJI_numberOfTrailingZeros 41 = .ok (.iinc 1 8, 3) := by decide +kernel
theorem dJI_numberOfTrailingZeros_44 : decode cJI_numberOfTrailingZeros 44 = .ok (.iload_n 0, 1) := by decide +kernel
theorem dJI_numberOfTrailingZeros_45 : decode cJI_numberOfTrailingZeros 45 = .ok (.bipush 8, 2) := by decide +kernel
theorem dJI_numberOfTrailingZeros_47 : decode cJI_numberOfTrailingZeros 47 = .ok (.iushr, 1) := by decide +kernel
theorem dJI_numberOfTrailingZeros_48 : decode cJI_numberOfTrailingZeros 48 = .ok (.istore_n 0, 1) := by decide +kernel
theorem dJI_numberOfTrailingZeros_49 : decode cJI_numberOfTrailingZeros 49 = .ok (.iload_n 0, 1) := by decide +kernel
theorem dJI_numberOfTrailingZeros_50 : decode cJI_numberOfTrailingZeros 50 = .ok (.bipush 16, 2) := by decide +kernel
theorem dJI_numberOfTrailingZeros_52 : decode cJI_numberOfTrailingZeros 52 = .ok (.if_icmp .le 10, 3) := by decide +kernel
theorem dJI_numberOfTrailingZeros_55 : decode cJI_numberOfTrailingZeros 55 = .ok (.iinc 1 4, 3) := by decide +kernel
theorem dJI_numberOfTrailingZeros_58 : decode cJI_numberOfTrailingZeros 58 = .ok (.iload_n 0, 1) := by decide +kernel
theorem dJI_numberOfTrailingZeros_59 : decode cJI_numberOfTrailingZeros 59 = .ok (.iconst 4, 1) := by decide +kernel
theorem dJI_numberOfTrailingZeros_60 : decode cJI_numberOfTrailingZeros 60 = .ok (.iushr, 1) := by decide +kernel
theorem dJI_numberOfTrailingZeros_61 : decode cJI_numberOfTrailingZeros 61 = .ok (.istore_n 0, 1) := by decide +kernel
theorem dJI_numberOfTrailingZeros_62 : decode cJI_numberOfTrailingZeros 62 = .ok (.iload_n 0, 1) := by decide +kernel
theorem dJI_numberOfTrailingZeros_63 : decode cJI_numberOfTrailingZeros 63 = .ok (.iconst 4, 1) := by decide +kernel
theorem dJI_numberOfTrailingZeros_64 : decode cJI_numberOfTrailingZeros 64 = .ok (.if_icmp .le 10, 3) := by decide +kernel
theorem dJI_numberOfTrailingZeros_67 : decode cJI_numberOfTrailingZeros 67 = .ok (.iinc 1 2, 3) := by decide +kernel
theorem dJI_numberOfTrailingZeros_70 : decode cJI_numberOfTrailingZeros 70 = .ok (.iload_n 0, 1) := by decide +kernel
theorem dJI_numberOfTrailingZeros_71 : decode cJI_numberOfTrailingZeros 71 = .ok (.iconst 2, 1) := by decide +kernel
theorem dJI_numberOfTrailingZeros_72 : decode cJI_numberOfTrailingZeros 72 = .ok (.iushr, 1) := by decide +kernel
theorem dJI_numberOfTrailingZeros_73 : decode cJI_numberOfTrailingZeros 73 = .ok (.istore_n 0, 1) := by decide +kernel
theorem dJI_numberOfTrailingZeros_74 : decode cJI_numberOfTrailingZeros 74 = .ok (.iload_n 1, 1) := by decide +kernel
theorem dJI_numberOfTrailingZeros_75 : decode cJI_numberOfTrailingZeros 75 = .ok (.iload_n 0, 1) := by decide +kernel
theorem dJI_numberOfTrailingZeros_76 : decode cJI_numberOfTrailingZeros 76 = .ok (.iconst 1, 1) := by decide +kernel
theorem dJI_numberOfTrailingZeros_77 : decode cJI_numberOfTrailingZeros 77 = .ok (.iushr, 1) := by decide +kernel
theorem dJI_numberOfTrailingZeros_78 : decode cJI_numberOfTrailingZeros 78 = .ok (.iadd, 1) := by decide +kernel
theorem dJI_numberOfTrailingZeros_79 : decode cJI_numberOfTrailingZeros 79 = .ok (.ireturn, 1) := by decide +kernel
theorem dJL_numberOfLeadingZeros_0 : decode cJL_numberOfLeadingZeros 0 = .ok (.lload_n 0, 1) := by decide +kernel
theorem dJL_numberOfLeadingZeros_1 : decode cJL_numberOfLeadingZeros 1 = .ok (.bipush 32, 2) := by decide +kernel
theorem dJL_numberOfLeadingZeros_3 : decode cJL_numberOfLeadingZeros 3 = .ok (.lushr, 1) := by decide +kernel
theorem dJL_numberOfLeadingZeros_4 : decode cJL_numberOfLeadingZeros 4 = .ok (.l2i, 1) := by decide +kernel
theorem dJL_numberOfLeadingZeros_5 : decode cJL_numberOfLeadingZeros 5 = .ok (.istore_n 2, 1) := by decide +kernel
theorem dJL_numberOfLeadingZeros_6 : decode cJL_numberOfLeadingZeros 6 = .ok (.iload_n 2, 1) := by decide +kernel
theorem dJL_numberOfLeadingZeros_7 : decode cJL_numberOfLeadingZeros 7 = .ok (.ifCond .ne 14, 3) := by decide +kernel
theorem dJL_numberOfLeadingZeros_10 : decode cJL_numberOfLeadingZeros 10 = .ok (.bipush 32, 2) := by decide +kernel
theorem dJL_numberOfLeadingZeros_12 : decode cJL_numberOfLeadingZeros 12 = .ok (.lload_n 0, 1) := by decide +kernel
theorem dJL_numberOfLeadingZeros_13 : decode cJL_numberOfLeadingZeros 13 = .ok (.l2i, 1) := by decide +kernel
theorem dJL_numberOfLeadingZeros_14 : decode cJL_numberOfLeadingZeros 14 = .ok (.invokestatic 308, 3) := by decide +kernel
theorem dJL_numberOfLeadingZeros_17 : decode cJL_numberOfLeadingZeros 17 = .ok (.iadd, 1) := by decide +kernel
theorem dJL_numberOfLeadingZeros_18 : decode cJL_numberOfLeadingZeros 18 = .ok (.goto 7, 3) := by decide +kernel
theorem dJL_numberOfLeadingZeros_21 : decode cJL_numberOfLeadingZeros 21 = .ok (.iload_n 2, 1) := by decide +kernel
theorem dJL_numberOfLeadingZeros_22 : decode cJL_numberOfLeadingZeros 22 = .ok (.invokestatic 308, 3) := by decide +kernel
theorem dJL_numberOfLeadingZeros_25 : decode cJL_numberOfLeadingZeros 25 = .ok (.ireturn, 1) := by decide +kernel
theorem dJL_numberOfTrailingZeros_0 : decode cJL_numberOfTrailingZeros 0 = .ok (.lload_n 0, 1) := by decide +kernel
theorem dJL_numberOfTrailingZeros_1 : decode cJL_numberOfTrailingZeros 1 = .ok (.l2i, 1) := by decide +kernel
theorem dJL_numberOfTrailingZeros_2 : decode cJL_numberOfTrailingZeros 2 = .ok (.istore_n 2, 1) := by decide +kernel
theorem dJL_numberOfTrailingZeros_3 : decode cJL_numberOfTrailingZeros 3 = .ok (.iload_n 2, 1) := by decide +kernel
theorem dJL_numberOfTrailingZeros_4 : decode cJL_numberOfTrailingZeros 4 = .ok (.ifCond .ne 17, 3) := by decide +kernel
theorem dJL_numberOfTrailingZeros_7 : decode cJL_numberOfTrailingZeros 7 = .ok (.bipush 32, 2) := by decide +kernel
theorem dJL_numberOfTrailingZeros_9 : decode cJL_numberOfTrailingZeros 9 = .ok (.lload_n 0, 1) := by decide +kernel
theorem dJL_numberOfTrailingZeros_10 : decode cJL_numberOfTrailingZeros 10 = .ok (.bipush 32, 2) := by decide +kernel
theorem dJL_numberOfTrailingZeros_12 : decode cJL_numberOfTrailingZeros 12 = .ok (.lushr, 1) := by decide +kernel
theorem dJL_numberOfTrailingZeros_13 : decode cJL_numberOfTrailingZeros 13 = .ok (.l2i, 1) := by decide +kernel
theorem dJL_numberOfTrailingZeros_14 : decode cJL_numberOfTrailingZeros 14 = .ok (.invokestatic 311, 3) := by decide +kernel
theorem dJL_numberOfTrailingZeros_17 : decode cJL_numberOfTrailingZeros 17 = .ok (.iadd, 1) := by decide +kernel
theorem dJL_numberOfTrailingZeros_18 : decode cJL_numberOfTrailingZeros 18 = .ok (.goto 7, 3) := by decide +kernel
theorem dJL_numberOfTrailingZeros_21 : decode cJL_numberOfTrailingZeros 21 = .ok (.iload_n 2, 1) := by decide +kernel
theorem dJL_numberOfTrailingZeros_22 : decode cJL_numberOfTrailingZeros 22 = .ok (.invokestatic 311, 3) := by decide +kernel
theorem dJL_numberOfTrailingZeros_25 : decode cJL_numberOfTrailingZeros 25 = .ok (.ireturn, 1) := by decide +kernel
theorem dJL_reverseBytes_0 : decode cJL_reverseBytes 0 = .ok (.lload_n 0, 1) := by decide +kernel
theorem dJL_reverseBytes_1 : decode cJL_reverseBytes 1 = .ok (.ldc2_w 327, 3) := by decide +kernel
theorem dJL_reverseBytes_4 : decode cJL_reverseBytes 4 = .ok (.land, 1) := by decide +kernel
theorem dJL_reverseBytes_5 : decode cJL_reverseBytes 5 = .ok (.bipush 8, 2) := by decide +kernel
theorem dJL_reverseBytes_7 : decode cJL_reverseBytes 7 = .ok (.lshl, 1) := by decide +kernel
theorem dJL_reverseBytes_8 : decode cJL_reverseBytes 8 = .ok (.lload_n 0, 1) := by decide +kernel
theorem dJL_reverseBytes_9 : decode cJL_reverseBytes 9 = .ok (.bipush 8, 2) := by decide +kernel
theorem dJL_reverseBytes_11 : decode cJL_reverseBytes 11 = .ok (.lushr, 1) := by decide +kernel
theorem dJL_reverseBytes_12 : decode cJL_reverseBytes 12 = .ok (.ldc2_w 327, 3) := by decide +kernel
theorem dJL_reverseBytes_15 : decode cJL_reverseBytes 15 = .ok (.land, 1) := by decide +kernel
theorem dJL_reverseBytes_16 : decode cJL_reverseBytes 16 = .ok (.lor, 1) := by decide +kernel
theorem dJL_reverseBytes_17 : decode cJL_reverseBytes 17 = .ok (.lstore_n 0, 1) := by decide +kernel
theorem dJL_reverseBytes_18 : decode cJL_reverseBytes 18 = .ok (.lload_n 0, 1) := by decide +kernel
theorem dJL_reverseBytes_19 : decode cJL_reverseBytes 19 = .ok (.bipush 48, 2) := by decide +kernel
theorem dJL_reverseBytes_21 : decode cJL_reverseBytes 21 = .ok (.lshl, 1) := by decide +kernel
theorem dJL_reverseBytes_22 : decode cJL_reverseBytes 22 = .ok (.lload_n 0, 1) := by decide +kernel
theorem dJL_reverseBytes_23 : decode cJL_reverseBytes 23 = .ok (.ldc2_w 329, 3) := by decide +kernel
theorem dJL_reverseBytes_26 : decode cJL_reverseBytes 26 = .ok (.land, 1) := by decide +kernel
theorem dJL_reverseBytes_27 : decode cJL_reverseBytes 27 = .ok (.bipush 16, 2) := by decide +kernel
theorem dJL_reverseBytes_29 : decode cJL_reverseBytes 29 = .ok (.lshl, 1) := by decide +kernel
theorem dJL_reverseBytes_30 : decode cJL_reverseBytes 30 = .ok (.lor, 1) := by decide +kernel
theorem dJL_reverseBytes_31 : decode cJL_reverseBytes 31 = .ok (.lload_n 0, 1) := by decide +kernel
theorem dJL_reverseBytes_32 : decode cJL_reverseBytes 32 = .ok (.bipush 16, 2) := by decide +kernel
theorem dJL_reverseBytes_34 : decode cJL_reverseBytes 34 = .ok (.lushr, 1) := by decide +kernel
theorem dJL_reverseBytes_35 : decode cJL_reverseBytes 35 = .ok (.ldc2_w 329, 3) := by decide +kernel
theorem dJL_reverseBytes_38 : decode cJL_reverseBytes 38 = .ok (.land, 1) := by decide +kernel
theorem dJL_reverseBytes_39 : decode cJL_reverseBytes 39 = .ok (.lor, 1) := by decide +kernel
theorem dJL_reverseBytes_40 : decode cJL_reverseBytes 40 = .ok (.lload_n 0, 1) := by decide +kernel
theorem dJL_reverseBytes_41 : decode cJL_reverseBytes 41 = .ok (.bipush 48, 2) := by decide +kernel
theorem dJL_reverseBytes_43 : decode cJL_reverseBytes 43 = .ok (.lushr, 1) := by decide +kernel
theorem dJL_reverseBytes_44 : decode cJL_reverseBytes 44 = .ok (.lor, 1) := by decide +kernel
theorem dJL_reverseBytes_45 : decode cJL_reverseBytes 45 = .ok (.lreturn, 1) := by decide +kernel
theorem dJL_bitCount_0 : decode cJL_bitCount 0 = .ok (.lload_n 0, 1) := by decide +kernel
theorem dJL_bitCount_1 : decode cJL_bitCount 1 = .ok (.lload_n 0, 1) := by decide +kernel
theorem dJL_bitCount_2 : decode cJL_bitCount 2 = .ok (.iconst 1, 1) := by decide +kernel
theorem dJL_bitCount_3 : decode cJL_bitCount 3 = .ok (.lushr, 1) := by decide +kernel
theorem dJL_bitCount_4 : decode cJL_bitCount 4 = .ok (.ldc2_w 314, 3) := by decide +kernel
theorem dJL_bitCount_7 : decode cJL_bitCount 7 = .ok (.land, 1) := by decide +kernel
theorem dJL_bitCount_8 : decode cJL_bitCount 8 = .ok (.lsub, 1) := by decide +kernel
theorem dJL_bitCount_9 : decode cJL_bitCount 9 = .ok (.lstore_n 0, 1) := by decide +kernel
theorem dJL_bitCount_10 : decode cJL_bitCount 10 = .ok (.lload_n 0, 1) := by decide +kernel
theorem dJL_bitCount_11 : decode cJL_bitCount 11 = .ok (.ldc2_w 316, 3) := by decide +kernel
theorem dJL_bitCount_14 : decode cJL_bitCount 14 = .ok (.land, 1) := by decide +kernel
theorem dJL_bitCount_15 : decode cJL_bitCount 15 = .ok (.lload_n 0, 1) := by decide +kernel
theorem dJL_bitCount_16 : decode cJL_bitCount 16 = .ok (.iconst 2, 1) := by decide +kernel
theorem dJL_bitCount_17 : decode cJL_bitCount 17 = .ok (.lushr, 1) := by decide +kernel
theorem dJL_bitCount_18 : decode cJL_bitCount 18 = .ok (.ldc2_w 316, 3) := by decide +kernel
theorem dJL_bitCount_21 : decode cJL_bitCount 21 = .ok (.land, 1) := by decide +kernel
theorem dJL_bitCount_22 : decode cJL_bitCount 22 = .ok (.ladd, 1) := by decide +kernel
theorem dJL_bitCount_23 : decode cJL_bitCount 23 = .ok (.lstore_n 0, 1) := by decide +kernel
theorem dJL_bitCount_24 : decode cJL_bitCount 24 = .ok (.lload_n 0, 1) := by decide +kernel
theorem dJL_bitCount_25 : decode cJL_bitCount 25 = .ok (.lload_n 0, 1) := by decide +kernel
theorem dJL_bitCount_26 : decode cJL_bitCount 26 = .ok (.iconst 4, 1) := by decide +kernel
theorem dJL_bitCount_27 : decode cJL_bitCount 27 = .ok (.lushr, 1) := by decide +kernel
theorem dJL_bitCount_28 : decode cJL_bitCount 28 = .ok (.ladd, 1) := by decide +kernel
theorem dJL_bitCount_29 : decode cJL_bitCount 29 = .ok (.ldc2_w 318, 3) := by decide +kernel
theorem dJL_bitCount_32 : decode cJL_bitCount 32 = .ok (.land, 1) := by decide +kernel
theorem dJL_bitCount_33 : decode cJL_bitCount 33 = .ok (.lstore_n 0, 1) := by decide +kernel
theorem dJL_bitCount_34 : decode cJL_bitCount 34 = .ok (.lload_n 0, 1) := by decide +kernel
theorem dJL_bitCount_35 : decode cJL_bitCount 35 = .ok (.lload_n 0, 1) := by decide +kernel
theorem dJL_bitCount_36 : decode cJL_bitCount 36 = .ok (.bipush 8, 2) := by decide +kernel
theorem dJL_bitCount_38 : decode cJL_bitCount 38 = .ok (.lushr, 1) := by decide +kernel
theorem dJL_bitCount_39 : decode cJL_bitCount 39 = .ok (.ladd, 1) := by decide +kernel
theorem dJL_bitCount_40 : decode cJL_bitCount 40 = .ok (.lstore_n 0, 1) := by decide +kernel
theorem dJL_bitCount_41 : decode cJL_bitCount 41 = .ok (.lload_n 0, 1) := by decide +kernel
theorem dJL_bitCount_42 : decode cJL_bitCount 42 = .ok (.lload_n 0, 1) := by decide +kernel
theorem dJL_bitCount_43 : decode cJL_bitCount 43 = .ok (.bipush 16, 2) := by decide +kernel
theorem dJL_bitCount_45 : decode cJL_bitCount 45 = .ok (.lushr, 1) := by decide +kernel
theorem dJL_bitCount_46 : decode cJL_bitCount 46 = .ok (.ladd, 1) := by decide +kernel
theorem dJL_bitCount_47 : decode cJL_bitCount 47 = .ok (.lstore_n 0, 1) := by decide +kernel
theorem dJL_bitCount_48 : decode cJL_bitCount 48 = .ok (.lload_n 0, 1) := by decide +kernel
theorem dJL_bitCount_49 : decode cJL_bitCount 49 = .ok (.lload_n 0, 1) := by decide +kernel
theorem dJL_bitCount_50 : decode cJL_bitCount 50 = .ok (.bipush 32, 2) := by decide +kernel
theorem dJL_bitCount_52 : decode cJL_bitCount 52 = .ok (.lushr, 1) := by decide +kernel
theorem dJL_bitCount_53 : decode cJL_bitCount 53 = .ok (.ladd, 1) := by decide +kernel
theorem dJL_bitCount_54 : decode cJL_bitCount 54 = .ok (.lstore_n 0, 1) := by decide +kernel
theorem dJL_bitCount_55 : decode cJL_bitCount 55 = .ok (.lload_n 0, 1) := by decide +kernel
theorem dJL_bitCount_56 : decode cJL_bitCount 56 = .ok (.l2i, 1) := by decide +kernel
theorem dJL_bitCount_57 : decode cJL_bitCount 57 = .ok (.bipush 127, 2) := by decide +kernel
theorem dJL_bitCount_59 : decode cJL_bitCount 59 = .ok (.iand, 1) := by decide +kernel
theorem dJL_bitCount_60 : decode cJL_bitCount 60 = .ok (.ireturn, 1) := by decide +kernel
def f_JI_numberOfLeadingZeros (p1 : Int32) : Int32 :=
  if 0 < p1 then (if p1 < 65536 then (if p1 < 256 then (if p1 < 16 then (if p1 < 4 then 31 - ((p1.toUInt32 >>> ((1 : Int32).toUInt32 &&& Int32.toUInt32 31)).toInt32)
          else (let v6 : Int32 := (p1.toUInt32 >>> ((2 : Int32).toUInt32 &&& Int32.toUInt32 31)).toInt32
          29 - ((v6.toUInt32 >>> ((1 : Int32).toUInt32 &&& Int32.toUInt32 31)).toInt32)))
        else (let v7 : Int32 := (p1.toUInt32 >>> ((4 : Int32).toUInt32 &&& Int32.toUInt32 31)).toInt32
        if v7 < 4 then 27 - ((v7.toUInt32 >>> ((1 : Int32).toUInt32 &&& Int32.toUInt32 31)).toInt32)
        else (let v9 : Int32 := (v7.toUInt32 >>> ((2 : Int32).toUInt32 &&& Int32.toUInt32 31)).toInt32
        25 - ((v9.toUInt32 >>> ((1 : Int32).toUInt32 &&& Int32.toUInt32 31)).toInt32))))
      else (let v10 : Int32 := (p1.toUInt32 >>> ((8 : Int32).toUInt32 &&& Int32.toUInt32 31)).toInt32
      if v10 < 16 then (if v10 < 4 then 23 - ((v10.toUInt32 >>> ((1 : Int32).toUInt32 &&& Int32.toUInt32 31)).toInt32)
        else (let v13 : Int32 := (v10.toUInt32 >>> ((2 : Int32).toUInt32 &&& Int32.toUInt32 31)).toInt32
        21 - ((v13.toUInt32 >>> ((1 : Int32).toUInt32 &&& Int32.toUInt32 31)).toInt32)))
      else (let v14 : Int32 := (v10.toUInt32 >>> ((4 : Int32).toUInt32 &&& Int32.toUInt32 31)).toInt32
      if v14 < 4 then 19 - ((v14.toUInt32 >>> ((1 : Int32).toUInt32 &&& Int32.toUInt32 31)).toInt32)
      else (let v16 : Int32 := (v14.toUInt32 >>> ((2 : Int32).toUInt32 &&& Int32.toUInt32 31)).toInt32
      17 - ((v16.toUInt32 >>> ((1 : Int32).toUInt32 &&& Int32.toUInt32 31)).toInt32)))))
    else (let v17 : Int32 := (p1.toUInt32 >>> ((16 : Int32).toUInt32 &&& Int32.toUInt32 31)).toInt32
    if v17 < 256 then (if v17 < 16 then (if v17 < 4 then 15 - ((v17.toUInt32 >>> ((1 : Int32).toUInt32 &&& Int32.toUInt32 31)).toInt32)
        else (let v21 : Int32 := (v17.toUInt32 >>> ((2 : Int32).toUInt32 &&& Int32.toUInt32 31)).toInt32
        13 - ((v21.toUInt32 >>> ((1 : Int32).toUInt32 &&& Int32.toUInt32 31)).toInt32)))
      else (let v22 : Int32 := (v17.toUInt32 >>> ((4 : Int32).toUInt32 &&& Int32.toUInt32 31)).toInt32
      if v22 < 4 then 11 - ((v22.toUInt32 >>> ((1 : Int32).toUInt32 &&& Int32.toUInt32 31)).toInt32)
      else (let v24 : Int32 := (v22.toUInt32 >>> ((2 : Int32).toUInt32 &&& Int32.toUInt32 31)).toInt32
      9 - ((v24.toUInt32 >>> ((1 : Int32).toUInt32 &&& Int32.toUInt32 31)).toInt32))))
    else (let v25 : Int32 := (v17.toUInt32 >>> ((8 : Int32).toUInt32 &&& Int32.toUInt32 31)).toInt32
    if v25 < 16 then (if v25 < 4 then 7 - ((v25.toUInt32 >>> ((1 : Int32).toUInt32 &&& Int32.toUInt32 31)).toInt32)
      else (let v28 : Int32 := (v25.toUInt32 >>> ((2 : Int32).toUInt32 &&& Int32.toUInt32 31)).toInt32
      5 - ((v28.toUInt32 >>> ((1 : Int32).toUInt32 &&& Int32.toUInt32 31)).toInt32)))
    else (let v29 : Int32 := (v25.toUInt32 >>> ((4 : Int32).toUInt32 &&& Int32.toUInt32 31)).toInt32
    if v29 < 4 then 3 - ((v29.toUInt32 >>> ((1 : Int32).toUInt32 &&& Int32.toUInt32 31)).toInt32)
    else (let v31 : Int32 := (v29.toUInt32 >>> ((2 : Int32).toUInt32 &&& Int32.toUInt32 31)).toInt32
    1 - ((v31.toUInt32 >>> ((1 : Int32).toUInt32 &&& Int32.toUInt32 31)).toInt32))))))
  else if p1 = 0 then 32
  else 0
set_option maxHeartbeats 4000000 in
set_option maxRecDepth 100000 in
theorem c_JI_numberOfLeadingZeros (l : Launch) (D : va_G) (p1 : Int32) : sp_M l yJI_numberOfLeadingZeros wsJI_numberOfLeadingZeros ({ frames := 0, cells := 0, slots := 0, locals := 0 }) D [.int p1] ([]) [] (sp_Qi D ([]) ([]) [] (f_JI_numberOfLeadingZeros p1)) := by
  refine sp_ofW (cc := cJI_numberOfLeadingZeros) (nL := 2) (ret := (some .int)) (own := RJI) (by decide) rfl rfl (Nat.le_of_ble_eq_true rfl) ?_
  intro p e s m below meth c A ls hAe hnm C hA hP hK hD hS hl
  have hx := C.1
  have hb := C.2.1
  have hown := C.2.2.2.2.1
  have hts := C.2.2.2.2.2.1
  have hl : lv_has ls 2 [(0, .int p1)] := hl
  have hk0 := hts _ (List.mem_cons_of_mem _ wm_5)
  refine lv_iload_n hx hb dJI_numberOfLeadingZeros_0 rfl (lv_at hl 0 rfl) ?_
  refine lv_if_gt (tgt := 15) hx hb dJI_numberOfLeadingZeros_1 (by decide) (fun c1 => ?_) (fun c1 => ?_)
  · refine lv_bipush (v := 31) hx hb dJI_numberOfLeadingZeros_15 (by decide) ?_
    refine lv_istore_n (lv' := [(1, .int 31), (0, .int p1)]) hx hb dJI_numberOfLeadingZeros_17 rfl hl (by decide) rfl (fun ls hl => ?_)
    refine lv_iload_n hx hb dJI_numberOfLeadingZeros_18 rfl (lv_at hl 1 rfl) ?_
    refine lv_ldcw (v := 65536) hx hb hown hk0 dJI_numberOfLeadingZeros_19 ?_
    refine lv_icmp_lt (tgt := 33) hx hb dJI_numberOfLeadingZeros_22 (by decide) (fun c2 => ?_) (fun c2 => ?_)
    · refine lv_iload_n hx hb dJI_numberOfLeadingZeros_33 rfl (lv_at hl 1 rfl) ?_
      refine lv_sipush (v := 256) hx hb dJI_numberOfLeadingZeros_34 (by decide) ?_
      refine lv_icmp_lt (tgt := 48) hx hb dJI_numberOfLeadingZeros_37 (by decide) (fun c3 => ?_) (fun c3 => ?_)
      · refine lv_iload_n hx hb dJI_numberOfLeadingZeros_48 rfl (lv_at hl 1 rfl) ?_
        refine lv_bipush (v := 16) hx hb dJI_numberOfLeadingZeros_49 (by decide) ?_
        refine lv_icmp_lt (tgt := 61) hx hb dJI_numberOfLeadingZeros_51 (by decide) (fun c4 => ?_) (fun c4 => ?_)
        · refine lv_iload_n hx hb dJI_numberOfLeadingZeros_61 rfl (lv_at hl 1 rfl) ?_
          refine lv_iconst (v := 4) hx hb dJI_numberOfLeadingZeros_62 (by decide) ?_
          refine lv_icmp_lt (tgt := 73) hx hb dJI_numberOfLeadingZeros_63 (by decide) (fun c5 => ?_) (fun c5 => ?_)
          · refine lv_iload_n hx hb dJI_numberOfLeadingZeros_73 rfl (lv_at hl 0 rfl) ?_
            refine lv_iload_n hx hb dJI_numberOfLeadingZeros_74 rfl (lv_at hl 1 rfl) ?_
            refine lv_iconst (v := 1) hx hb dJI_numberOfLeadingZeros_75 (by decide) ?_
            refine lv_iushr (v := (p1.toUInt32 >>> ((1 : Int32).toUInt32 &&& Int32.toUInt32 31)).toInt32) hx hb dJI_numberOfLeadingZeros_76 rfl ?_
            refine lv_isub hx hb dJI_numberOfLeadingZeros_77 ?_
            have e9 : f_JI_numberOfLeadingZeros p1 = 31 - ((p1.toUInt32 >>> ((1 : Int32).toUInt32 &&& Int32.toUInt32 31)).toInt32) := (if_pos c1).trans ((if_pos c2).trans ((if_pos c3).trans ((if_pos c4).trans ((if_pos c5).trans (rfl)))))
            rw [e9]
            exact sp_iret C hAe hP hK hD hS dJI_numberOfLeadingZeros_78
          · refine lv_iinc (v := 29) (lv' := [(1, .int 29), (0, .int p1)]) hx hb dJI_numberOfLeadingZeros_66 hl (k := 0) rfl (by decide) (by decide) rfl (fun ls hl => ?_)
            refine lv_iload_n hx hb dJI_numberOfLeadingZeros_69 rfl (lv_at hl 1 rfl) ?_
            refine lv_iconst (v := 2) hx hb dJI_numberOfLeadingZeros_70 (by decide) ?_
            refine lv_iushr (v := (p1.toUInt32 >>> ((2 : Int32).toUInt32 &&& Int32.toUInt32 31)).toInt32) hx hb dJI_numberOfLeadingZeros_71 rfl ?_
            refine lv_topi (fun v6 ev6 => ?_)
            refine lv_istore_n (lv' := [(0, .int v6), (1, .int 29)]) hx hb dJI_numberOfLeadingZeros_72 rfl hl (by decide) rfl (fun ls hl => ?_)
            refine lv_iload_n hx hb dJI_numberOfLeadingZeros_73 rfl (lv_at hl 1 rfl) ?_
            refine lv_iload_n hx hb dJI_numberOfLeadingZeros_74 rfl (lv_at hl 0 rfl) ?_
            refine lv_iconst (v := 1) hx hb dJI_numberOfLeadingZeros_75 (by decide) ?_
            refine lv_iushr (v := (v6.toUInt32 >>> ((1 : Int32).toUInt32 &&& Int32.toUInt32 31)).toInt32) hx hb dJI_numberOfLeadingZeros_76 rfl ?_
            refine lv_isub hx hb dJI_numberOfLeadingZeros_77 ?_
            have e9 : f_JI_numberOfLeadingZeros p1 = 29 - ((v6.toUInt32 >>> ((1 : Int32).toUInt32 &&& Int32.toUInt32 31)).toInt32) := by
                  subst ev6
                  exact (if_pos c1).trans ((if_pos c2).trans ((if_pos c3).trans ((if_pos c4).trans ((if_neg c5).trans (rfl)))))
            rw [e9]
            exact sp_iret C hAe hP hK hD hS dJI_numberOfLeadingZeros_78
        · refine lv_iinc (v := 27) (lv' := [(1, .int 27), (0, .int p1)]) hx hb dJI_numberOfLeadingZeros_54 hl (k := 0) rfl (by decide) (by decide) rfl (fun ls hl => ?_)
          refine lv_iload_n hx hb dJI_numberOfLeadingZeros_57 rfl (lv_at hl 1 rfl) ?_
          refine lv_iconst (v := 4) hx hb dJI_numberOfLeadingZeros_58 (by decide) ?_
          refine lv_iushr (v := (p1.toUInt32 >>> ((4 : Int32).toUInt32 &&& Int32.toUInt32 31)).toInt32) hx hb dJI_numberOfLeadingZeros_59 rfl ?_
          refine lv_topi (fun v7 ev7 => ?_)
          refine lv_istore_n (lv' := [(0, .int v7), (1, .int 27)]) hx hb dJI_numberOfLeadingZeros_60 rfl hl (by decide) rfl (fun ls hl => ?_)
          refine lv_iload_n hx hb dJI_numberOfLeadingZeros_61 rfl (lv_at hl 0 rfl) ?_
          refine lv_iconst (v := 4) hx hb dJI_numberOfLeadingZeros_62 (by decide) ?_
          refine lv_icmp_lt (tgt := 73) hx hb dJI_numberOfLeadingZeros_63 (by decide) (fun c8 => ?_) (fun c8 => ?_)
          · refine lv_iload_n hx hb dJI_numberOfLeadingZeros_73 rfl (lv_at hl 1 rfl) ?_
            refine lv_iload_n hx hb dJI_numberOfLeadingZeros_74 rfl (lv_at hl 0 rfl) ?_
            refine lv_iconst (v := 1) hx hb dJI_numberOfLeadingZeros_75 (by decide) ?_
            refine lv_iushr (v := (v7.toUInt32 >>> ((1 : Int32).toUInt32 &&& Int32.toUInt32 31)).toInt32) hx hb dJI_numberOfLeadingZeros_76 rfl ?_
            refine lv_isub hx hb dJI_numberOfLeadingZeros_77 ?_
            have e9 : f_JI_numberOfLeadingZeros p1 = 27 - ((v7.toUInt32 >>> ((1 : Int32).toUInt32 &&& Int32.toUInt32 31)).toInt32) := by
                  subst ev7
                  exact (if_pos c1).trans ((if_pos c2).trans ((if_pos c3).trans ((if_neg c4).trans ((if_pos c8).trans (rfl)))))
            rw [e9]
            exact sp_iret C hAe hP hK hD hS dJI_numberOfLeadingZeros_78
          · refine lv_iinc (v := 25) (lv' := [(1, .int 25), (0, .int v7)]) hx hb dJI_numberOfLeadingZeros_66 hl (k := 1) rfl (by decide) (by decide) rfl (fun ls hl => ?_)
            refine lv_iload_n hx hb dJI_numberOfLeadingZeros_69 rfl (lv_at hl 1 rfl) ?_
            refine lv_iconst (v := 2) hx hb dJI_numberOfLeadingZeros_70 (by decide) ?_
            refine lv_iushr (v := (v7.toUInt32 >>> ((2 : Int32).toUInt32 &&& Int32.toUInt32 31)).toInt32) hx hb dJI_numberOfLeadingZeros_71 rfl ?_
            refine lv_topi (fun v9 ev9 => ?_)
            refine lv_istore_n (lv' := [(0, .int v9), (1, .int 25)]) hx hb dJI_numberOfLeadingZeros_72 rfl hl (by decide) rfl (fun ls hl => ?_)
            refine lv_iload_n hx hb dJI_numberOfLeadingZeros_73 rfl (lv_at hl 1 rfl) ?_
            refine lv_iload_n hx hb dJI_numberOfLeadingZeros_74 rfl (lv_at hl 0 rfl) ?_
            refine lv_iconst (v := 1) hx hb dJI_numberOfLeadingZeros_75 (by decide) ?_
            refine lv_iushr (v := (v9.toUInt32 >>> ((1 : Int32).toUInt32 &&& Int32.toUInt32 31)).toInt32) hx hb dJI_numberOfLeadingZeros_76 rfl ?_
            refine lv_isub hx hb dJI_numberOfLeadingZeros_77 ?_
            have e9 : f_JI_numberOfLeadingZeros p1 = 25 - ((v9.toUInt32 >>> ((1 : Int32).toUInt32 &&& Int32.toUInt32 31)).toInt32) := by
                  subst ev9
                  subst ev7
                  exact (if_pos c1).trans ((if_pos c2).trans ((if_pos c3).trans ((if_neg c4).trans ((if_neg c8).trans (rfl)))))
            rw [e9]
            exact sp_iret C hAe hP hK hD hS dJI_numberOfLeadingZeros_78
      · refine lv_iinc (v := 23) (lv' := [(1, .int 23), (0, .int p1)]) hx hb dJI_numberOfLeadingZeros_40 hl (k := 0) rfl (by decide) (by decide) rfl (fun ls hl => ?_)
        refine lv_iload_n hx hb dJI_numberOfLeadingZeros_43 rfl (lv_at hl 1 rfl) ?_
        refine lv_bipush (v := 8) hx hb dJI_numberOfLeadingZeros_44 (by decide) ?_
        refine lv_iushr (v := (p1.toUInt32 >>> ((8 : Int32).toUInt32 &&& Int32.toUInt32 31)).toInt32) hx hb dJI_numberOfLeadingZeros_46 rfl ?_
        refine lv_topi (fun v10 ev10 => ?_)
        refine lv_istore_n (lv' := [(0, .int v10), (1, .int 23)]) hx hb dJI_numberOfLeadingZeros_47 rfl hl (by decide) rfl (fun ls hl => ?_)
        refine lv_iload_n hx hb dJI_numberOfLeadingZeros_48 rfl (lv_at hl 0 rfl) ?_
        refine lv_bipush (v := 16) hx hb dJI_numberOfLeadingZeros_49 (by decide) ?_
        refine lv_icmp_lt (tgt := 61) hx hb dJI_numberOfLeadingZeros_51 (by decide) (fun c11 => ?_) (fun c11 => ?_)
        · refine lv_iload_n hx hb dJI_numberOfLeadingZeros_61 rfl (lv_at hl 0 rfl) ?_
          refine lv_iconst (v := 4) hx hb dJI_numberOfLeadingZeros_62 (by decide) ?_
          refine lv_icmp_lt (tgt := 73) hx hb dJI_numberOfLeadingZeros_63 (by decide) (fun c12 => ?_) (fun c12 => ?_)
          · refine lv_iload_n hx hb dJI_numberOfLeadingZeros_73 rfl (lv_at hl 1 rfl) ?_
            refine lv_iload_n hx hb dJI_numberOfLeadingZeros_74 rfl (lv_at hl 0 rfl) ?_
            refine lv_iconst (v := 1) hx hb dJI_numberOfLeadingZeros_75 (by decide) ?_
            refine lv_iushr (v := (v10.toUInt32 >>> ((1 : Int32).toUInt32 &&& Int32.toUInt32 31)).toInt32) hx hb dJI_numberOfLeadingZeros_76 rfl ?_
            refine lv_isub hx hb dJI_numberOfLeadingZeros_77 ?_
            have e9 : f_JI_numberOfLeadingZeros p1 = 23 - ((v10.toUInt32 >>> ((1 : Int32).toUInt32 &&& Int32.toUInt32 31)).toInt32) := by
                  subst ev10
                  exact (if_pos c1).trans ((if_pos c2).trans ((if_neg c3).trans ((if_pos c11).trans ((if_pos c12).trans (rfl)))))
            rw [e9]
            exact sp_iret C hAe hP hK hD hS dJI_numberOfLeadingZeros_78
          · refine lv_iinc (v := 21) (lv' := [(1, .int 21), (0, .int v10)]) hx hb dJI_numberOfLeadingZeros_66 hl (k := 1) rfl (by decide) (by decide) rfl (fun ls hl => ?_)
            refine lv_iload_n hx hb dJI_numberOfLeadingZeros_69 rfl (lv_at hl 1 rfl) ?_
            refine lv_iconst (v := 2) hx hb dJI_numberOfLeadingZeros_70 (by decide) ?_
            refine lv_iushr (v := (v10.toUInt32 >>> ((2 : Int32).toUInt32 &&& Int32.toUInt32 31)).toInt32) hx hb dJI_numberOfLeadingZeros_71 rfl ?_
            refine lv_topi (fun v13 ev13 => ?_)
            refine lv_istore_n (lv' := [(0, .int v13), (1, .int 21)]) hx hb dJI_numberOfLeadingZeros_72 rfl hl (by decide) rfl (fun ls hl => ?_)
            refine lv_iload_n hx hb dJI_numberOfLeadingZeros_73 rfl (lv_at hl 1 rfl) ?_
            refine lv_iload_n hx hb dJI_numberOfLeadingZeros_74 rfl (lv_at hl 0 rfl) ?_
            refine lv_iconst (v := 1) hx hb dJI_numberOfLeadingZeros_75 (by decide) ?_
            refine lv_iushr (v := (v13.toUInt32 >>> ((1 : Int32).toUInt32 &&& Int32.toUInt32 31)).toInt32) hx hb dJI_numberOfLeadingZeros_76 rfl ?_
            refine lv_isub hx hb dJI_numberOfLeadingZeros_77 ?_
            have e9 : f_JI_numberOfLeadingZeros p1 = 21 - ((v13.toUInt32 >>> ((1 : Int32).toUInt32 &&& Int32.toUInt32 31)).toInt32) := by
                  subst ev13
                  subst ev10
                  exact (if_pos c1).trans ((if_pos c2).trans ((if_neg c3).trans ((if_pos c11).trans ((if_neg c12).trans (rfl)))))
            rw [e9]
            exact sp_iret C hAe hP hK hD hS dJI_numberOfLeadingZeros_78
        · refine lv_iinc (v := 19) (lv' := [(1, .int 19), (0, .int v10)]) hx hb dJI_numberOfLeadingZeros_54 hl (k := 1) rfl (by decide) (by decide) rfl (fun ls hl => ?_)
          refine lv_iload_n hx hb dJI_numberOfLeadingZeros_57 rfl (lv_at hl 1 rfl) ?_
          refine lv_iconst (v := 4) hx hb dJI_numberOfLeadingZeros_58 (by decide) ?_
          refine lv_iushr (v := (v10.toUInt32 >>> ((4 : Int32).toUInt32 &&& Int32.toUInt32 31)).toInt32) hx hb dJI_numberOfLeadingZeros_59 rfl ?_
          refine lv_topi (fun v14 ev14 => ?_)
          refine lv_istore_n (lv' := [(0, .int v14), (1, .int 19)]) hx hb dJI_numberOfLeadingZeros_60 rfl hl (by decide) rfl (fun ls hl => ?_)
          refine lv_iload_n hx hb dJI_numberOfLeadingZeros_61 rfl (lv_at hl 0 rfl) ?_
          refine lv_iconst (v := 4) hx hb dJI_numberOfLeadingZeros_62 (by decide) ?_
          refine lv_icmp_lt (tgt := 73) hx hb dJI_numberOfLeadingZeros_63 (by decide) (fun c15 => ?_) (fun c15 => ?_)
          · refine lv_iload_n hx hb dJI_numberOfLeadingZeros_73 rfl (lv_at hl 1 rfl) ?_
            refine lv_iload_n hx hb dJI_numberOfLeadingZeros_74 rfl (lv_at hl 0 rfl) ?_
            refine lv_iconst (v := 1) hx hb dJI_numberOfLeadingZeros_75 (by decide) ?_
            refine lv_iushr (v := (v14.toUInt32 >>> ((1 : Int32).toUInt32 &&& Int32.toUInt32 31)).toInt32) hx hb dJI_numberOfLeadingZeros_76 rfl ?_
            refine lv_isub hx hb dJI_numberOfLeadingZeros_77 ?_
            have e9 : f_JI_numberOfLeadingZeros p1 = 19 - ((v14.toUInt32 >>> ((1 : Int32).toUInt32 &&& Int32.toUInt32 31)).toInt32) := by
                  subst ev14
                  subst ev10
                  exact (if_pos c1).trans ((if_pos c2).trans ((if_neg c3).trans ((if_neg c11).trans ((if_pos c15).trans (rfl)))))
            rw [e9]
            exact sp_iret C hAe hP hK hD hS dJI_numberOfLeadingZeros_78
          · refine lv_iinc (v := 17) (lv' := [(1, .int 17), (0, .int v14)]) hx hb dJI_numberOfLeadingZeros_66 hl (k := 1) rfl (by decide) (by decide) rfl (fun ls hl => ?_)
            refine lv_iload_n hx hb dJI_numberOfLeadingZeros_69 rfl (lv_at hl 1 rfl) ?_
            refine lv_iconst (v := 2) hx hb dJI_numberOfLeadingZeros_70 (by decide) ?_
            refine lv_iushr (v := (v14.toUInt32 >>> ((2 : Int32).toUInt32 &&& Int32.toUInt32 31)).toInt32) hx hb dJI_numberOfLeadingZeros_71 rfl ?_
            refine lv_topi (fun v16 ev16 => ?_)
            refine lv_istore_n (lv' := [(0, .int v16), (1, .int 17)]) hx hb dJI_numberOfLeadingZeros_72 rfl hl (by decide) rfl (fun ls hl => ?_)
            refine lv_iload_n hx hb dJI_numberOfLeadingZeros_73 rfl (lv_at hl 1 rfl) ?_
            refine lv_iload_n hx hb dJI_numberOfLeadingZeros_74 rfl (lv_at hl 0 rfl) ?_
            refine lv_iconst (v := 1) hx hb dJI_numberOfLeadingZeros_75 (by decide) ?_
            refine lv_iushr (v := (v16.toUInt32 >>> ((1 : Int32).toUInt32 &&& Int32.toUInt32 31)).toInt32) hx hb dJI_numberOfLeadingZeros_76 rfl ?_
            refine lv_isub hx hb dJI_numberOfLeadingZeros_77 ?_
            have e9 : f_JI_numberOfLeadingZeros p1 = 17 - ((v16.toUInt32 >>> ((1 : Int32).toUInt32 &&& Int32.toUInt32 31)).toInt32) := by
                  subst ev16
                  subst ev14
                  subst ev10
                  exact (if_pos c1).trans ((if_pos c2).trans ((if_neg c3).trans ((if_neg c11).trans ((if_neg c15).trans (rfl)))))
            rw [e9]
            exact sp_iret C hAe hP hK hD hS dJI_numberOfLeadingZeros_78
    · refine lv_iinc (v := 15) (lv' := [(1, .int 15), (0, .int p1)]) hx hb dJI_numberOfLeadingZeros_25 hl (k := 0) rfl (by decide) (by decide) rfl (fun ls hl => ?_)
      refine lv_iload_n hx hb dJI_numberOfLeadingZeros_28 rfl (lv_at hl 1 rfl) ?_
      refine lv_bipush (v := 16) hx hb dJI_numberOfLeadingZeros_29 (by decide) ?_
      refine lv_iushr (v := (p1.toUInt32 >>> ((16 : Int32).toUInt32 &&& Int32.toUInt32 31)).toInt32) hx hb dJI_numberOfLeadingZeros_31 rfl ?_
      refine lv_topi (fun v17 ev17 => ?_)
      refine lv_istore_n (lv' := [(0, .int v17), (1, .int 15)]) hx hb dJI_numberOfLeadingZeros_32 rfl hl (by decide) rfl (fun ls hl => ?_)
      refine lv_iload_n hx hb dJI_numberOfLeadingZeros_33 rfl (lv_at hl 0 rfl) ?_
      refine lv_sipush (v := 256) hx hb dJI_numberOfLeadingZeros_34 (by decide) ?_
      refine lv_icmp_lt (tgt := 48) hx hb dJI_numberOfLeadingZeros_37 (by decide) (fun c18 => ?_) (fun c18 => ?_)
      · refine lv_iload_n hx hb dJI_numberOfLeadingZeros_48 rfl (lv_at hl 0 rfl) ?_
        refine lv_bipush (v := 16) hx hb dJI_numberOfLeadingZeros_49 (by decide) ?_
        refine lv_icmp_lt (tgt := 61) hx hb dJI_numberOfLeadingZeros_51 (by decide) (fun c19 => ?_) (fun c19 => ?_)
        · refine lv_iload_n hx hb dJI_numberOfLeadingZeros_61 rfl (lv_at hl 0 rfl) ?_
          refine lv_iconst (v := 4) hx hb dJI_numberOfLeadingZeros_62 (by decide) ?_
          refine lv_icmp_lt (tgt := 73) hx hb dJI_numberOfLeadingZeros_63 (by decide) (fun c20 => ?_) (fun c20 => ?_)
          · refine lv_iload_n hx hb dJI_numberOfLeadingZeros_73 rfl (lv_at hl 1 rfl) ?_
            refine lv_iload_n hx hb dJI_numberOfLeadingZeros_74 rfl (lv_at hl 0 rfl) ?_
            refine lv_iconst (v := 1) hx hb dJI_numberOfLeadingZeros_75 (by decide) ?_
            refine lv_iushr (v := (v17.toUInt32 >>> ((1 : Int32).toUInt32 &&& Int32.toUInt32 31)).toInt32) hx hb dJI_numberOfLeadingZeros_76 rfl ?_
            refine lv_isub hx hb dJI_numberOfLeadingZeros_77 ?_
            have e9 : f_JI_numberOfLeadingZeros p1 = 15 - ((v17.toUInt32 >>> ((1 : Int32).toUInt32 &&& Int32.toUInt32 31)).toInt32) := by
                  subst ev17
                  exact (if_pos c1).trans ((if_neg c2).trans ((if_pos c18).trans ((if_pos c19).trans ((if_pos c20).trans (rfl)))))
            rw [e9]
            exact sp_iret C hAe hP hK hD hS dJI_numberOfLeadingZeros_78
          · refine lv_iinc (v := 13) (lv' := [(1, .int 13), (0, .int v17)]) hx hb dJI_numberOfLeadingZeros_66 hl (k := 1) rfl (by decide) (by decide) rfl (fun ls hl => ?_)
            refine lv_iload_n hx hb dJI_numberOfLeadingZeros_69 rfl (lv_at hl 1 rfl) ?_
            refine lv_iconst (v := 2) hx hb dJI_numberOfLeadingZeros_70 (by decide) ?_
            refine lv_iushr (v := (v17.toUInt32 >>> ((2 : Int32).toUInt32 &&& Int32.toUInt32 31)).toInt32) hx hb dJI_numberOfLeadingZeros_71 rfl ?_
            refine lv_topi (fun v21 ev21 => ?_)
            refine lv_istore_n (lv' := [(0, .int v21), (1, .int 13)]) hx hb dJI_numberOfLeadingZeros_72 rfl hl (by decide) rfl (fun ls hl => ?_)
            refine lv_iload_n hx hb dJI_numberOfLeadingZeros_73 rfl (lv_at hl 1 rfl) ?_
            refine lv_iload_n hx hb dJI_numberOfLeadingZeros_74 rfl (lv_at hl 0 rfl) ?_
            refine lv_iconst (v := 1) hx hb dJI_numberOfLeadingZeros_75 (by decide) ?_
            refine lv_iushr (v := (v21.toUInt32 >>> ((1 : Int32).toUInt32 &&& Int32.toUInt32 31)).toInt32) hx hb dJI_numberOfLeadingZeros_76 rfl ?_
            refine lv_isub hx hb dJI_numberOfLeadingZeros_77 ?_
            have e9 : f_JI_numberOfLeadingZeros p1 = 13 - ((v21.toUInt32 >>> ((1 : Int32).toUInt32 &&& Int32.toUInt32 31)).toInt32) := by
                  subst ev21
                  subst ev17
                  exact (if_pos c1).trans ((if_neg c2).trans ((if_pos c18).trans ((if_pos c19).trans ((if_neg c20).trans (rfl)))))
            rw [e9]
            exact sp_iret C hAe hP hK hD hS dJI_numberOfLeadingZeros_78
        · refine lv_iinc (v := 11) (lv' := [(1, .int 11), (0, .int v17)]) hx hb dJI_numberOfLeadingZeros_54 hl (k := 1) rfl (by decide) (by decide) rfl (fun ls hl => ?_)
          refine lv_iload_n hx hb dJI_numberOfLeadingZeros_57 rfl (lv_at hl 1 rfl) ?_
          refine lv_iconst (v := 4) hx hb dJI_numberOfLeadingZeros_58 (by decide) ?_
          refine lv_iushr (v := (v17.toUInt32 >>> ((4 : Int32).toUInt32 &&& Int32.toUInt32 31)).toInt32) hx hb dJI_numberOfLeadingZeros_59 rfl ?_
          refine lv_topi (fun v22 ev22 => ?_)
          refine lv_istore_n (lv' := [(0, .int v22), (1, .int 11)]) hx hb dJI_numberOfLeadingZeros_60 rfl hl (by decide) rfl (fun ls hl => ?_)
          refine lv_iload_n hx hb dJI_numberOfLeadingZeros_61 rfl (lv_at hl 0 rfl) ?_
          refine lv_iconst (v := 4) hx hb dJI_numberOfLeadingZeros_62 (by decide) ?_
          refine lv_icmp_lt (tgt := 73) hx hb dJI_numberOfLeadingZeros_63 (by decide) (fun c23 => ?_) (fun c23 => ?_)
          · refine lv_iload_n hx hb dJI_numberOfLeadingZeros_73 rfl (lv_at hl 1 rfl) ?_
            refine lv_iload_n hx hb dJI_numberOfLeadingZeros_74 rfl (lv_at hl 0 rfl) ?_
            refine lv_iconst (v := 1) hx hb dJI_numberOfLeadingZeros_75 (by decide) ?_
            refine lv_iushr (v := (v22.toUInt32 >>> ((1 : Int32).toUInt32 &&& Int32.toUInt32 31)).toInt32) hx hb dJI_numberOfLeadingZeros_76 rfl ?_
            refine lv_isub hx hb dJI_numberOfLeadingZeros_77 ?_
            have e9 : f_JI_numberOfLeadingZeros p1 = 11 - ((v22.toUInt32 >>> ((1 : Int32).toUInt32 &&& Int32.toUInt32 31)).toInt32) := by
                  subst ev22
                  subst ev17
                  exact (if_pos c1).trans ((if_neg c2).trans ((if_pos c18).trans ((if_neg c19).trans ((if_pos c23).trans (rfl)))))
            rw [e9]
            exact sp_iret C hAe hP hK hD hS dJI_numberOfLeadingZeros_78
          · refine lv_iinc (v := 9) (lv' := [(1, .int 9), (0, .int v22)]) hx hb dJI_numberOfLeadingZeros_66 hl (k := 1) rfl (by decide) (by decide) rfl (fun ls hl => ?_)
            refine lv_iload_n hx hb dJI_numberOfLeadingZeros_69 rfl (lv_at hl 1 rfl) ?_
            refine lv_iconst (v := 2) hx hb dJI_numberOfLeadingZeros_70 (by decide) ?_
            refine lv_iushr (v := (v22.toUInt32 >>> ((2 : Int32).toUInt32 &&& Int32.toUInt32 31)).toInt32) hx hb dJI_numberOfLeadingZeros_71 rfl ?_
            refine lv_topi (fun v24 ev24 => ?_)
            refine lv_istore_n (lv' := [(0, .int v24), (1, .int 9)]) hx hb dJI_numberOfLeadingZeros_72 rfl hl (by decide) rfl (fun ls hl => ?_)
            refine lv_iload_n hx hb dJI_numberOfLeadingZeros_73 rfl (lv_at hl 1 rfl) ?_
            refine lv_iload_n hx hb dJI_numberOfLeadingZeros_74 rfl (lv_at hl 0 rfl) ?_
            refine lv_iconst (v := 1) hx hb dJI_numberOfLeadingZeros_75 (by decide) ?_
            refine lv_iushr (v := (v24.toUInt32 >>> ((1 : Int32).toUInt32 &&& Int32.toUInt32 31)).toInt32) hx hb dJI_numberOfLeadingZeros_76 rfl ?_
            refine lv_isub hx hb dJI_numberOfLeadingZeros_77 ?_
            have e9 : f_JI_numberOfLeadingZeros p1 = 9 - ((v24.toUInt32 >>> ((1 : Int32).toUInt32 &&& Int32.toUInt32 31)).toInt32) := by
                  subst ev24
                  subst ev22
                  subst ev17
                  exact (if_pos c1).trans ((if_neg c2).trans ((if_pos c18).trans ((if_neg c19).trans ((if_neg c23).trans (rfl)))))
            rw [e9]
            exact sp_iret C hAe hP hK hD hS dJI_numberOfLeadingZeros_78
      · refine lv_iinc (v := 7) (lv' := [(1, .int 7), (0, .int v17)]) hx hb dJI_numberOfLeadingZeros_40 hl (k := 1) rfl (by decide) (by decide) rfl (fun ls hl => ?_)
        refine lv_iload_n hx hb dJI_numberOfLeadingZeros_43 rfl (lv_at hl 1 rfl) ?_
        refine lv_bipush (v := 8) hx hb dJI_numberOfLeadingZeros_44 (by decide) ?_
        refine lv_iushr (v := (v17.toUInt32 >>> ((8 : Int32).toUInt32 &&& Int32.toUInt32 31)).toInt32) hx hb dJI_numberOfLeadingZeros_46 rfl ?_
        refine lv_topi (fun v25 ev25 => ?_)
        refine lv_istore_n (lv' := [(0, .int v25), (1, .int 7)]) hx hb dJI_numberOfLeadingZeros_47 rfl hl (by decide) rfl (fun ls hl => ?_)
        refine lv_iload_n hx hb dJI_numberOfLeadingZeros_48 rfl (lv_at hl 0 rfl) ?_
        refine lv_bipush (v := 16) hx hb dJI_numberOfLeadingZeros_49 (by decide) ?_
        refine lv_icmp_lt (tgt := 61) hx hb dJI_numberOfLeadingZeros_51 (by decide) (fun c26 => ?_) (fun c26 => ?_)
        · refine lv_iload_n hx hb dJI_numberOfLeadingZeros_61 rfl (lv_at hl 0 rfl) ?_
          refine lv_iconst (v := 4) hx hb dJI_numberOfLeadingZeros_62 (by decide) ?_
          refine lv_icmp_lt (tgt := 73) hx hb dJI_numberOfLeadingZeros_63 (by decide) (fun c27 => ?_) (fun c27 => ?_)
          · refine lv_iload_n hx hb dJI_numberOfLeadingZeros_73 rfl (lv_at hl 1 rfl) ?_
            refine lv_iload_n hx hb dJI_numberOfLeadingZeros_74 rfl (lv_at hl 0 rfl) ?_
            refine lv_iconst (v := 1) hx hb dJI_numberOfLeadingZeros_75 (by decide) ?_
            refine lv_iushr (v := (v25.toUInt32 >>> ((1 : Int32).toUInt32 &&& Int32.toUInt32 31)).toInt32) hx hb dJI_numberOfLeadingZeros_76 rfl ?_
            refine lv_isub hx hb dJI_numberOfLeadingZeros_77 ?_
            have e9 : f_JI_numberOfLeadingZeros p1 = 7 - ((v25.toUInt32 >>> ((1 : Int32).toUInt32 &&& Int32.toUInt32 31)).toInt32) := by
                  subst ev25
                  subst ev17
                  exact (if_pos c1).trans ((if_neg c2).trans ((if_neg c18).trans ((if_pos c26).trans ((if_pos c27).trans (rfl)))))
            rw [e9]
            exact sp_iret C hAe hP hK hD hS dJI_numberOfLeadingZeros_78
          · refine lv_iinc (v := 5) (lv' := [(1, .int 5), (0, .int v25)]) hx hb dJI_numberOfLeadingZeros_66 hl (k := 1) rfl (by decide) (by decide) rfl (fun ls hl => ?_)
            refine lv_iload_n hx hb dJI_numberOfLeadingZeros_69 rfl (lv_at hl 1 rfl) ?_
            refine lv_iconst (v := 2) hx hb dJI_numberOfLeadingZeros_70 (by decide) ?_
            refine lv_iushr (v := (v25.toUInt32 >>> ((2 : Int32).toUInt32 &&& Int32.toUInt32 31)).toInt32) hx hb dJI_numberOfLeadingZeros_71 rfl ?_
            refine lv_topi (fun v28 ev28 => ?_)
            refine lv_istore_n (lv' := [(0, .int v28), (1, .int 5)]) hx hb dJI_numberOfLeadingZeros_72 rfl hl (by decide) rfl (fun ls hl => ?_)
            refine lv_iload_n hx hb dJI_numberOfLeadingZeros_73 rfl (lv_at hl 1 rfl) ?_
            refine lv_iload_n hx hb dJI_numberOfLeadingZeros_74 rfl (lv_at hl 0 rfl) ?_
            refine lv_iconst (v := 1) hx hb dJI_numberOfLeadingZeros_75 (by decide) ?_
            refine lv_iushr (v := (v28.toUInt32 >>> ((1 : Int32).toUInt32 &&& Int32.toUInt32 31)).toInt32) hx hb dJI_numberOfLeadingZeros_76 rfl ?_
            refine lv_isub hx hb dJI_numberOfLeadingZeros_77 ?_
            have e9 : f_JI_numberOfLeadingZeros p1 = 5 - ((v28.toUInt32 >>> ((1 : Int32).toUInt32 &&& Int32.toUInt32 31)).toInt32) := by
                  subst ev28
                  subst ev25
                  subst ev17
                  exact (if_pos c1).trans ((if_neg c2).trans ((if_neg c18).trans ((if_pos c26).trans ((if_neg c27).trans (rfl)))))
            rw [e9]
            exact sp_iret C hAe hP hK hD hS dJI_numberOfLeadingZeros_78
        · refine lv_iinc (v := 3) (lv' := [(1, .int 3), (0, .int v25)]) hx hb dJI_numberOfLeadingZeros_54 hl (k := 1) rfl (by decide) (by decide) rfl (fun ls hl => ?_)
          refine lv_iload_n hx hb dJI_numberOfLeadingZeros_57 rfl (lv_at hl 1 rfl) ?_
          refine lv_iconst (v := 4) hx hb dJI_numberOfLeadingZeros_58 (by decide) ?_
          refine lv_iushr (v := (v25.toUInt32 >>> ((4 : Int32).toUInt32 &&& Int32.toUInt32 31)).toInt32) hx hb dJI_numberOfLeadingZeros_59 rfl ?_
          refine lv_topi (fun v29 ev29 => ?_)
          refine lv_istore_n (lv' := [(0, .int v29), (1, .int 3)]) hx hb dJI_numberOfLeadingZeros_60 rfl hl (by decide) rfl (fun ls hl => ?_)
          refine lv_iload_n hx hb dJI_numberOfLeadingZeros_61 rfl (lv_at hl 0 rfl) ?_
          refine lv_iconst (v := 4) hx hb dJI_numberOfLeadingZeros_62 (by decide) ?_
          refine lv_icmp_lt (tgt := 73) hx hb dJI_numberOfLeadingZeros_63 (by decide) (fun c30 => ?_) (fun c30 => ?_)
          · refine lv_iload_n hx hb dJI_numberOfLeadingZeros_73 rfl (lv_at hl 1 rfl) ?_
            refine lv_iload_n hx hb dJI_numberOfLeadingZeros_74 rfl (lv_at hl 0 rfl) ?_
            refine lv_iconst (v := 1) hx hb dJI_numberOfLeadingZeros_75 (by decide) ?_
            refine lv_iushr (v := (v29.toUInt32 >>> ((1 : Int32).toUInt32 &&& Int32.toUInt32 31)).toInt32) hx hb dJI_numberOfLeadingZeros_76 rfl ?_
            refine lv_isub hx hb dJI_numberOfLeadingZeros_77 ?_
            have e9 : f_JI_numberOfLeadingZeros p1 = 3 - ((v29.toUInt32 >>> ((1 : Int32).toUInt32 &&& Int32.toUInt32 31)).toInt32) := by
                  subst ev29
                  subst ev25
                  subst ev17
                  exact (if_pos c1).trans ((if_neg c2).trans ((if_neg c18).trans ((if_neg c26).trans ((if_pos c30).trans (rfl)))))
            rw [e9]
            exact sp_iret C hAe hP hK hD hS dJI_numberOfLeadingZeros_78
          · refine lv_iinc (v := 1) (lv' := [(1, .int 1), (0, .int v29)]) hx hb dJI_numberOfLeadingZeros_66 hl (k := 1) rfl (by decide) (by decide) rfl (fun ls hl => ?_)
            refine lv_iload_n hx hb dJI_numberOfLeadingZeros_69 rfl (lv_at hl 1 rfl) ?_
            refine lv_iconst (v := 2) hx hb dJI_numberOfLeadingZeros_70 (by decide) ?_
            refine lv_iushr (v := (v29.toUInt32 >>> ((2 : Int32).toUInt32 &&& Int32.toUInt32 31)).toInt32) hx hb dJI_numberOfLeadingZeros_71 rfl ?_
            refine lv_topi (fun v31 ev31 => ?_)
            refine lv_istore_n (lv' := [(0, .int v31), (1, .int 1)]) hx hb dJI_numberOfLeadingZeros_72 rfl hl (by decide) rfl (fun ls hl => ?_)
            refine lv_iload_n hx hb dJI_numberOfLeadingZeros_73 rfl (lv_at hl 1 rfl) ?_
            refine lv_iload_n hx hb dJI_numberOfLeadingZeros_74 rfl (lv_at hl 0 rfl) ?_
            refine lv_iconst (v := 1) hx hb dJI_numberOfLeadingZeros_75 (by decide) ?_
            refine lv_iushr (v := (v31.toUInt32 >>> ((1 : Int32).toUInt32 &&& Int32.toUInt32 31)).toInt32) hx hb dJI_numberOfLeadingZeros_76 rfl ?_
            refine lv_isub hx hb dJI_numberOfLeadingZeros_77 ?_
            have e9 : f_JI_numberOfLeadingZeros p1 = 1 - ((v31.toUInt32 >>> ((1 : Int32).toUInt32 &&& Int32.toUInt32 31)).toInt32) := by
                  subst ev31
                  subst ev29
                  subst ev25
                  subst ev17
                  exact (if_pos c1).trans ((if_neg c2).trans ((if_neg c18).trans ((if_neg c26).trans ((if_neg c30).trans (rfl)))))
            rw [e9]
            exact sp_iret C hAe hP hK hD hS dJI_numberOfLeadingZeros_78
  · refine lv_iload_n hx hb dJI_numberOfLeadingZeros_4 rfl (lv_at hl 0 rfl) ?_
    refine lv_if_ne (tgt := 13) hx hb dJI_numberOfLeadingZeros_5 (by decide) (fun c32 => ?_) (fun c32 => ?_)
    · refine lv_iconst (v := 0) hx hb dJI_numberOfLeadingZeros_13 (by decide) ?_
      have e9 : f_JI_numberOfLeadingZeros p1 = 0 := (if_neg c1).trans ((if_neg c32).trans (rfl))
      rw [e9]
      exact sp_iret C hAe hP hK hD hS dJI_numberOfLeadingZeros_14
    · refine lv_bipush (v := 32) hx hb dJI_numberOfLeadingZeros_8 (by decide) ?_
      refine lv_goto (tgt := 14) hx hb dJI_numberOfLeadingZeros_10 (by decide) ?_
      have e9 : f_JI_numberOfLeadingZeros p1 = 32 := (if_neg c1).trans ((if_pos c32).trans (rfl))
      rw [e9]
      exact sp_iret C hAe hP hK hD hS dJI_numberOfLeadingZeros_14
def f_JI_numberOfTrailingZeros (p1 : Int32) : Int32 :=
  if 0 < ((p1 ^^^ (-1)) &&& (p1 - 1)) then (if ((p1 ^^^ (-1)) &&& (p1 - 1)) ≤ 65536 then (if ((p1 ^^^ (-1)) &&& (p1 - 1)) ≤ 256 then (if ((p1 ^^^ (-1)) &&& (p1 - 1)) ≤ 16 then (if ((p1 ^^^ (-1)) &&& (p1 - 1)) ≤ 4 then 1 + ((((p1 ^^^ (-1)) &&& (p1 - 1)).toUInt32 >>> ((1 : Int32).toUInt32 &&& Int32.toUInt32 31)).toInt32)
          else (let v6 : Int32 := (((p1 ^^^ (-1)) &&& (p1 - 1)).toUInt32 >>> ((2 : Int32).toUInt32 &&& Int32.toUInt32 31)).toInt32
          3 + ((v6.toUInt32 >>> ((1 : Int32).toUInt32 &&& Int32.toUInt32 31)).toInt32)))
        else (let v7 : Int32 := (((p1 ^^^ (-1)) &&& (p1 - 1)).toUInt32 >>> ((4 : Int32).toUInt32 &&& Int32.toUInt32 31)).toInt32
        if v7 ≤ 4 then 5 + ((v7.toUInt32 >>> ((1 : Int32).toUInt32 &&& Int32.toUInt32 31)).toInt32)
        else (let v9 : Int32 := (v7.toUInt32 >>> ((2 : Int32).toUInt32 &&& Int32.toUInt32 31)).toInt32
        7 + ((v9.toUInt32 >>> ((1 : Int32).toUInt32 &&& Int32.toUInt32 31)).toInt32))))
      else (let v10 : Int32 := (((p1 ^^^ (-1)) &&& (p1 - 1)).toUInt32 >>> ((8 : Int32).toUInt32 &&& Int32.toUInt32 31)).toInt32
      if v10 ≤ 16 then (if v10 ≤ 4 then 9 + ((v10.toUInt32 >>> ((1 : Int32).toUInt32 &&& Int32.toUInt32 31)).toInt32)
        else (let v13 : Int32 := (v10.toUInt32 >>> ((2 : Int32).toUInt32 &&& Int32.toUInt32 31)).toInt32
        11 + ((v13.toUInt32 >>> ((1 : Int32).toUInt32 &&& Int32.toUInt32 31)).toInt32)))
      else (let v14 : Int32 := (v10.toUInt32 >>> ((4 : Int32).toUInt32 &&& Int32.toUInt32 31)).toInt32
      if v14 ≤ 4 then 13 + ((v14.toUInt32 >>> ((1 : Int32).toUInt32 &&& Int32.toUInt32 31)).toInt32)
      else (let v16 : Int32 := (v14.toUInt32 >>> ((2 : Int32).toUInt32 &&& Int32.toUInt32 31)).toInt32
      15 + ((v16.toUInt32 >>> ((1 : Int32).toUInt32 &&& Int32.toUInt32 31)).toInt32)))))
    else (let v17 : Int32 := (((p1 ^^^ (-1)) &&& (p1 - 1)).toUInt32 >>> ((16 : Int32).toUInt32 &&& Int32.toUInt32 31)).toInt32
    if v17 ≤ 256 then (if v17 ≤ 16 then (if v17 ≤ 4 then 17 + ((v17.toUInt32 >>> ((1 : Int32).toUInt32 &&& Int32.toUInt32 31)).toInt32)
        else (let v21 : Int32 := (v17.toUInt32 >>> ((2 : Int32).toUInt32 &&& Int32.toUInt32 31)).toInt32
        19 + ((v21.toUInt32 >>> ((1 : Int32).toUInt32 &&& Int32.toUInt32 31)).toInt32)))
      else (let v22 : Int32 := (v17.toUInt32 >>> ((4 : Int32).toUInt32 &&& Int32.toUInt32 31)).toInt32
      if v22 ≤ 4 then 21 + ((v22.toUInt32 >>> ((1 : Int32).toUInt32 &&& Int32.toUInt32 31)).toInt32)
      else (let v24 : Int32 := (v22.toUInt32 >>> ((2 : Int32).toUInt32 &&& Int32.toUInt32 31)).toInt32
      23 + ((v24.toUInt32 >>> ((1 : Int32).toUInt32 &&& Int32.toUInt32 31)).toInt32))))
    else (let v25 : Int32 := (v17.toUInt32 >>> ((8 : Int32).toUInt32 &&& Int32.toUInt32 31)).toInt32
    if v25 ≤ 16 then (if v25 ≤ 4 then 25 + ((v25.toUInt32 >>> ((1 : Int32).toUInt32 &&& Int32.toUInt32 31)).toInt32)
      else (let v28 : Int32 := (v25.toUInt32 >>> ((2 : Int32).toUInt32 &&& Int32.toUInt32 31)).toInt32
      27 + ((v28.toUInt32 >>> ((1 : Int32).toUInt32 &&& Int32.toUInt32 31)).toInt32)))
    else (let v29 : Int32 := (v25.toUInt32 >>> ((4 : Int32).toUInt32 &&& Int32.toUInt32 31)).toInt32
    if v29 ≤ 4 then 29 + ((v29.toUInt32 >>> ((1 : Int32).toUInt32 &&& Int32.toUInt32 31)).toInt32)
    else (let v31 : Int32 := (v29.toUInt32 >>> ((2 : Int32).toUInt32 &&& Int32.toUInt32 31)).toInt32
    31 + ((v31.toUInt32 >>> ((1 : Int32).toUInt32 &&& Int32.toUInt32 31)).toInt32))))))
  else ((p1 ^^^ (-1)) &&& (p1 - 1)) &&& 32
set_option maxHeartbeats 4000000 in
set_option maxRecDepth 100000 in
theorem c_JI_numberOfTrailingZeros (l : Launch) (D : va_G) (p1 : Int32) : sp_M l yJI_numberOfTrailingZeros wsJI_numberOfTrailingZeros ({ frames := 0, cells := 0, slots := 0, locals := 0 }) D [.int p1] ([]) [] (sp_Qi D ([]) ([]) [] (f_JI_numberOfTrailingZeros p1)) := by
  refine sp_ofW (cc := cJI_numberOfTrailingZeros) (nL := 2) (ret := (some .int)) (own := RJI) (by decide) rfl rfl (Nat.le_of_ble_eq_true rfl) ?_
  intro p e s m below meth c A ls hAe hnm C hA hP hK hD hS hl
  have hx := C.1
  have hb := C.2.1
  have hown := C.2.2.2.2.1
  have hts := C.2.2.2.2.2.1
  have hl : lv_has ls 2 [(0, .int p1)] := hl
  have hk0 := hts _ (List.mem_cons_of_mem _ wm_5)
  refine lv_iload_n hx hb dJI_numberOfTrailingZeros_0 rfl (lv_at hl 0 rfl) ?_
  refine lv_iconst (v := (-1)) hx hb dJI_numberOfTrailingZeros_1 (by decide) ?_
  refine lv_ixor hx hb dJI_numberOfTrailingZeros_2 ?_
  refine lv_iload_n hx hb dJI_numberOfTrailingZeros_3 rfl (lv_at hl 0 rfl) ?_
  refine lv_iconst (v := 1) hx hb dJI_numberOfTrailingZeros_4 (by decide) ?_
  refine lv_isub hx hb dJI_numberOfTrailingZeros_5 ?_
  refine lv_iand hx hb dJI_numberOfTrailingZeros_6 ?_
  refine lv_istore_n (lv' := [(0, .int ((p1 ^^^ (-1)) &&& (p1 - 1)))]) hx hb dJI_numberOfTrailingZeros_7 rfl hl (by decide) rfl (fun ls hl => ?_)
  refine lv_iload_n hx hb dJI_numberOfTrailingZeros_8 rfl (lv_at hl 0 rfl) ?_
  refine lv_if_gt (tgt := 17) hx hb dJI_numberOfTrailingZeros_9 (by decide) (fun c1 => ?_) (fun c1 => ?_)
  · refine lv_iconst (v := 1) hx hb dJI_numberOfTrailingZeros_17 (by decide) ?_
    refine lv_istore_n (lv' := [(1, .int 1), (0, .int ((p1 ^^^ (-1)) &&& (p1 - 1)))]) hx hb dJI_numberOfTrailingZeros_18 rfl hl (by decide) rfl (fun ls hl => ?_)
    refine lv_iload_n hx hb dJI_numberOfTrailingZeros_19 rfl (lv_at hl 1 rfl) ?_
    refine lv_ldcw (v := 65536) hx hb hown hk0 dJI_numberOfTrailingZeros_20 ?_
    refine lv_icmp_le (tgt := 34) hx hb dJI_numberOfTrailingZeros_23 (by decide) (fun c2 => ?_) (fun c2 => ?_)
    · refine lv_iload_n hx hb dJI_numberOfTrailingZeros_34 rfl (lv_at hl 1 rfl) ?_
      refine lv_sipush (v := 256) hx hb dJI_numberOfTrailingZeros_35 (by decide) ?_
      refine lv_icmp_le (tgt := 49) hx hb dJI_numberOfTrailingZeros_38 (by decide) (fun c3 => ?_) (fun c3 => ?_)
      · refine lv_iload_n hx hb dJI_numberOfTrailingZeros_49 rfl (lv_at hl 1 rfl) ?_
        refine lv_bipush (v := 16) hx hb dJI_numberOfTrailingZeros_50 (by decide) ?_
        refine lv_icmp_le (tgt := 62) hx hb dJI_numberOfTrailingZeros_52 (by decide) (fun c4 => ?_) (fun c4 => ?_)
        · refine lv_iload_n hx hb dJI_numberOfTrailingZeros_62 rfl (lv_at hl 1 rfl) ?_
          refine lv_iconst (v := 4) hx hb dJI_numberOfTrailingZeros_63 (by decide) ?_
          refine lv_icmp_le (tgt := 74) hx hb dJI_numberOfTrailingZeros_64 (by decide) (fun c5 => ?_) (fun c5 => ?_)
          · refine lv_iload_n hx hb dJI_numberOfTrailingZeros_74 rfl (lv_at hl 0 rfl) ?_
            refine lv_iload_n hx hb dJI_numberOfTrailingZeros_75 rfl (lv_at hl 1 rfl) ?_
            refine lv_iconst (v := 1) hx hb dJI_numberOfTrailingZeros_76 (by decide) ?_
            refine lv_iushr (v := (((p1 ^^^ (-1)) &&& (p1 - 1)).toUInt32 >>> ((1 : Int32).toUInt32 &&& Int32.toUInt32 31)).toInt32) hx hb dJI_numberOfTrailingZeros_77 rfl ?_
            refine lv_iadd hx hb dJI_numberOfTrailingZeros_78 ?_
            have e9 : f_JI_numberOfTrailingZeros p1 = 1 + ((((p1 ^^^ (-1)) &&& (p1 - 1)).toUInt32 >>> ((1 : Int32).toUInt32 &&& Int32.toUInt32 31)).toInt32) := (if_pos c1).trans ((if_pos c2).trans ((if_pos c3).trans ((if_pos c4).trans ((if_pos c5).trans (rfl)))))
            rw [e9]
            exact sp_iret C hAe hP hK hD hS dJI_numberOfTrailingZeros_79
          · refine lv_iinc (v := 3) (lv' := [(1, .int 3), (0, .int ((p1 ^^^ (-1)) &&& (p1 - 1)))]) hx hb dJI_numberOfTrailingZeros_67 hl (k := 0) rfl (by decide) (by decide) rfl (fun ls hl => ?_)
            refine lv_iload_n hx hb dJI_numberOfTrailingZeros_70 rfl (lv_at hl 1 rfl) ?_
            refine lv_iconst (v := 2) hx hb dJI_numberOfTrailingZeros_71 (by decide) ?_
            refine lv_iushr (v := (((p1 ^^^ (-1)) &&& (p1 - 1)).toUInt32 >>> ((2 : Int32).toUInt32 &&& Int32.toUInt32 31)).toInt32) hx hb dJI_numberOfTrailingZeros_72 rfl ?_
            refine lv_topi (fun v6 ev6 => ?_)
            refine lv_istore_n (lv' := [(0, .int v6), (1, .int 3)]) hx hb dJI_numberOfTrailingZeros_73 rfl hl (by decide) rfl (fun ls hl => ?_)
            refine lv_iload_n hx hb dJI_numberOfTrailingZeros_74 rfl (lv_at hl 1 rfl) ?_
            refine lv_iload_n hx hb dJI_numberOfTrailingZeros_75 rfl (lv_at hl 0 rfl) ?_
            refine lv_iconst (v := 1) hx hb dJI_numberOfTrailingZeros_76 (by decide) ?_
            refine lv_iushr (v := (v6.toUInt32 >>> ((1 : Int32).toUInt32 &&& Int32.toUInt32 31)).toInt32) hx hb dJI_numberOfTrailingZeros_77 rfl ?_
            refine lv_iadd hx hb dJI_numberOfTrailingZeros_78 ?_
            have e9 : f_JI_numberOfTrailingZeros p1 = 3 + ((v6.toUInt32 >>> ((1 : Int32).toUInt32 &&& Int32.toUInt32 31)).toInt32) := by
                  subst ev6
                  exact (if_pos c1).trans ((if_pos c2).trans ((if_pos c3).trans ((if_pos c4).trans ((if_neg c5).trans (rfl)))))
            rw [e9]
            exact sp_iret C hAe hP hK hD hS dJI_numberOfTrailingZeros_79
        · refine lv_iinc (v := 5) (lv' := [(1, .int 5), (0, .int ((p1 ^^^ (-1)) &&& (p1 - 1)))]) hx hb dJI_numberOfTrailingZeros_55 hl (k := 0) rfl (by decide) (by decide) rfl (fun ls hl => ?_)
          refine lv_iload_n hx hb dJI_numberOfTrailingZeros_58 rfl (lv_at hl 1 rfl) ?_
          refine lv_iconst (v := 4) hx hb dJI_numberOfTrailingZeros_59 (by decide) ?_
          refine lv_iushr (v := (((p1 ^^^ (-1)) &&& (p1 - 1)).toUInt32 >>> ((4 : Int32).toUInt32 &&& Int32.toUInt32 31)).toInt32) hx hb dJI_numberOfTrailingZeros_60 rfl ?_
          refine lv_topi (fun v7 ev7 => ?_)
          refine lv_istore_n (lv' := [(0, .int v7), (1, .int 5)]) hx hb dJI_numberOfTrailingZeros_61 rfl hl (by decide) rfl (fun ls hl => ?_)
          refine lv_iload_n hx hb dJI_numberOfTrailingZeros_62 rfl (lv_at hl 0 rfl) ?_
          refine lv_iconst (v := 4) hx hb dJI_numberOfTrailingZeros_63 (by decide) ?_
          refine lv_icmp_le (tgt := 74) hx hb dJI_numberOfTrailingZeros_64 (by decide) (fun c8 => ?_) (fun c8 => ?_)
          · refine lv_iload_n hx hb dJI_numberOfTrailingZeros_74 rfl (lv_at hl 1 rfl) ?_
            refine lv_iload_n hx hb dJI_numberOfTrailingZeros_75 rfl (lv_at hl 0 rfl) ?_
            refine lv_iconst (v := 1) hx hb dJI_numberOfTrailingZeros_76 (by decide) ?_
            refine lv_iushr (v := (v7.toUInt32 >>> ((1 : Int32).toUInt32 &&& Int32.toUInt32 31)).toInt32) hx hb dJI_numberOfTrailingZeros_77 rfl ?_
            refine lv_iadd hx hb dJI_numberOfTrailingZeros_78 ?_
            have e9 : f_JI_numberOfTrailingZeros p1 = 5 + ((v7.toUInt32 >>> ((1 : Int32).toUInt32 &&& Int32.toUInt32 31)).toInt32) := by
                  subst ev7
                  exact (if_pos c1).trans ((if_pos c2).trans ((if_pos c3).trans ((if_neg c4).trans ((if_pos c8).trans (rfl)))))
            rw [e9]
            exact sp_iret C hAe hP hK hD hS dJI_numberOfTrailingZeros_79
          · refine lv_iinc (v := 7) (lv' := [(1, .int 7), (0, .int v7)]) hx hb dJI_numberOfTrailingZeros_67 hl (k := 1) rfl (by decide) (by decide) rfl (fun ls hl => ?_)
            refine lv_iload_n hx hb dJI_numberOfTrailingZeros_70 rfl (lv_at hl 1 rfl) ?_
            refine lv_iconst (v := 2) hx hb dJI_numberOfTrailingZeros_71 (by decide) ?_
            refine lv_iushr (v := (v7.toUInt32 >>> ((2 : Int32).toUInt32 &&& Int32.toUInt32 31)).toInt32) hx hb dJI_numberOfTrailingZeros_72 rfl ?_
            refine lv_topi (fun v9 ev9 => ?_)
            refine lv_istore_n (lv' := [(0, .int v9), (1, .int 7)]) hx hb dJI_numberOfTrailingZeros_73 rfl hl (by decide) rfl (fun ls hl => ?_)
            refine lv_iload_n hx hb dJI_numberOfTrailingZeros_74 rfl (lv_at hl 1 rfl) ?_
            refine lv_iload_n hx hb dJI_numberOfTrailingZeros_75 rfl (lv_at hl 0 rfl) ?_
            refine lv_iconst (v := 1) hx hb dJI_numberOfTrailingZeros_76 (by decide) ?_
            refine lv_iushr (v := (v9.toUInt32 >>> ((1 : Int32).toUInt32 &&& Int32.toUInt32 31)).toInt32) hx hb dJI_numberOfTrailingZeros_77 rfl ?_
            refine lv_iadd hx hb dJI_numberOfTrailingZeros_78 ?_
            have e9 : f_JI_numberOfTrailingZeros p1 = 7 + ((v9.toUInt32 >>> ((1 : Int32).toUInt32 &&& Int32.toUInt32 31)).toInt32) := by
                  subst ev9
                  subst ev7
                  exact (if_pos c1).trans ((if_pos c2).trans ((if_pos c3).trans ((if_neg c4).trans ((if_neg c8).trans (rfl)))))
            rw [e9]
            exact sp_iret C hAe hP hK hD hS dJI_numberOfTrailingZeros_79
      · refine lv_iinc (v := 9) (lv' := [(1, .int 9), (0, .int ((p1 ^^^ (-1)) &&& (p1 - 1)))]) hx hb dJI_numberOfTrailingZeros_41 hl (k := 0) rfl (by decide) (by decide) rfl (fun ls hl => ?_)
        refine lv_iload_n hx hb dJI_numberOfTrailingZeros_44 rfl (lv_at hl 1 rfl) ?_
        refine lv_bipush (v := 8) hx hb dJI_numberOfTrailingZeros_45 (by decide) ?_
        refine lv_iushr (v := (((p1 ^^^ (-1)) &&& (p1 - 1)).toUInt32 >>> ((8 : Int32).toUInt32 &&& Int32.toUInt32 31)).toInt32) hx hb dJI_numberOfTrailingZeros_47 rfl ?_
        refine lv_topi (fun v10 ev10 => ?_)
        refine lv_istore_n (lv' := [(0, .int v10), (1, .int 9)]) hx hb dJI_numberOfTrailingZeros_48 rfl hl (by decide) rfl (fun ls hl => ?_)
        refine lv_iload_n hx hb dJI_numberOfTrailingZeros_49 rfl (lv_at hl 0 rfl) ?_
        refine lv_bipush (v := 16) hx hb dJI_numberOfTrailingZeros_50 (by decide) ?_
        refine lv_icmp_le (tgt := 62) hx hb dJI_numberOfTrailingZeros_52 (by decide) (fun c11 => ?_) (fun c11 => ?_)
        · refine lv_iload_n hx hb dJI_numberOfTrailingZeros_62 rfl (lv_at hl 0 rfl) ?_
          refine lv_iconst (v := 4) hx hb dJI_numberOfTrailingZeros_63 (by decide) ?_
          refine lv_icmp_le (tgt := 74) hx hb dJI_numberOfTrailingZeros_64 (by decide) (fun c12 => ?_) (fun c12 => ?_)
          · refine lv_iload_n hx hb dJI_numberOfTrailingZeros_74 rfl (lv_at hl 1 rfl) ?_
            refine lv_iload_n hx hb dJI_numberOfTrailingZeros_75 rfl (lv_at hl 0 rfl) ?_
            refine lv_iconst (v := 1) hx hb dJI_numberOfTrailingZeros_76 (by decide) ?_
            refine lv_iushr (v := (v10.toUInt32 >>> ((1 : Int32).toUInt32 &&& Int32.toUInt32 31)).toInt32) hx hb dJI_numberOfTrailingZeros_77 rfl ?_
            refine lv_iadd hx hb dJI_numberOfTrailingZeros_78 ?_
            have e9 : f_JI_numberOfTrailingZeros p1 = 9 + ((v10.toUInt32 >>> ((1 : Int32).toUInt32 &&& Int32.toUInt32 31)).toInt32) := by
                  subst ev10
                  exact (if_pos c1).trans ((if_pos c2).trans ((if_neg c3).trans ((if_pos c11).trans ((if_pos c12).trans (rfl)))))
            rw [e9]
            exact sp_iret C hAe hP hK hD hS dJI_numberOfTrailingZeros_79
          · refine lv_iinc (v := 11) (lv' := [(1, .int 11), (0, .int v10)]) hx hb dJI_numberOfTrailingZeros_67 hl (k := 1) rfl (by decide) (by decide) rfl (fun ls hl => ?_)
            refine lv_iload_n hx hb dJI_numberOfTrailingZeros_70 rfl (lv_at hl 1 rfl) ?_
            refine lv_iconst (v := 2) hx hb dJI_numberOfTrailingZeros_71 (by decide) ?_
            refine lv_iushr (v := (v10.toUInt32 >>> ((2 : Int32).toUInt32 &&& Int32.toUInt32 31)).toInt32) hx hb dJI_numberOfTrailingZeros_72 rfl ?_
            refine lv_topi (fun v13 ev13 => ?_)
            refine lv_istore_n (lv' := [(0, .int v13), (1, .int 11)]) hx hb dJI_numberOfTrailingZeros_73 rfl hl (by decide) rfl (fun ls hl => ?_)
            refine lv_iload_n hx hb dJI_numberOfTrailingZeros_74 rfl (lv_at hl 1 rfl) ?_
            refine lv_iload_n hx hb dJI_numberOfTrailingZeros_75 rfl (lv_at hl 0 rfl) ?_
            refine lv_iconst (v := 1) hx hb dJI_numberOfTrailingZeros_76 (by decide) ?_
            refine lv_iushr (v := (v13.toUInt32 >>> ((1 : Int32).toUInt32 &&& Int32.toUInt32 31)).toInt32) hx hb dJI_numberOfTrailingZeros_77 rfl ?_
            refine lv_iadd hx hb dJI_numberOfTrailingZeros_78 ?_
            have e9 : f_JI_numberOfTrailingZeros p1 = 11 + ((v13.toUInt32 >>> ((1 : Int32).toUInt32 &&& Int32.toUInt32 31)).toInt32) := by
                  subst ev13
                  subst ev10
                  exact (if_pos c1).trans ((if_pos c2).trans ((if_neg c3).trans ((if_pos c11).trans ((if_neg c12).trans (rfl)))))
            rw [e9]
            exact sp_iret C hAe hP hK hD hS dJI_numberOfTrailingZeros_79
        · refine lv_iinc (v := 13) (lv' := [(1, .int 13), (0, .int v10)]) hx hb dJI_numberOfTrailingZeros_55 hl (k := 1) rfl (by decide) (by decide) rfl (fun ls hl => ?_)
          refine lv_iload_n hx hb dJI_numberOfTrailingZeros_58 rfl (lv_at hl 1 rfl) ?_
          refine lv_iconst (v := 4) hx hb dJI_numberOfTrailingZeros_59 (by decide) ?_
          refine lv_iushr (v := (v10.toUInt32 >>> ((4 : Int32).toUInt32 &&& Int32.toUInt32 31)).toInt32) hx hb dJI_numberOfTrailingZeros_60 rfl ?_
          refine lv_topi (fun v14 ev14 => ?_)
          refine lv_istore_n (lv' := [(0, .int v14), (1, .int 13)]) hx hb dJI_numberOfTrailingZeros_61 rfl hl (by decide) rfl (fun ls hl => ?_)
          refine lv_iload_n hx hb dJI_numberOfTrailingZeros_62 rfl (lv_at hl 0 rfl) ?_
          refine lv_iconst (v := 4) hx hb dJI_numberOfTrailingZeros_63 (by decide) ?_
          refine lv_icmp_le (tgt := 74) hx hb dJI_numberOfTrailingZeros_64 (by decide) (fun c15 => ?_) (fun c15 => ?_)
          · refine lv_iload_n hx hb dJI_numberOfTrailingZeros_74 rfl (lv_at hl 1 rfl) ?_
            refine lv_iload_n hx hb dJI_numberOfTrailingZeros_75 rfl (lv_at hl 0 rfl) ?_
            refine lv_iconst (v := 1) hx hb dJI_numberOfTrailingZeros_76 (by decide) ?_
            refine lv_iushr (v := (v14.toUInt32 >>> ((1 : Int32).toUInt32 &&& Int32.toUInt32 31)).toInt32) hx hb dJI_numberOfTrailingZeros_77 rfl ?_
            refine lv_iadd hx hb dJI_numberOfTrailingZeros_78 ?_
            have e9 : f_JI_numberOfTrailingZeros p1 = 13 + ((v14.toUInt32 >>> ((1 : Int32).toUInt32 &&& Int32.toUInt32 31)).toInt32) := by
                  subst ev14
                  subst ev10
                  exact (if_pos c1).trans ((if_pos c2).trans ((if_neg c3).trans ((if_neg c11).trans ((if_pos c15).trans (rfl)))))
            rw [e9]
            exact sp_iret C hAe hP hK hD hS dJI_numberOfTrailingZeros_79
          · refine lv_iinc (v := 15) (lv' := [(1, .int 15), (0, .int v14)]) hx hb dJI_numberOfTrailingZeros_67 hl (k := 1) rfl (by decide) (by decide) rfl (fun ls hl => ?_)
            refine lv_iload_n hx hb dJI_numberOfTrailingZeros_70 rfl (lv_at hl 1 rfl) ?_
            refine lv_iconst (v := 2) hx hb dJI_numberOfTrailingZeros_71 (by decide) ?_
            refine lv_iushr (v := (v14.toUInt32 >>> ((2 : Int32).toUInt32 &&& Int32.toUInt32 31)).toInt32) hx hb dJI_numberOfTrailingZeros_72 rfl ?_
            refine lv_topi (fun v16 ev16 => ?_)
            refine lv_istore_n (lv' := [(0, .int v16), (1, .int 15)]) hx hb dJI_numberOfTrailingZeros_73 rfl hl (by decide) rfl (fun ls hl => ?_)
            refine lv_iload_n hx hb dJI_numberOfTrailingZeros_74 rfl (lv_at hl 1 rfl) ?_
            refine lv_iload_n hx hb dJI_numberOfTrailingZeros_75 rfl (lv_at hl 0 rfl) ?_
            refine lv_iconst (v := 1) hx hb dJI_numberOfTrailingZeros_76 (by decide) ?_
            refine lv_iushr (v := (v16.toUInt32 >>> ((1 : Int32).toUInt32 &&& Int32.toUInt32 31)).toInt32) hx hb dJI_numberOfTrailingZeros_77 rfl ?_
            refine lv_iadd hx hb dJI_numberOfTrailingZeros_78 ?_
            have e9 : f_JI_numberOfTrailingZeros p1 = 15 + ((v16.toUInt32 >>> ((1 : Int32).toUInt32 &&& Int32.toUInt32 31)).toInt32) := by
                  subst ev16
                  subst ev14
                  subst ev10
                  exact (if_pos c1).trans ((if_pos c2).trans ((if_neg c3).trans ((if_neg c11).trans ((if_neg c15).trans (rfl)))))
            rw [e9]
            exact sp_iret C hAe hP hK hD hS dJI_numberOfTrailingZeros_79
    · refine lv_iinc (v := 17) (lv' := [(1, .int 17), (0, .int ((p1 ^^^ (-1)) &&& (p1 - 1)))]) hx hb dJI_numberOfTrailingZeros_26 hl (k := 0) rfl (by decide) (by decide) rfl (fun ls hl => ?_)
      refine lv_iload_n hx hb dJI_numberOfTrailingZeros_29 rfl (lv_at hl 1 rfl) ?_
      refine lv_bipush (v := 16) hx hb dJI_numberOfTrailingZeros_30 (by decide) ?_
      refine lv_iushr (v := (((p1 ^^^ (-1)) &&& (p1 - 1)).toUInt32 >>> ((16 : Int32).toUInt32 &&& Int32.toUInt32 31)).toInt32) hx hb dJI_numberOfTrailingZeros_32 rfl ?_
      refine lv_topi (fun v17 ev17 => ?_)
      refine lv_istore_n (lv' := [(0, .int v17), (1, .int 17)]) hx hb dJI_numberOfTrailingZeros_33 rfl hl (by decide) rfl (fun ls hl => ?_)
      refine lv_iload_n hx hb dJI_numberOfTrailingZeros_34 rfl (lv_at hl 0 rfl) ?_
      refine lv_sipush (v := 256) hx hb dJI_numberOfTrailingZeros_35 (by decide) ?_
      refine lv_icmp_le (tgt := 49) hx hb dJI_numberOfTrailingZeros_38 (by decide) (fun c18 => ?_) (fun c18 => ?_)
      · refine lv_iload_n hx hb dJI_numberOfTrailingZeros_49 rfl (lv_at hl 0 rfl) ?_
        refine lv_bipush (v := 16) hx hb dJI_numberOfTrailingZeros_50 (by decide) ?_
        refine lv_icmp_le (tgt := 62) hx hb dJI_numberOfTrailingZeros_52 (by decide) (fun c19 => ?_) (fun c19 => ?_)
        · refine lv_iload_n hx hb dJI_numberOfTrailingZeros_62 rfl (lv_at hl 0 rfl) ?_
          refine lv_iconst (v := 4) hx hb dJI_numberOfTrailingZeros_63 (by decide) ?_
          refine lv_icmp_le (tgt := 74) hx hb dJI_numberOfTrailingZeros_64 (by decide) (fun c20 => ?_) (fun c20 => ?_)
          · refine lv_iload_n hx hb dJI_numberOfTrailingZeros_74 rfl (lv_at hl 1 rfl) ?_
            refine lv_iload_n hx hb dJI_numberOfTrailingZeros_75 rfl (lv_at hl 0 rfl) ?_
            refine lv_iconst (v := 1) hx hb dJI_numberOfTrailingZeros_76 (by decide) ?_
            refine lv_iushr (v := (v17.toUInt32 >>> ((1 : Int32).toUInt32 &&& Int32.toUInt32 31)).toInt32) hx hb dJI_numberOfTrailingZeros_77 rfl ?_
            refine lv_iadd hx hb dJI_numberOfTrailingZeros_78 ?_
            have e9 : f_JI_numberOfTrailingZeros p1 = 17 + ((v17.toUInt32 >>> ((1 : Int32).toUInt32 &&& Int32.toUInt32 31)).toInt32) := by
                  subst ev17
                  exact (if_pos c1).trans ((if_neg c2).trans ((if_pos c18).trans ((if_pos c19).trans ((if_pos c20).trans (rfl)))))
            rw [e9]
            exact sp_iret C hAe hP hK hD hS dJI_numberOfTrailingZeros_79
          · refine lv_iinc (v := 19) (lv' := [(1, .int 19), (0, .int v17)]) hx hb dJI_numberOfTrailingZeros_67 hl (k := 1) rfl (by decide) (by decide) rfl (fun ls hl => ?_)
            refine lv_iload_n hx hb dJI_numberOfTrailingZeros_70 rfl (lv_at hl 1 rfl) ?_
            refine lv_iconst (v := 2) hx hb dJI_numberOfTrailingZeros_71 (by decide) ?_
            refine lv_iushr (v := (v17.toUInt32 >>> ((2 : Int32).toUInt32 &&& Int32.toUInt32 31)).toInt32) hx hb dJI_numberOfTrailingZeros_72 rfl ?_
            refine lv_topi (fun v21 ev21 => ?_)
            refine lv_istore_n (lv' := [(0, .int v21), (1, .int 19)]) hx hb dJI_numberOfTrailingZeros_73 rfl hl (by decide) rfl (fun ls hl => ?_)
            refine lv_iload_n hx hb dJI_numberOfTrailingZeros_74 rfl (lv_at hl 1 rfl) ?_
            refine lv_iload_n hx hb dJI_numberOfTrailingZeros_75 rfl (lv_at hl 0 rfl) ?_
            refine lv_iconst (v := 1) hx hb dJI_numberOfTrailingZeros_76 (by decide) ?_
            refine lv_iushr (v := (v21.toUInt32 >>> ((1 : Int32).toUInt32 &&& Int32.toUInt32 31)).toInt32) hx hb dJI_numberOfTrailingZeros_77 rfl ?_
            refine lv_iadd hx hb dJI_numberOfTrailingZeros_78 ?_
            have e9 : f_JI_numberOfTrailingZeros p1 = 19 + ((v21.toUInt32 >>> ((1 : Int32).toUInt32 &&& Int32.toUInt32 31)).toInt32) := by
                  subst ev21
                  subst ev17
                  exact (if_pos c1).trans ((if_neg c2).trans ((if_pos c18).trans ((if_pos c19).trans ((if_neg c20).trans (rfl)))))
            rw [e9]
            exact sp_iret C hAe hP hK hD hS dJI_numberOfTrailingZeros_79
        · refine lv_iinc (v := 21) (lv' := [(1, .int 21), (0, .int v17)]) hx hb dJI_numberOfTrailingZeros_55 hl (k := 1) rfl (by decide) (by decide) rfl (fun ls hl => ?_)
          refine lv_iload_n hx hb dJI_numberOfTrailingZeros_58 rfl (lv_at hl 1 rfl) ?_
          refine lv_iconst (v := 4) hx hb dJI_numberOfTrailingZeros_59 (by decide) ?_
          refine lv_iushr (v := (v17.toUInt32 >>> ((4 : Int32).toUInt32 &&& Int32.toUInt32 31)).toInt32) hx hb dJI_numberOfTrailingZeros_60 rfl ?_
          refine lv_topi (fun v22 ev22 => ?_)
          refine lv_istore_n (lv' := [(0, .int v22), (1, .int 21)]) hx hb dJI_numberOfTrailingZeros_61 rfl hl (by decide) rfl (fun ls hl => ?_)
          refine lv_iload_n hx hb dJI_numberOfTrailingZeros_62 rfl (lv_at hl 0 rfl) ?_
          refine lv_iconst (v := 4) hx hb dJI_numberOfTrailingZeros_63 (by decide) ?_
          refine lv_icmp_le (tgt := 74) hx hb dJI_numberOfTrailingZeros_64 (by decide) (fun c23 => ?_) (fun c23 => ?_)
          · refine lv_iload_n hx hb dJI_numberOfTrailingZeros_74 rfl (lv_at hl 1 rfl) ?_
            refine lv_iload_n hx hb dJI_numberOfTrailingZeros_75 rfl (lv_at hl 0 rfl) ?_
            refine lv_iconst (v := 1) hx hb dJI_numberOfTrailingZeros_76 (by decide) ?_
            refine lv_iushr (v := (v22.toUInt32 >>> ((1 : Int32).toUInt32 &&& Int32.toUInt32 31)).toInt32) hx hb dJI_numberOfTrailingZeros_77 rfl ?_
            refine lv_iadd hx hb dJI_numberOfTrailingZeros_78 ?_
            have e9 : f_JI_numberOfTrailingZeros p1 = 21 + ((v22.toUInt32 >>> ((1 : Int32).toUInt32 &&& Int32.toUInt32 31)).toInt32) := by
                  subst ev22
                  subst ev17
                  exact (if_pos c1).trans ((if_neg c2).trans ((if_pos c18).trans ((if_neg c19).trans ((if_pos c23).trans (rfl)))))
            rw [e9]
            exact sp_iret C hAe hP hK hD hS dJI_numberOfTrailingZeros_79
          · refine lv_iinc (v := 23) (lv' := [(1, .int 23), (0, .int v22)]) hx hb dJI_numberOfTrailingZeros_67 hl (k := 1) rfl (by decide) (by decide) rfl (fun ls hl => ?_)
            refine lv_iload_n hx hb dJI_numberOfTrailingZeros_70 rfl (lv_at hl 1 rfl) ?_
            refine lv_iconst (v := 2) hx hb dJI_numberOfTrailingZeros_71 (by decide) ?_
            refine lv_iushr (v := (v22.toUInt32 >>> ((2 : Int32).toUInt32 &&& Int32.toUInt32 31)).toInt32) hx hb dJI_numberOfTrailingZeros_72 rfl ?_
            refine lv_topi (fun v24 ev24 => ?_)
            refine lv_istore_n (lv' := [(0, .int v24), (1, .int 23)]) hx hb dJI_numberOfTrailingZeros_73 rfl hl (by decide) rfl (fun ls hl => ?_)
            refine lv_iload_n hx hb dJI_numberOfTrailingZeros_74 rfl (lv_at hl 1 rfl) ?_
            refine lv_iload_n hx hb dJI_numberOfTrailingZeros_75 rfl (lv_at hl 0 rfl) ?_
            refine lv_iconst (v := 1) hx hb dJI_numberOfTrailingZeros_76 (by decide) ?_
            refine lv_iushr (v := (v24.toUInt32 >>> ((1 : Int32).toUInt32 &&& Int32.toUInt32 31)).toInt32) hx hb dJI_numberOfTrailingZeros_77 rfl ?_
            refine lv_iadd hx hb dJI_numberOfTrailingZeros_78 ?_
            have e9 : f_JI_numberOfTrailingZeros p1 = 23 + ((v24.toUInt32 >>> ((1 : Int32).toUInt32 &&& Int32.toUInt32 31)).toInt32) := by
                  subst ev24
                  subst ev22
                  subst ev17
                  exact (if_pos c1).trans ((if_neg c2).trans ((if_pos c18).trans ((if_neg c19).trans ((if_neg c23).trans (rfl)))))
            rw [e9]
            exact sp_iret C hAe hP hK hD hS dJI_numberOfTrailingZeros_79
      · refine lv_iinc (v := 25) (lv' := [(1, .int 25), (0, .int v17)]) hx hb dJI_numberOfTrailingZeros_41 hl (k := 1) rfl (by decide) (by decide) rfl (fun ls hl => ?_)
        refine lv_iload_n hx hb dJI_numberOfTrailingZeros_44 rfl (lv_at hl 1 rfl) ?_
        refine lv_bipush (v := 8) hx hb dJI_numberOfTrailingZeros_45 (by decide) ?_
        refine lv_iushr (v := (v17.toUInt32 >>> ((8 : Int32).toUInt32 &&& Int32.toUInt32 31)).toInt32) hx hb dJI_numberOfTrailingZeros_47 rfl ?_
        refine lv_topi (fun v25 ev25 => ?_)
        refine lv_istore_n (lv' := [(0, .int v25), (1, .int 25)]) hx hb dJI_numberOfTrailingZeros_48 rfl hl (by decide) rfl (fun ls hl => ?_)
        refine lv_iload_n hx hb dJI_numberOfTrailingZeros_49 rfl (lv_at hl 0 rfl) ?_
        refine lv_bipush (v := 16) hx hb dJI_numberOfTrailingZeros_50 (by decide) ?_
        refine lv_icmp_le (tgt := 62) hx hb dJI_numberOfTrailingZeros_52 (by decide) (fun c26 => ?_) (fun c26 => ?_)
        · refine lv_iload_n hx hb dJI_numberOfTrailingZeros_62 rfl (lv_at hl 0 rfl) ?_
          refine lv_iconst (v := 4) hx hb dJI_numberOfTrailingZeros_63 (by decide) ?_
          refine lv_icmp_le (tgt := 74) hx hb dJI_numberOfTrailingZeros_64 (by decide) (fun c27 => ?_) (fun c27 => ?_)
          · refine lv_iload_n hx hb dJI_numberOfTrailingZeros_74 rfl (lv_at hl 1 rfl) ?_
            refine lv_iload_n hx hb dJI_numberOfTrailingZeros_75 rfl (lv_at hl 0 rfl) ?_
            refine lv_iconst (v := 1) hx hb dJI_numberOfTrailingZeros_76 (by decide) ?_
            refine lv_iushr (v := (v25.toUInt32 >>> ((1 : Int32).toUInt32 &&& Int32.toUInt32 31)).toInt32) hx hb dJI_numberOfTrailingZeros_77 rfl ?_
            refine lv_iadd hx hb dJI_numberOfTrailingZeros_78 ?_
            have e9 : f_JI_numberOfTrailingZeros p1 = 25 + ((v25.toUInt32 >>> ((1 : Int32).toUInt32 &&& Int32.toUInt32 31)).toInt32) := by
                  subst ev25
                  subst ev17
                  exact (if_pos c1).trans ((if_neg c2).trans ((if_neg c18).trans ((if_pos c26).trans ((if_pos c27).trans (rfl)))))
            rw [e9]
            exact sp_iret C hAe hP hK hD hS dJI_numberOfTrailingZeros_79
          · refine lv_iinc (v := 27) (lv' := [(1, .int 27), (0, .int v25)]) hx hb dJI_numberOfTrailingZeros_67 hl (k := 1) rfl (by decide) (by decide) rfl (fun ls hl => ?_)
            refine lv_iload_n hx hb dJI_numberOfTrailingZeros_70 rfl (lv_at hl 1 rfl) ?_
            refine lv_iconst (v := 2) hx hb dJI_numberOfTrailingZeros_71 (by decide) ?_
            refine lv_iushr (v := (v25.toUInt32 >>> ((2 : Int32).toUInt32 &&& Int32.toUInt32 31)).toInt32) hx hb dJI_numberOfTrailingZeros_72 rfl ?_
            refine lv_topi (fun v28 ev28 => ?_)
            refine lv_istore_n (lv' := [(0, .int v28), (1, .int 27)]) hx hb dJI_numberOfTrailingZeros_73 rfl hl (by decide) rfl (fun ls hl => ?_)
            refine lv_iload_n hx hb dJI_numberOfTrailingZeros_74 rfl (lv_at hl 1 rfl) ?_
            refine lv_iload_n hx hb dJI_numberOfTrailingZeros_75 rfl (lv_at hl 0 rfl) ?_
            refine lv_iconst (v := 1) hx hb dJI_numberOfTrailingZeros_76 (by decide) ?_
            refine lv_iushr (v := (v28.toUInt32 >>> ((1 : Int32).toUInt32 &&& Int32.toUInt32 31)).toInt32) hx hb dJI_numberOfTrailingZeros_77 rfl ?_
            refine lv_iadd hx hb dJI_numberOfTrailingZeros_78 ?_
            have e9 : f_JI_numberOfTrailingZeros p1 = 27 + ((v28.toUInt32 >>> ((1 : Int32).toUInt32 &&& Int32.toUInt32 31)).toInt32) := by
                  subst ev28
                  subst ev25
                  subst ev17
                  exact (if_pos c1).trans ((if_neg c2).trans ((if_neg c18).trans ((if_pos c26).trans ((if_neg c27).trans (rfl)))))
            rw [e9]
            exact sp_iret C hAe hP hK hD hS dJI_numberOfTrailingZeros_79
        · refine lv_iinc (v := 29) (lv' := [(1, .int 29), (0, .int v25)]) hx hb dJI_numberOfTrailingZeros_55 hl (k := 1) rfl (by decide) (by decide) rfl (fun ls hl => ?_)
          refine lv_iload_n hx hb dJI_numberOfTrailingZeros_58 rfl (lv_at hl 1 rfl) ?_
          refine lv_iconst (v := 4) hx hb dJI_numberOfTrailingZeros_59 (by decide) ?_
          refine lv_iushr (v := (v25.toUInt32 >>> ((4 : Int32).toUInt32 &&& Int32.toUInt32 31)).toInt32) hx hb dJI_numberOfTrailingZeros_60 rfl ?_
          refine lv_topi (fun v29 ev29 => ?_)
          refine lv_istore_n (lv' := [(0, .int v29), (1, .int 29)]) hx hb dJI_numberOfTrailingZeros_61 rfl hl (by decide) rfl (fun ls hl => ?_)
          refine lv_iload_n hx hb dJI_numberOfTrailingZeros_62 rfl (lv_at hl 0 rfl) ?_
          refine lv_iconst (v := 4) hx hb dJI_numberOfTrailingZeros_63 (by decide) ?_
          refine lv_icmp_le (tgt := 74) hx hb dJI_numberOfTrailingZeros_64 (by decide) (fun c30 => ?_) (fun c30 => ?_)
          · refine lv_iload_n hx hb dJI_numberOfTrailingZeros_74 rfl (lv_at hl 1 rfl) ?_
            refine lv_iload_n hx hb dJI_numberOfTrailingZeros_75 rfl (lv_at hl 0 rfl) ?_
            refine lv_iconst (v := 1) hx hb dJI_numberOfTrailingZeros_76 (by decide) ?_
            refine lv_iushr (v := (v29.toUInt32 >>> ((1 : Int32).toUInt32 &&& Int32.toUInt32 31)).toInt32) hx hb dJI_numberOfTrailingZeros_77 rfl ?_
            refine lv_iadd hx hb dJI_numberOfTrailingZeros_78 ?_
            have e9 : f_JI_numberOfTrailingZeros p1 = 29 + ((v29.toUInt32 >>> ((1 : Int32).toUInt32 &&& Int32.toUInt32 31)).toInt32) := by
                  subst ev29
                  subst ev25
                  subst ev17
                  exact (if_pos c1).trans ((if_neg c2).trans ((if_neg c18).trans ((if_neg c26).trans ((if_pos c30).trans (rfl)))))
            rw [e9]
            exact sp_iret C hAe hP hK hD hS dJI_numberOfTrailingZeros_79
          · refine lv_iinc (v := 31) (lv' := [(1, .int 31), (0, .int v29)]) hx hb dJI_numberOfTrailingZeros_67 hl (k := 1) rfl (by decide) (by decide) rfl (fun ls hl => ?_)
            refine lv_iload_n hx hb dJI_numberOfTrailingZeros_70 rfl (lv_at hl 1 rfl) ?_
            refine lv_iconst (v := 2) hx hb dJI_numberOfTrailingZeros_71 (by decide) ?_
            refine lv_iushr (v := (v29.toUInt32 >>> ((2 : Int32).toUInt32 &&& Int32.toUInt32 31)).toInt32) hx hb dJI_numberOfTrailingZeros_72 rfl ?_
            refine lv_topi (fun v31 ev31 => ?_)
            refine lv_istore_n (lv' := [(0, .int v31), (1, .int 31)]) hx hb dJI_numberOfTrailingZeros_73 rfl hl (by decide) rfl (fun ls hl => ?_)
            refine lv_iload_n hx hb dJI_numberOfTrailingZeros_74 rfl (lv_at hl 1 rfl) ?_
            refine lv_iload_n hx hb dJI_numberOfTrailingZeros_75 rfl (lv_at hl 0 rfl) ?_
            refine lv_iconst (v := 1) hx hb dJI_numberOfTrailingZeros_76 (by decide) ?_
            refine lv_iushr (v := (v31.toUInt32 >>> ((1 : Int32).toUInt32 &&& Int32.toUInt32 31)).toInt32) hx hb dJI_numberOfTrailingZeros_77 rfl ?_
            refine lv_iadd hx hb dJI_numberOfTrailingZeros_78 ?_
            have e9 : f_JI_numberOfTrailingZeros p1 = 31 + ((v31.toUInt32 >>> ((1 : Int32).toUInt32 &&& Int32.toUInt32 31)).toInt32) := by
                  subst ev31
                  subst ev29
                  subst ev25
                  subst ev17
                  exact (if_pos c1).trans ((if_neg c2).trans ((if_neg c18).trans ((if_neg c26).trans ((if_neg c30).trans (rfl)))))
            rw [e9]
            exact sp_iret C hAe hP hK hD hS dJI_numberOfTrailingZeros_79
  · refine lv_iload_n hx hb dJI_numberOfTrailingZeros_12 rfl (lv_at hl 0 rfl) ?_
    refine lv_bipush (v := 32) hx hb dJI_numberOfTrailingZeros_13 (by decide) ?_
    refine lv_iand hx hb dJI_numberOfTrailingZeros_15 ?_
    have e9 : f_JI_numberOfTrailingZeros p1 = ((p1 ^^^ (-1)) &&& (p1 - 1)) &&& 32 := (if_neg c1).trans (rfl)
    rw [e9]
    exact sp_iret C hAe hP hK hD hS dJI_numberOfTrailingZeros_16
def f_JL_numberOfLeadingZeros (p1 : Int64) : Int32 :=
  (let v1 : Int32 := ((p1.toUInt64 >>> ((32 : Int32).toInt64.toUInt64 &&& Int64.toUInt64 63)).toInt64).toInt32
  if v1 = 0 then 32 + (f_JI_numberOfLeadingZeros p1.toInt32)
  else f_JI_numberOfLeadingZeros v1)
set_option maxHeartbeats 4000000 in
set_option maxRecDepth 100000 in
theorem c_JL_numberOfLeadingZeros (l : Launch) (D : va_G) (p1 : Int64) : sp_M l yJL_numberOfLeadingZeros wsJL_numberOfLeadingZeros ({ frames := 1, cells := 0, slots := 0, locals := 21 }) D [.long p1] ([]) [] (sp_Qi D ([]) ([]) [] (f_JL_numberOfLeadingZeros p1)) := by
  refine sp_ofW (cc := cJL_numberOfLeadingZeros) (nL := 3) (ret := (some .int)) (own := RJL) (by decide) rfl rfl (Nat.le_of_ble_eq_true rfl) ?_
  intro p e s m below meth c A ls hAe hnm C hA hP hK hD hS hl
  have hx := C.1
  have hb := C.2.1
  have hown := C.2.2.2.2.1
  have hts := C.2.2.2.2.2.1
  have hl : lv_has ls 3 [(0, .long p1)] := hl
  refine lv_lload_n hx hb dJL_numberOfLeadingZeros_0 rfl (lv_at hl 0 rfl) ?_
  refine lv_bipush (v := 32) hx hb dJL_numberOfLeadingZeros_1 (by decide) ?_
  refine lv_lushr (v := (p1.toUInt64 >>> ((32 : Int32).toInt64.toUInt64 &&& Int64.toUInt64 63)).toInt64) hx hb dJL_numberOfLeadingZeros_3 rfl ?_
  refine lv_l2i (v := ((p1.toUInt64 >>> ((32 : Int32).toInt64.toUInt64 &&& Int64.toUInt64 63)).toInt64).toInt32) hx hb dJL_numberOfLeadingZeros_4 rfl ?_
  refine lv_topi (fun v1 ev1 => ?_)
  refine lv_istore_n (lv' := [(2, .int v1), (0, .long p1)]) hx hb dJL_numberOfLeadingZeros_5 rfl hl (by decide) rfl (fun ls hl => ?_)
  refine lv_iload_n hx hb dJL_numberOfLeadingZeros_6 rfl (lv_at hl 0 rfl) ?_
  refine lv_if_ne (tgt := 21) hx hb dJL_numberOfLeadingZeros_7 (by decide) (fun c2 => ?_) (fun c2 => ?_)
  · refine lv_iload_n hx hb dJL_numberOfLeadingZeros_21 rfl (lv_at hl 0 rfl) ?_
    refine sp_calli (sp_runS (As := [.int v1]) (rest := []) C (c_JI_numberOfLeadingZeros l D v1) (va_cwS 1 hts (gS wG_c wm_7 wm_8 wm_9 wm_6) rfl rfl rfl (by decide +kernel) ⟨Nat.le_of_ble_eq_true rfl, Nat.le_of_ble_eq_true rfl⟩) hK hP hD [] (by decide) rfl [] rfl rfl hl.1 rfl (Nat.le_of_ble_eq_true rfl) dJL_numberOfLeadingZeros_22 ⟨Nat.le_of_ble_eq_true rfl, Nat.le_of_ble_eq_true rfl⟩) hP hD hS hA [] rfl sp_f0 (fun H locs hP hD hS => ?_)
    have hP : va_P D vwCl ([]) H := hP
    have hD : va_D A ([]) := hD
    have e9 : f_JL_numberOfLeadingZeros p1 = f_JI_numberOfLeadingZeros v1 := by
          subst ev1
          exact (if_neg c2).trans (rfl)
    rw [e9]
    exact sp_iret C hAe hP hK hD hS dJL_numberOfLeadingZeros_25
  · refine lv_bipush (v := 32) hx hb dJL_numberOfLeadingZeros_10 (by decide) ?_
    refine lv_lload_n hx hb dJL_numberOfLeadingZeros_12 rfl (lv_at hl 1 rfl) ?_
    refine lv_l2i (v := p1.toInt32) hx hb dJL_numberOfLeadingZeros_13 rfl ?_
    refine sp_calli (sp_runS (As := [.int p1.toInt32]) (rest := [.int 32]) C (c_JI_numberOfLeadingZeros l D p1.toInt32) (va_cwS 1 hts (gS wG_c wm_7 wm_8 wm_9 wm_6) rfl rfl rfl (by decide +kernel) ⟨Nat.le_of_ble_eq_true rfl, Nat.le_of_ble_eq_true rfl⟩) hK hP hD [] (by decide) rfl [] rfl rfl hl.1 rfl (Nat.le_of_ble_eq_true rfl) dJL_numberOfLeadingZeros_14 ⟨Nat.le_of_ble_eq_true rfl, Nat.le_of_ble_eq_true rfl⟩) hP hD hS hA [] rfl sp_f0 (fun H locs hP hD hS => ?_)
    have hP : va_P D vwCl ([]) H := hP
    have hD : va_D A ([]) := hD
    refine lv_iadd hx hb dJL_numberOfLeadingZeros_17 ?_
    refine lv_goto (tgt := 25) hx hb dJL_numberOfLeadingZeros_18 (by decide) ?_
    have e9 : f_JL_numberOfLeadingZeros p1 = 32 + (f_JI_numberOfLeadingZeros p1.toInt32) := by
          subst ev1
          exact (if_pos c2).trans (rfl)
    rw [e9]
    exact sp_iret C hAe hP hK hD hS dJL_numberOfLeadingZeros_25
def f_JL_numberOfTrailingZeros (p1 : Int64) : Int32 :=
  if p1.toInt32 = 0 then 32 + (f_JI_numberOfTrailingZeros (((p1.toUInt64 >>> ((32 : Int32).toInt64.toUInt64 &&& Int64.toUInt64 63)).toInt64).toInt32))
  else f_JI_numberOfTrailingZeros p1.toInt32
set_option maxHeartbeats 4000000 in
set_option maxRecDepth 100000 in
theorem c_JL_numberOfTrailingZeros (l : Launch) (D : va_G) (p1 : Int64) : sp_M l yJL_numberOfTrailingZeros wsJL_numberOfTrailingZeros ({ frames := 1, cells := 0, slots := 0, locals := 21 }) D [.long p1] ([]) [] (sp_Qi D ([]) ([]) [] (f_JL_numberOfTrailingZeros p1)) := by
  refine sp_ofW (cc := cJL_numberOfTrailingZeros) (nL := 3) (ret := (some .int)) (own := RJL) (by decide) rfl rfl (Nat.le_of_ble_eq_true rfl) ?_
  intro p e s m below meth c A ls hAe hnm C hA hP hK hD hS hl
  have hx := C.1
  have hb := C.2.1
  have hown := C.2.2.2.2.1
  have hts := C.2.2.2.2.2.1
  have hl : lv_has ls 3 [(0, .long p1)] := hl
  refine lv_lload_n hx hb dJL_numberOfTrailingZeros_0 rfl (lv_at hl 0 rfl) ?_
  refine lv_l2i (v := p1.toInt32) hx hb dJL_numberOfTrailingZeros_1 rfl ?_
  refine lv_istore_n (lv' := [(2, .int p1.toInt32), (0, .long p1)]) hx hb dJL_numberOfTrailingZeros_2 rfl hl (by decide) rfl (fun ls hl => ?_)
  refine lv_iload_n hx hb dJL_numberOfTrailingZeros_3 rfl (lv_at hl 0 rfl) ?_
  refine lv_if_ne (tgt := 21) hx hb dJL_numberOfTrailingZeros_4 (by decide) (fun c1 => ?_) (fun c1 => ?_)
  · refine lv_iload_n hx hb dJL_numberOfTrailingZeros_21 rfl (lv_at hl 0 rfl) ?_
    refine sp_calli (sp_runS (As := [.int p1.toInt32]) (rest := []) C (c_JI_numberOfTrailingZeros l D p1.toInt32) (va_cwS 1 hts (gS wG_c wm_11 wm_12 wm_9 wm_10) rfl rfl rfl (by decide +kernel) ⟨Nat.le_of_ble_eq_true rfl, Nat.le_of_ble_eq_true rfl⟩) hK hP hD [] (by decide) rfl [] rfl rfl hl.1 rfl (Nat.le_of_ble_eq_true rfl) dJL_numberOfTrailingZeros_22 ⟨Nat.le_of_ble_eq_true rfl, Nat.le_of_ble_eq_true rfl⟩) hP hD hS hA [] rfl sp_f0 (fun H locs hP hD hS => ?_)
    have hP : va_P D vwCl ([]) H := hP
    have hD : va_D A ([]) := hD
    have e9 : f_JL_numberOfTrailingZeros p1 = f_JI_numberOfTrailingZeros p1.toInt32 := (if_neg c1).trans (rfl)
    rw [e9]
    exact sp_iret C hAe hP hK hD hS dJL_numberOfTrailingZeros_25
  · refine lv_bipush (v := 32) hx hb dJL_numberOfTrailingZeros_7 (by decide) ?_
    refine lv_lload_n hx hb dJL_numberOfTrailingZeros_9 rfl (lv_at hl 1 rfl) ?_
    refine lv_bipush (v := 32) hx hb dJL_numberOfTrailingZeros_10 (by decide) ?_
    refine lv_lushr (v := (p1.toUInt64 >>> ((32 : Int32).toInt64.toUInt64 &&& Int64.toUInt64 63)).toInt64) hx hb dJL_numberOfTrailingZeros_12 rfl ?_
    refine lv_l2i (v := ((p1.toUInt64 >>> ((32 : Int32).toInt64.toUInt64 &&& Int64.toUInt64 63)).toInt64).toInt32) hx hb dJL_numberOfTrailingZeros_13 rfl ?_
    refine sp_calli (sp_runS (As := [.int (((p1.toUInt64 >>> ((32 : Int32).toInt64.toUInt64 &&& Int64.toUInt64 63)).toInt64).toInt32)]) (rest := [.int 32]) C (c_JI_numberOfTrailingZeros l D (((p1.toUInt64 >>> ((32 : Int32).toInt64.toUInt64 &&& Int64.toUInt64 63)).toInt64).toInt32)) (va_cwS 1 hts (gS wG_c wm_11 wm_12 wm_9 wm_10) rfl rfl rfl (by decide +kernel) ⟨Nat.le_of_ble_eq_true rfl, Nat.le_of_ble_eq_true rfl⟩) hK hP hD [] (by decide) rfl [] rfl rfl hl.1 rfl (Nat.le_of_ble_eq_true rfl) dJL_numberOfTrailingZeros_14 ⟨Nat.le_of_ble_eq_true rfl, Nat.le_of_ble_eq_true rfl⟩) hP hD hS hA [] rfl sp_f0 (fun H locs hP hD hS => ?_)
    have hP : va_P D vwCl ([]) H := hP
    have hD : va_D A ([]) := hD
    refine lv_iadd hx hb dJL_numberOfTrailingZeros_17 ?_
    refine lv_goto (tgt := 25) hx hb dJL_numberOfTrailingZeros_18 (by decide) ?_
    have e9 : f_JL_numberOfTrailingZeros p1 = 32 + (f_JI_numberOfTrailingZeros (((p1.toUInt64 >>> ((32 : Int32).toInt64.toUInt64 &&& Int64.toUInt64 63)).toInt64).toInt32)) := (if_pos c1).trans (rfl)
    rw [e9]
    exact sp_iret C hAe hP hK hD hS dJL_numberOfTrailingZeros_25
def f_JL_reverseBytes (p1 : Int64) : Int64 :=
  (let v1 : Int64 := ((p1 &&& 71777214294589695) <<< ((8 : Int32).toInt64 &&& 63)) ||| (((p1.toUInt64 >>> ((8 : Int32).toInt64.toUInt64 &&& Int64.toUInt64 63)).toInt64) &&& 71777214294589695)
  (((v1 <<< ((48 : Int32).toInt64 &&& 63)) ||| ((v1 &&& 4294901760) <<< ((16 : Int32).toInt64 &&& 63))) ||| (((v1.toUInt64 >>> ((16 : Int32).toInt64.toUInt64 &&& Int64.toUInt64 63)).toInt64) &&& 4294901760)) ||| ((v1.toUInt64 >>> ((48 : Int32).toInt64.toUInt64 &&& Int64.toUInt64 63)).toInt64))
set_option maxHeartbeats 4000000 in
set_option maxRecDepth 100000 in
theorem c_JL_reverseBytes (l : Launch) (D : va_G) (p1 : Int64) : sp_M l yJL_reverseBytes wsJL_reverseBytes ({ frames := 0, cells := 0, slots := 0, locals := 0 }) D [.long p1] ([]) [] (sp_Ql D ([]) ([]) [] (f_JL_reverseBytes p1)) := by
  refine sp_ofW (cc := cJL_reverseBytes) (nL := 2) (ret := (some .long)) (own := RJL) (by decide) rfl rfl (Nat.le_of_ble_eq_true rfl) ?_
  intro p e s m below meth c A ls hAe hnm C hA hP hK hD hS hl
  have hx := C.1
  have hb := C.2.1
  have hown := C.2.2.2.2.1
  have hts := C.2.2.2.2.2.1
  have hl : lv_has ls 2 [(0, .long p1)] := hl
  have hk0 := hts _ (List.mem_cons_of_mem _ wm_13)
  have hk1 := hts _ (List.mem_cons_of_mem _ wm_14)
  refine lv_lload_n hx hb dJL_reverseBytes_0 rfl (lv_at hl 0 rfl) ?_
  refine lv_ldc2 (v := 71777214294589695) hx hb hown hk0 dJL_reverseBytes_1 ?_
  refine lv_land hx hb dJL_reverseBytes_4 ?_
  refine lv_bipush (v := 8) hx hb dJL_reverseBytes_5 (by decide) ?_
  refine lv_lshl (v := (p1 &&& 71777214294589695) <<< ((8 : Int32).toInt64 &&& 63)) hx hb dJL_reverseBytes_7 rfl ?_
  refine lv_lload_n hx hb dJL_reverseBytes_8 rfl (lv_at hl 0 rfl) ?_
  refine lv_bipush (v := 8) hx hb dJL_reverseBytes_9 (by decide) ?_
  refine lv_lushr (v := (p1.toUInt64 >>> ((8 : Int32).toInt64.toUInt64 &&& Int64.toUInt64 63)).toInt64) hx hb dJL_reverseBytes_11 rfl ?_
  refine lv_ldc2 (v := 71777214294589695) hx hb hown hk0 dJL_reverseBytes_12 ?_
  refine lv_land hx hb dJL_reverseBytes_15 ?_
  refine lv_lor hx hb dJL_reverseBytes_16 ?_
  refine lv_topl (fun v1 ev1 => ?_)
  refine lv_lstore_n (lv' := [(0, .long v1)]) hx hb dJL_reverseBytes_17 rfl hl (by decide) rfl (fun ls hl => ?_)
  refine lv_lload_n hx hb dJL_reverseBytes_18 rfl (lv_at hl 0 rfl) ?_
  refine lv_bipush (v := 48) hx hb dJL_reverseBytes_19 (by decide) ?_
  refine lv_lshl (v := v1 <<< ((48 : Int32).toInt64 &&& 63)) hx hb dJL_reverseBytes_21 rfl ?_
  refine lv_lload_n hx hb dJL_reverseBytes_22 rfl (lv_at hl 0 rfl) ?_
  refine lv_ldc2 (v := 4294901760) hx hb hown hk1 dJL_reverseBytes_23 ?_
  refine lv_land hx hb dJL_reverseBytes_26 ?_
  refine lv_bipush (v := 16) hx hb dJL_reverseBytes_27 (by decide) ?_
  refine lv_lshl (v := (v1 &&& 4294901760) <<< ((16 : Int32).toInt64 &&& 63)) hx hb dJL_reverseBytes_29 rfl ?_
  refine lv_lor hx hb dJL_reverseBytes_30 ?_
  refine lv_lload_n hx hb dJL_reverseBytes_31 rfl (lv_at hl 0 rfl) ?_
  refine lv_bipush (v := 16) hx hb dJL_reverseBytes_32 (by decide) ?_
  refine lv_lushr (v := (v1.toUInt64 >>> ((16 : Int32).toInt64.toUInt64 &&& Int64.toUInt64 63)).toInt64) hx hb dJL_reverseBytes_34 rfl ?_
  refine lv_ldc2 (v := 4294901760) hx hb hown hk1 dJL_reverseBytes_35 ?_
  refine lv_land hx hb dJL_reverseBytes_38 ?_
  refine lv_lor hx hb dJL_reverseBytes_39 ?_
  refine lv_lload_n hx hb dJL_reverseBytes_40 rfl (lv_at hl 0 rfl) ?_
  refine lv_bipush (v := 48) hx hb dJL_reverseBytes_41 (by decide) ?_
  refine lv_lushr (v := (v1.toUInt64 >>> ((48 : Int32).toInt64.toUInt64 &&& Int64.toUInt64 63)).toInt64) hx hb dJL_reverseBytes_43 rfl ?_
  refine lv_lor hx hb dJL_reverseBytes_44 ?_
  have e9 : f_JL_reverseBytes p1 = (((v1 <<< ((48 : Int32).toInt64 &&& 63)) ||| ((v1 &&& 4294901760) <<< ((16 : Int32).toInt64 &&& 63))) ||| (((v1.toUInt64 >>> ((16 : Int32).toInt64.toUInt64 &&& Int64.toUInt64 63)).toInt64) &&& 4294901760)) ||| ((v1.toUInt64 >>> ((48 : Int32).toInt64.toUInt64 &&& Int64.toUInt64 63)).toInt64) := by
        subst ev1
        exact rfl
  rw [e9]
  exact sp_lret C hAe hP hK hD hS dJL_reverseBytes_45
def f_JL_bitCount (p1 : Int64) : Int32 :=
  (let v1 : Int64 := p1 - (((p1.toUInt64 >>> ((1 : Int32).toInt64.toUInt64 &&& Int64.toUInt64 63)).toInt64) &&& 6148914691236517205)
  (let v2 : Int64 := (v1 &&& 3689348814741910323) + (((v1.toUInt64 >>> ((2 : Int32).toInt64.toUInt64 &&& Int64.toUInt64 63)).toInt64) &&& 3689348814741910323)
  (let v3 : Int64 := (v2 + ((v2.toUInt64 >>> ((4 : Int32).toInt64.toUInt64 &&& Int64.toUInt64 63)).toInt64)) &&& 1085102592571150095
  (let v4 : Int64 := v3 + ((v3.toUInt64 >>> ((8 : Int32).toInt64.toUInt64 &&& Int64.toUInt64 63)).toInt64)
  (let v5 : Int64 := v4 + ((v4.toUInt64 >>> ((16 : Int32).toInt64.toUInt64 &&& Int64.toUInt64 63)).toInt64)
  (let v6 : Int64 := v5 + ((v5.toUInt64 >>> ((32 : Int32).toInt64.toUInt64 &&& Int64.toUInt64 63)).toInt64)
  v6.toInt32 &&& 127))))))
set_option maxHeartbeats 4000000 in
set_option maxRecDepth 100000 in
theorem c_JL_bitCount (l : Launch) (D : va_G) (p1 : Int64) : sp_M l yJL_bitCount wsJL_bitCount ({ frames := 0, cells := 0, slots := 0, locals := 0 }) D [.long p1] ([]) [] (sp_Qi D ([]) ([]) [] (f_JL_bitCount p1)) := by
  refine sp_ofW (cc := cJL_bitCount) (nL := 2) (ret := (some .int)) (own := RJL) (by decide) rfl rfl (Nat.le_of_ble_eq_true rfl) ?_
  intro p e s m below meth c A ls hAe hnm C hA hP hK hD hS hl
  have hx := C.1
  have hb := C.2.1
  have hown := C.2.2.2.2.1
  have hts := C.2.2.2.2.2.1
  have hl : lv_has ls 2 [(0, .long p1)] := hl
  have hk0 := hts _ (List.mem_cons_of_mem _ wm_15)
  have hk1 := hts _ (List.mem_cons_of_mem _ wm_16)
  have hk2 := hts _ (List.mem_cons_of_mem _ wm_17)
  refine lv_lload_n hx hb dJL_bitCount_0 rfl (lv_at hl 0 rfl) ?_
  refine lv_lload_n hx hb dJL_bitCount_1 rfl (lv_at hl 0 rfl) ?_
  refine lv_iconst (v := 1) hx hb dJL_bitCount_2 (by decide) ?_
  refine lv_lushr (v := (p1.toUInt64 >>> ((1 : Int32).toInt64.toUInt64 &&& Int64.toUInt64 63)).toInt64) hx hb dJL_bitCount_3 rfl ?_
  refine lv_ldc2 (v := 6148914691236517205) hx hb hown hk0 dJL_bitCount_4 ?_
  refine lv_land hx hb dJL_bitCount_7 ?_
  refine lv_lsub hx hb dJL_bitCount_8 ?_
  refine lv_topl (fun v1 ev1 => ?_)
  refine lv_lstore_n (lv' := [(0, .long v1)]) hx hb dJL_bitCount_9 rfl hl (by decide) rfl (fun ls hl => ?_)
  refine lv_lload_n hx hb dJL_bitCount_10 rfl (lv_at hl 0 rfl) ?_
  refine lv_ldc2 (v := 3689348814741910323) hx hb hown hk1 dJL_bitCount_11 ?_
  refine lv_land hx hb dJL_bitCount_14 ?_
  refine lv_lload_n hx hb dJL_bitCount_15 rfl (lv_at hl 0 rfl) ?_
  refine lv_iconst (v := 2) hx hb dJL_bitCount_16 (by decide) ?_
  refine lv_lushr (v := (v1.toUInt64 >>> ((2 : Int32).toInt64.toUInt64 &&& Int64.toUInt64 63)).toInt64) hx hb dJL_bitCount_17 rfl ?_
  refine lv_ldc2 (v := 3689348814741910323) hx hb hown hk1 dJL_bitCount_18 ?_
  refine lv_land hx hb dJL_bitCount_21 ?_
  refine lv_ladd hx hb dJL_bitCount_22 ?_
  refine lv_topl (fun v2 ev2 => ?_)
  refine lv_lstore_n (lv' := [(0, .long v2)]) hx hb dJL_bitCount_23 rfl hl (by decide) rfl (fun ls hl => ?_)
  refine lv_lload_n hx hb dJL_bitCount_24 rfl (lv_at hl 0 rfl) ?_
  refine lv_lload_n hx hb dJL_bitCount_25 rfl (lv_at hl 0 rfl) ?_
  refine lv_iconst (v := 4) hx hb dJL_bitCount_26 (by decide) ?_
  refine lv_lushr (v := (v2.toUInt64 >>> ((4 : Int32).toInt64.toUInt64 &&& Int64.toUInt64 63)).toInt64) hx hb dJL_bitCount_27 rfl ?_
  refine lv_ladd hx hb dJL_bitCount_28 ?_
  refine lv_ldc2 (v := 1085102592571150095) hx hb hown hk2 dJL_bitCount_29 ?_
  refine lv_land hx hb dJL_bitCount_32 ?_
  refine lv_topl (fun v3 ev3 => ?_)
  refine lv_lstore_n (lv' := [(0, .long v3)]) hx hb dJL_bitCount_33 rfl hl (by decide) rfl (fun ls hl => ?_)
  refine lv_lload_n hx hb dJL_bitCount_34 rfl (lv_at hl 0 rfl) ?_
  refine lv_lload_n hx hb dJL_bitCount_35 rfl (lv_at hl 0 rfl) ?_
  refine lv_bipush (v := 8) hx hb dJL_bitCount_36 (by decide) ?_
  refine lv_lushr (v := (v3.toUInt64 >>> ((8 : Int32).toInt64.toUInt64 &&& Int64.toUInt64 63)).toInt64) hx hb dJL_bitCount_38 rfl ?_
  refine lv_ladd hx hb dJL_bitCount_39 ?_
  refine lv_topl (fun v4 ev4 => ?_)
  refine lv_lstore_n (lv' := [(0, .long v4)]) hx hb dJL_bitCount_40 rfl hl (by decide) rfl (fun ls hl => ?_)
  refine lv_lload_n hx hb dJL_bitCount_41 rfl (lv_at hl 0 rfl) ?_
  refine lv_lload_n hx hb dJL_bitCount_42 rfl (lv_at hl 0 rfl) ?_
  refine lv_bipush (v := 16) hx hb dJL_bitCount_43 (by decide) ?_
  refine lv_lushr (v := (v4.toUInt64 >>> ((16 : Int32).toInt64.toUInt64 &&& Int64.toUInt64 63)).toInt64) hx hb dJL_bitCount_45 rfl ?_
  refine lv_ladd hx hb dJL_bitCount_46 ?_
  refine lv_topl (fun v5 ev5 => ?_)
  refine lv_lstore_n (lv' := [(0, .long v5)]) hx hb dJL_bitCount_47 rfl hl (by decide) rfl (fun ls hl => ?_)
  refine lv_lload_n hx hb dJL_bitCount_48 rfl (lv_at hl 0 rfl) ?_
  refine lv_lload_n hx hb dJL_bitCount_49 rfl (lv_at hl 0 rfl) ?_
  refine lv_bipush (v := 32) hx hb dJL_bitCount_50 (by decide) ?_
  refine lv_lushr (v := (v5.toUInt64 >>> ((32 : Int32).toInt64.toUInt64 &&& Int64.toUInt64 63)).toInt64) hx hb dJL_bitCount_52 rfl ?_
  refine lv_ladd hx hb dJL_bitCount_53 ?_
  refine lv_topl (fun v6 ev6 => ?_)
  refine lv_lstore_n (lv' := [(0, .long v6)]) hx hb dJL_bitCount_54 rfl hl (by decide) rfl (fun ls hl => ?_)
  refine lv_lload_n hx hb dJL_bitCount_55 rfl (lv_at hl 0 rfl) ?_
  refine lv_l2i (v := v6.toInt32) hx hb dJL_bitCount_56 rfl ?_
  refine lv_bipush (v := 127) hx hb dJL_bitCount_57 (by decide) ?_
  refine lv_iand hx hb dJL_bitCount_59 ?_
  have e9 : f_JL_bitCount p1 = v6.toInt32 &&& 127 := by
        subst ev6
        subst ev5
        subst ev4
        subst ev3
        subst ev2
        subst ev1
        exact rfl
  rw [e9]
  exact sp_iret C hAe hP hK hD hS dJL_bitCount_60
