theorem wm_18 : (.methodLink RX1 3 objectInit : Cond) ∈ wsG := wG_of 94 (by decide +kernel) (by decide +kernel)
theorem wm_19 : (.instanceMethod objectInit : Cond) ∈ wsG := wG_of 79 (by decide +kernel) (by decide +kernel)
theorem wm_20 : (.code objectInit ⟨#[0xb1]⟩ 1 none : Cond) ∈ wsG := wG_of 80 (by decide +kernel) (by decide +kernel)
theorem wm_21 : (.fieldLink RX1 29 "RangeDesk$Num" "value" "J" : Cond) ∈ wsG := wG_of 95 (by decide +kernel) (by decide +kernel)
theorem wm_22 : (.fieldLink RX1 33 "RangeDesk$Num" "mask" "J" : Cond) ∈ wsG := wG_of 99 (by decide +kernel) (by decide +kernel)
theorem wm_23 : (.fieldLink RX1 36 "RangeDesk$Num" "least" "J" : Cond) ∈ wsG := wG_of 103 (by decide +kernel) (by decide +kernel)
theorem wm_24 : (.fieldLink RX1 39 "RangeDesk$Num" "greatest" "J" : Cond) ∈ wsG := wG_of 107 (by decide +kernel) (by decide +kernel)
theorem wm_25 : (.fieldLink RX1 42 "RangeDesk$Num" "signedLeast" "J" : Cond) ∈ wsG := wG_of 111 (by decide +kernel) (by decide +kernel)
theorem wm_26 : (.fieldLink RX1 45 "RangeDesk$Num" "signedGreatest" "J" : Cond) ∈ wsG := wG_of 115 (by decide +kernel) (by decide +kernel)
theorem wm_27 : (.code yX1_setBits cX1_setBits 5 none : Cond) ∈ wsG := wG_of 182 (by decide +kernel) (by decide +kernel)
theorem wm_28 : (.methodLink RX1 9 yX1_setBits : Cond) ∈ wsG := wG_of 179 (by decide +kernel) (by decide +kernel)
theorem wm_29 : (.instanceMethod yX1_setBits : Cond) ∈ wsG := wG_of 180 (by decide +kernel) (by decide +kernel)
theorem wm_30 : (.selects RX1 yX1_setBits yX1_setBits : Cond) ∈ wsG := wG_of 181 (by decide +kernel) (by decide +kernel)
theorem wm_31 : (.initialized RX1 : Cond) ∈ wsG := wG_of 63 (by decide +kernel) (by decide +kernel)
theorem wm_32 : (.code yX1_setUnsigned cX1_setUnsigned 5 none : Cond) ∈ wsG := wG_of 186 (by decide +kernel) (by decide +kernel)
theorem wm_33 : (.methodLink RX1 15 yX1_setUnsigned : Cond) ∈ wsG := wG_of 183 (by decide +kernel) (by decide +kernel)
theorem wm_34 : (.instanceMethod yX1_setUnsigned : Cond) ∈ wsG := wG_of 184 (by decide +kernel) (by decide +kernel)
theorem wm_35 : (.selects RX1 yX1_setUnsigned yX1_setUnsigned : Cond) ∈ wsG := wG_of 185 (by decide +kernel) (by decide +kernel)
theorem wm_36 : (.code yX1_setSigned cX1_setSigned 5 none : Cond) ∈ wsG := wG_of 190 (by decide +kernel) (by decide +kernel)
theorem wm_37 : (.methodLink RX1 18 yX1_setSigned : Cond) ∈ wsG := wG_of 187 (by decide +kernel) (by decide +kernel)
theorem wm_38 : (.instanceMethod yX1_setSigned : Cond) ∈ wsG := wG_of 188 (by decide +kernel) (by decide +kernel)
theorem wm_39 : (.selects RX1 yX1_setSigned yX1_setSigned : Cond) ∈ wsG := wG_of 189 (by decide +kernel) (by decide +kernel)
theorem wm_40 : (.constantLong RX1 21 (-1) : Cond) ∈ wsG := wG_of 199 (by decide +kernel) (by decide +kernel)
theorem wm_41 : (.constantLong RX1 25 (-9223372036854775808) : Cond) ∈ wsG := wG_of 200 (by decide +kernel) (by decide +kernel)
theorem wm_42 : (.constantLong RX1 27 9223372036854775807 : Cond) ∈ wsG := wG_of 201 (by decide +kernel) (by decide +kernel)
theorem wm_43 : (.methodLink RX1 52 Lib.MathLoose.max_long.x : Cond) ∈ wsG := wG_of 244 (by decide +kernel) (by decide +kernel)
theorem wm_44 : (.static Lib.MathLoose.max_long.x : Cond) ∈ wsG := wG_of 245 (by decide +kernel) (by decide +kernel)
theorem wm_45 : (.initialized "java/lang/Math" : Cond) ∈ wsG := wG_of 66 (by decide +kernel) (by decide +kernel)
theorem wm_46 : (.code Lib.MathLoose.max_long.x Lib.MathLoose.max_long.code 4 (some .long) : Cond) ∈ wsG := wG_of 246 (by decide +kernel) (by decide +kernel)
theorem wm_47 : (.methodLink RX1 58 Lib.MathLoose.min_long.x : Cond) ∈ wsG := wG_of 251 (by decide +kernel) (by decide +kernel)
theorem wm_48 : (.static Lib.MathLoose.min_long.x : Cond) ∈ wsG := wG_of 252 (by decide +kernel) (by decide +kernel)
theorem wm_49 : (.code Lib.MathLoose.min_long.x Lib.MathLoose.min_long.code 4 (some .long) : Cond) ∈ wsG := wG_of 253 (by decide +kernel) (by decide +kernel)
theorem dX1_init_0 : decode cX1_init 0 = .ok (.aload_n 0, 1) := by decide +kernel
theorem dX1_init_1 : decode cX1_init 1 = .ok (.invokespecial 3, 3) := by decide +kernel
theorem dX1_init_4 : decode cX1_init 4 = .ok (.return_, 1) := by decide +kernel
theorem dX1_setBits_0 : decode cX1_setBits 0 = .ok (.aload_n 0, 1) := by decide +kernel
theorem dX1_setBits_1 : decode cX1_setBits 1 = .ok (.lload_n 1, 1) := by decide +kernel
theorem dX1_setBits_2 : decode cX1_setBits 2 = .ok (.putfield 29, 3) := by decide +kernel
theorem dX1_setBits_5 : decode cX1_setBits 5 = .ok (.aload_n 0, 1) := by decide +kernel
theorem dX1_setBits_6 : decode cX1_setBits 6 = .ok (.lload_n 3, 1) := by decide +kernel
theorem dX1_setBits_7 : decode cX1_setBits 7 = .ok (.putfield 33, 3) := by decide +kernel
theorem dX1_setBits_10 : decode cX1_setBits 10 = .ok (.return_, 1) := by decide +kernel
theorem dX1_setUnsigned_0 : decode cX1_setUnsigned 0 = .ok (.aload_n 0, 1) := by decide +kernel
theorem dX1_setUnsigned_1 : decode cX1_setUnsigned 1 = .ok (.lload_n 1, 1) := by decide +kernel
theorem dX1_setUnsigned_2 : decode cX1_setUnsigned 2 = .ok (.putfield 36, 3) := by decide +kernel
theorem dX1_setUnsigned_5 : decode cX1_setUnsigned 5 = .ok (.aload_n 0, 1) := by decide +kernel
theorem dX1_setUnsigned_6 : decode cX1_setUnsigned 6 = .ok (.lload_n 3, 1) := by decide +kernel
theorem dX1_setUnsigned_7 : decode cX1_setUnsigned 7 = .ok (.putfield 39, 3) := by decide +kernel
theorem dX1_setUnsigned_10 : decode cX1_setUnsigned 10 = .ok (.return_, 1) := by decide +kernel
theorem dX1_setSigned_0 : decode cX1_setSigned 0 = .ok (.aload_n 0, 1) := by decide +kernel
theorem dX1_setSigned_1 : decode cX1_setSigned 1 = .ok (.lload_n 1, 1) := by decide +kernel
theorem dX1_setSigned_2 : decode cX1_setSigned 2 = .ok (.putfield 42, 3) := by decide +kernel
theorem dX1_setSigned_5 : decode cX1_setSigned 5 = .ok (.aload_n 0, 1) := by decide +kernel
theorem dX1_setSigned_6 : decode cX1_setSigned 6 = .ok (.lload_n 3, 1) := by decide +kernel
theorem dX1_setSigned_7 : decode cX1_setSigned 7 = .ok (.putfield 45, 3) := by decide +kernel
theorem dX1_setSigned_10 : decode cX1_setSigned 10 = .ok (.return_, 1) := by decide +kernel
theorem dX1_becomeExact_0 : decode cX1_becomeExact 0 = .ok (.aload_n 0, 1) := by decide +kernel
theorem dX1_becomeExact_1 : decode cX1_becomeExact 1 = .ok (.lload_n 1, 1) := by decide +kernel
theorem dX1_becomeExact_2 : decode cX1_becomeExact 2 = .ok (.lconst 0, 1) := by decide +kernel
theorem dX1_becomeExact_3 : decode cX1_becomeExact 3 = .ok (.invokevirtual 9, 3) := by decide +kernel
theorem dX1_becomeExact_6 : decode cX1_becomeExact 6 = .ok (.aload_n 0, 1) := by decide +kernel
theorem dX1_becomeExact_7 : decode cX1_becomeExact 7 = .ok (.lload_n 1, 1) := by decide +kernel
theorem dX1_becomeExact_8 : decode cX1_becomeExact 8 = .ok (.lload_n 1, 1) := by decide +kernel
theorem dX1_becomeExact_9 : decode cX1_becomeExact 9 = .ok (.invokevirtual 15, 3) := by decide +kernel
theorem dX1_becomeExact_12 : decode cX1_becomeExact 12 = .ok (.aload_n 0, 1) := by decide +kernel
theorem dX1_becomeExact_13 : decode cX1_becomeExact 13 = .ok (.lload_n 1, 1) := by decide +kernel
theorem dX1_becomeExact_14 : decode cX1_becomeExact 14 = .ok (.lload_n 1, 1) := by decide +kernel
theorem dX1_becomeExact_15 : decode cX1_becomeExact 15 = .ok (.invokevirtual 18, 3) := by decide +kernel
theorem dX1_becomeExact_18 : decode cX1_becomeExact 18 = .ok (.return_, 1) := by decide +kernel
theorem dX1_becomeAny_0 : decode cX1_becomeAny 0 = .ok (.aload_n 0, 1) := by decide +kernel
theorem dX1_becomeAny_1 : decode cX1_becomeAny 1 = .ok (.lconst 0, 1) := by decide +kernel
theorem dX1_becomeAny_2 : decode cX1_becomeAny 2 = .ok (.ldc2_w 21, 3) := by decide +kernel
theorem dX1_becomeAny_5 : decode cX1_becomeAny 5 = .ok (.invokevirtual 9, 3) := by decide +kernel
theorem dX1_becomeAny_8 : decode cX1_becomeAny 8 = .ok (.aload_n 0, 1) := by decide +kernel
theorem dX1_becomeAny_9 : decode cX1_becomeAny 9 = .ok (.lconst 0, 1) := by decide +kernel
theorem dX1_becomeAny_10 : decode cX1_becomeAny 10 = .ok (.ldc2_w 21, 3) := by decide +kernel
theorem dX1_becomeAny_13 : decode cX1_becomeAny 13 = .ok (.invokevirtual 15, 3) := by decide +kernel
theorem dX1_becomeAny_16 : decode cX1_becomeAny 16 = .ok (.aload_n 0, 1) := by decide +kernel
theorem dX1_becomeAny_17 : decode cX1_becomeAny 17 = .ok (.ldc2_w 25, 3) := by decide +kernel
theorem dX1_becomeAny_20 : decode cX1_becomeAny 20 = .ok (.ldc2_w 27, 3) := by decide +kernel
theorem dX1_becomeAny_23 : decode cX1_becomeAny 23 = .ok (.invokevirtual 18, 3) := by decide +kernel
theorem dX1_becomeAny_26 : decode cX1_becomeAny 26 = .ok (.return_, 1) := by decide +kernel
theorem dX1_become_0 : decode cX1_become 0 = .ok (.aload_n 0, 1) := by decide +kernel
theorem dX1_become_1 : decode cX1_become 1 = .ok (.aload_n 1, 1) := by decide +kernel
theorem dX1_become_2 : decode cX1_become 2 = .ok (.getfield 29, 3) := by decide +kernel
theorem dX1_become_5 : decode cX1_become 5 = .ok (.aload_n 1, 1) := by decide +kernel
theorem dX1_become_6 : decode cX1_become 6 = .ok (.getfield 33, 3) := by decide +kernel
theorem dX1_become_9 : decode cX1_become 9 = .ok (.invokevirtual 9, 3) := by decide +kernel
theorem dX1_become_12 : decode cX1_become 12 = .ok (.aload_n 0, 1) := by decide +kernel
theorem dX1_become_13 : decode cX1_become 13 = .ok (.aload_n 1, 1) := by decide +kernel
theorem dX1_become_14 : decode cX1_become 14 = .ok (.getfield 36, 3) := by decide +kernel
theorem dX1_become_17 : decode cX1_become 17 = .ok (.aload_n 1, 1) := by decide +kernel
theorem dX1_become_18 : decode cX1_become 18 = .ok (.getfield 39, 3) := by decide +kernel
theorem dX1_become_21 : decode cX1_become 21 = .ok (.invokevirtual 15, 3) := by decide +kernel
theorem dX1_become_24 : decode cX1_become 24 = .ok (.aload_n 0, 1) := by decide +kernel
theorem dX1_become_25 : decode cX1_become 25 = .ok (.aload_n 1, 1) := by decide +kernel
theorem dX1_become_26 : decode cX1_become 26 = .ok (.getfield 42, 3) := by decide +kernel
theorem dX1_become_29 : decode cX1_become 29 = .ok (.aload_n 1, 1) := by decide +kernel
theorem dX1_become_30 : decode cX1_become 30 = .ok (.getfield 45, 3) := by decide +kernel
theorem dX1_become_33 : decode cX1_become 33 = .ok (.invokevirtual 18, 3) := by decide +kernel
theorem dX1_become_36 : decode cX1_become 36 = .ok (.return_, 1) := by decide +kernel
theorem dX1_isExact_0 : decode cX1_isExact 0 = .ok (.aload_n 0, 1) := by decide +kernel
theorem dX1_isExact_1 : decode cX1_isExact 1 = .ok (.getfield 33, 3) := by decide +kernel
theorem dX1_isExact_4 : decode cX1_isExact 4 = .ok (.lconst 0, 1) := by decide +kernel
theorem dX1_isExact_5 : decode cX1_isExact 5 = .ok (.lcmp, 1) := by decide +kernel
theorem dX1_isExact_6 : decode cX1_isExact 6 = .ok (.ifCond .ne 7, 3) := by decide +kernel
theorem dX1_isExact_9 : decode cX1_isExact 9 = .ok (.iconst 1, 1) := by decide +kernel
theorem dX1_isExact_10 : decode cX1_isExact 10 = .ok (.goto 4, 3) := by decide +kernel
theorem dX1_isExact_13 : decode cX1_isExact 13 = .ok (.iconst 0, 1) := by decide +kernel
theorem dX1_isExact_14 : decode cX1_isExact 14 = .ok (.ireturn, 1) := by decide +kernel
theorem dX1_isExactly_0 : decode cX1_isExactly 0 = .ok (.aload_n 0, 1) := by decide +kernel
theorem dX1_isExactly_1 : decode cX1_isExactly 1 = .ok (.getfield 33, 3) := by decide +kernel
theorem dX1_isExactly_4 : decode cX1_isExactly 4 = .ok (.lconst 0, 1) := by decide +kernel
theorem dX1_isExactly_5 : decode cX1_isExactly 5 = .ok (.lcmp, 1) := by decide +kernel
theorem dX1_isExactly_6 : decode cX1_isExactly 6 = .ok (.ifCond .ne 16, 3) := by decide +kernel
theorem dX1_isExactly_9 : decode cX1_isExactly 9 = .ok (.aload_n 0, 1) := by decide +kernel
theorem dX1_isExactly_10 : decode cX1_isExactly 10 = .ok (.getfield 29, 3) := by decide +kernel
theorem dX1_isExactly_13 : decode cX1_isExactly 13 = .ok (.lload_n 1, 1) := by decide +kernel
theorem dX1_isExactly_14 : decode cX1_isExactly 14 = .ok (.lcmp, 1) := by decide +kernel
theorem dX1_isExactly_15 : decode cX1_isExactly 15 = .ok (.ifCond .ne 7, 3) := by decide +kernel
theorem dX1_isExactly_18 : decode cX1_isExactly 18 = .ok (.iconst 1, 1) := by decide +kernel
theorem dX1_isExactly_19 : decode cX1_isExactly 19 = .ok (.goto 4, 3) := by decide +kernel
theorem dX1_isExactly_22 : decode cX1_isExactly 22 = .ok (.iconst 0, 1) := by decide +kernel
theorem dX1_isExactly_23 : decode cX1_isExactly 23 = .ok (.ireturn, 1) := by decide +kernel
theorem dX1_mayBeOne_0 : decode cX1_mayBeOne 0 = .ok (.aload_n 0, 1) := by decide +kernel
theorem dX1_mayBeOne_1 : decode cX1_mayBeOne 1 = .ok (.getfield 29, 3) := by decide +kernel
theorem dX1_mayBeOne_4 : decode cX1_mayBeOne 4 = .ok (.aload_n 0, 1) := by decide +kernel
theorem dX1_mayBeOne_5 : decode cX1_mayBeOne 5 = .ok (.getfield 33, 3) := by decide +kernel
theorem dX1_mayBeOne_8 : decode cX1_mayBeOne 8 = .ok (.lor, 1) := by decide +kernel
theorem dX1_mayBeOne_9 : decode cX1_mayBeOne 9 = .ok (.lreturn, 1) := by decide +kernel
theorem dX1_standsFor_0 : decode cX1_standsFor 0 = .ok (.lload_n 1, 1) := by decide +kernel
theorem dX1_standsFor_1 : decode cX1_standsFor 1 = .ok (.aload_n 0, 1) := by decide +kernel
theorem dX1_standsFor_2 : decode cX1_standsFor 2 = .ok (.getfield 33, 3) := by decide +kernel
theorem dX1_standsFor_5 : decode cX1_standsFor 5 = .ok (.ldc2_w 21, 3) := by decide +kernel
theorem dX1_standsFor_8 : decode cX1_standsFor 8 = .ok (.lxor, 1) := by decide +kernel
theorem dX1_standsFor_9 : decode cX1_standsFor 9 = .ok (.land, 1) := by decide +kernel
theorem dX1_standsFor_10 : decode cX1_standsFor 10 = .ok (.aload_n 0, 1) := by decide +kernel
theorem dX1_standsFor_11 : decode cX1_standsFor 11 = .ok (.getfield 29, 3) := by decide +kernel
theorem dX1_standsFor_14 : decode cX1_standsFor 14 = .ok (.lcmp, 1) := by decide +kernel
theorem dX1_standsFor_15 : decode cX1_standsFor 15 = .ok (.ifCond .ne 47, 3) := by decide +kernel
theorem dX1_standsFor_18 : decode cX1_standsFor 18 = .ok (.aload_n 0, 1) := by decide +kernel
theorem dX1_standsFor_19 : decode cX1_standsFor 19 = .ok (.getfield 36, 3) := by decide +kernel
theorem dX1_standsFor_22 : decode cX1_standsFor 22 = .ok (.lload_n 1, 1) := by decide +kernel
theorem dX1_standsFor_23 : decode cX1_standsFor 23 = .ok (.invokestatic 48, 3) := by decide +kernel
theorem dX1_standsFor_26 : decode cX1_standsFor 26 = .ok (.ifCond .ne 36, 3) := by decide +kernel
theorem dX1_standsFor_29 : decode cX1_standsFor 29 = .ok (.lload_n 1, 1) := by decide +kernel
theorem dX1_standsFor_30 : decode cX1_standsFor 30 = .ok (.aload_n 0, 1) := by decide +kernel
theorem dX1_standsFor_31 : decode cX1_standsFor 31 = .ok (.getfield 39, 3) := by decide +kernel
theorem dX1_standsFor_34 : decode cX1_standsFor 34 = .ok (.invokestatic 48, 3) := by decide +kernel
theorem dX1_standsFor_37 : decode cX1_standsFor 37 = .ok (.ifCond .ne 25, 3) := by decide +kernel
theorem dX1_standsFor_40 : decode cX1_standsFor 40 = .ok (.aload_n 0, 1) := by decide +kernel
theorem dX1_standsFor_41 : decode cX1_standsFor 41 = .ok (.getfield 42, 3) := by decide +kernel
theorem dX1_standsFor_44 : decode cX1_standsFor 44 = .ok (.lload_n 1, 1) := by decide +kernel
theorem dX1_standsFor_45 : decode cX1_standsFor 45 = .ok (.lcmp, 1) := by decide +kernel
theorem dX1_standsFor_46 : decode cX1_standsFor 46 = .ok (.ifCond .gt 16, 3) := by decide +kernel
theorem dX1_standsFor_49 : decode cX1_standsFor 49 = .ok (.lload_n 1, 1) := by decide +kernel
theorem dX1_standsFor_50 : decode cX1_standsFor 50 = .ok (.aload_n 0, 1) := by decide +kernel
theorem dX1_standsFor_51 : decode cX1_standsFor 51 = .ok (.getfield 45, 3) := by decide +kernel
theorem dX1_standsFor_54 : decode cX1_standsFor 54 = .ok (.lcmp, 1) := by decide +kernel
theorem dX1_standsFor_55 : decode cX1_standsFor 55 = .ok (.ifCond .gt 7, 3) := by decide +kernel
theorem dX1_standsFor_58 : decode cX1_standsFor 58 = .ok (.iconst 1, 1) := by decide +kernel
theorem dX1_standsFor_59 : decode cX1_standsFor 59 = .ok (.goto 4, 3) := by decide +kernel
theorem dX1_standsFor_62 : decode cX1_standsFor 62 = .ok (.iconst 0, 1) := by decide +kernel
theorem dX1_standsFor_63 : decode cX1_standsFor 63 = .ok (.ireturn, 1) := by decide +kernel
theorem dX1_isKnownOf_0 : decode cX1_isKnownOf 0 = .ok (.aload_n 1, 1) := by decide +kernel
theorem dX1_isKnownOf_1 : decode cX1_isKnownOf 1 = .ok (.getfield 33, 3) := by decide +kernel
theorem dX1_isKnownOf_4 : decode cX1_isKnownOf 4 = .ok (.aload_n 0, 1) := by decide +kernel
theorem dX1_isKnownOf_5 : decode cX1_isKnownOf 5 = .ok (.getfield 33, 3) := by decide +kernel
theorem dX1_isKnownOf_8 : decode cX1_isKnownOf 8 = .ok (.ldc2_w 21, 3) := by decide +kernel
theorem dX1_isKnownOf_11 : decode cX1_isKnownOf 11 = .ok (.lxor, 1) := by decide +kernel
theorem dX1_isKnownOf_12 : decode cX1_isKnownOf 12 = .ok (.land, 1) := by decide +kernel
theorem dX1_isKnownOf_13 : decode cX1_isKnownOf 13 = .ok (.lconst 0, 1) := by decide +kernel
theorem dX1_isKnownOf_14 : decode cX1_isKnownOf 14 = .ok (.lcmp, 1) := by decide +kernel
theorem dX1_isKnownOf_15 : decode cX1_isKnownOf 15 = .ok (.ifCond .ne 80, 3) := by decide +kernel
theorem dX1_isKnownOf_18 : decode cX1_isKnownOf 18 = .ok (.aload_n 1, 1) := by decide +kernel
theorem dX1_isKnownOf_19 : decode cX1_isKnownOf 19 = .ok (.getfield 29, 3) := by decide +kernel
theorem dX1_isKnownOf_22 : decode cX1_isKnownOf 22 = .ok (.aload_n 0, 1) := by decide +kernel
theorem dX1_isKnownOf_23 : decode cX1_isKnownOf 23 = .ok (.getfield 33, 3) := by decide +kernel
theorem dX1_isKnownOf_26 : decode cX1_isKnownOf 26 = .ok (.ldc2_w 21, 3) := by decide +kernel
theorem dX1_isKnownOf_29 : decode cX1_isKnownOf 29 = .ok (.lxor, 1) := by decide +kernel
theorem dX1_isKnownOf_30 : decode cX1_isKnownOf 30 = .ok (.land, 1) := by decide +kernel
theorem dX1_isKnownOf_31 : decode cX1_isKnownOf 31 = .ok (.aload_n 0, 1) := by decide +kernel
theorem dX1_isKnownOf_32 : decode cX1_isKnownOf 32 = .ok (.getfield 29, 3) := by decide +kernel
theorem dX1_isKnownOf_35 : decode cX1_isKnownOf 35 = .ok (.lcmp, 1) := by decide +kernel
theorem dX1_isKnownOf_36 : decode cX1_isKnownOf 36 = .ok (.ifCond .ne 59, 3) := by decide +kernel
theorem dX1_isKnownOf_39 : decode cX1_isKnownOf 39 = .ok (.aload_n 0, 1) := by decide +kernel
theorem dX1_isKnownOf_40 : decode cX1_isKnownOf 40 = .ok (.getfield 36, 3) := by decide +kernel
theorem dX1_isKnownOf_43 : decode cX1_isKnownOf 43 = .ok (.aload_n 1, 1) := by decide +kernel
theorem dX1_isKnownOf_44 : decode cX1_isKnownOf 44 = .ok (.getfield 36, 3) := by decide +kernel
theorem dX1_isKnownOf_47 : decode cX1_isKnownOf 47 = .ok (.invokestatic 48, 3) := by decide +kernel
theorem dX1_isKnownOf_50 : decode cX1_isKnownOf 50 = .ok (.ifCond .ne 45, 3) := by decide +kernel
theorem dX1_isKnownOf_53 : decode cX1_isKnownOf 53 = .ok (.aload_n 1, 1) := by decide +kernel
theorem dX1_isKnownOf_54 : decode cX1_isKnownOf 54 = .ok (.getfield 39, 3) := by decide +kernel
theorem dX1_isKnownOf_57 : decode cX1_isKnownOf 57 = .ok (.aload_n 0, 1) := by decide +kernel
theorem dX1_isKnownOf_58 : decode cX1_isKnownOf 58 = .ok (.getfield 39, 3) := by decide +kernel
theorem dX1_isKnownOf_61 : decode cX1_isKnownOf 61 = .ok (.invokestatic 48, 3) := by decide +kernel
theorem dX1_isKnownOf_64 : decode cX1_isKnownOf 64 = .ok (.ifCond .ne 31, 3) := by decide +kernel
theorem dX1_isKnownOf_67 : decode cX1_isKnownOf 67 = .ok (.aload_n 0, 1) := by decide +kernel
theorem dX1_isKnownOf_68 : decode cX1_isKnownOf 68 = .ok (.getfield 42, 3) := by decide +kernel
theorem dX1_isKnownOf_71 : decode cX1_isKnownOf 71 = .ok (.aload_n 1, 1) := by decide +kernel
theorem dX1_isKnownOf_72 : decode cX1_isKnownOf 72 = .ok (.getfield 42, 3) := by decide +kernel
theorem dX1_isKnownOf_75 : decode cX1_isKnownOf 75 = .ok (.lcmp, 1) := by decide +kernel
theorem dX1_isKnownOf_76 : decode cX1_isKnownOf 76 = .ok (.ifCond .gt 19, 3) := by decide +kernel
theorem dX1_isKnownOf_79 : decode cX1_isKnownOf 79 = .ok (.aload_n 1, 1) := by decide +kernel
theorem dX1_isKnownOf_80 : decode cX1_isKnownOf 80 = .ok (.getfield 45, 3) := by decide +kernel
theorem dX1_isKnownOf_83 : decode cX1_isKnownOf 83 = .ok (.aload_n 0, 1) := by decide +kernel
theorem dX1_isKnownOf_84 : decode cX1_isKnownOf 84 = .ok (.getfield 45, 3) := by decide +kernel
theorem dX1_isKnownOf_87 : decode cX1_isKnownOf 87 = .ok (.lcmp, 1) := by decide +kernel
theorem dX1_isKnownOf_88 : decode cX1_isKnownOf 88 = .ok (.ifCond .gt 7, 3) := by decide +kernel
theorem dX1_isKnownOf_91 : decode cX1_isKnownOf 91 = .ok (.iconst 1, 1) := by decide +kernel
theorem dX1_isKnownOf_92 : decode cX1_isKnownOf 92 = .ok (.goto 4, 3) := by decide +kernel
theorem dX1_isKnownOf_95 : decode cX1_isKnownOf 95 = .ok (.iconst 0, 1) := by decide +kernel
theorem dX1_isKnownOf_96 : decode cX1_isKnownOf 96 = .ok (.ireturn, 1) := by decide +kernel
theorem dX1_raiseLeast_0 : decode cX1_raiseLeast 0 = .ok (.lload_n 1, 1) := by decide +kernel
theorem dX1_raiseLeast_1 : decode cX1_raiseLeast 1 = .ok (.aload_n 0, 1) := by decide +kernel
theorem dX1_raiseLeast_2 : decode cX1_raiseLeast 2 = .ok (.getfield 36, 3) := by decide +kernel
theorem dX1_raiseLeast_5 : decode cX1_raiseLeast 5 = .ok (.invokestatic 48, 3) := by decide +kernel
theorem dX1_raiseLeast_8 : decode cX1_raiseLeast 8 = .ok (.ifCond .eq 8, 3) := by decide +kernel
theorem dX1_raiseLeast_11 : decode cX1_raiseLeast 11 = .ok (.aload_n 0, 1) := by decide +kernel
theorem dX1_raiseLeast_12 : decode cX1_raiseLeast 12 = .ok (.lload_n 1, 1) := by decide +kernel
theorem dX1_raiseLeast_13 : decode cX1_raiseLeast 13 = .ok (.putfield 36, 3) := by decide +kernel
theorem dX1_raiseLeast_16 : decode cX1_raiseLeast 16 = .ok (.return_, 1) := by decide +kernel
theorem dX1_lowerGreatest_0 : decode cX1_lowerGreatest 0 = .ok (.aload_n 0, 1) := by decide +kernel
theorem dX1_lowerGreatest_1 : decode cX1_lowerGreatest 1 = .ok (.getfield 39, 3) := by decide +kernel
theorem dX1_lowerGreatest_4 : decode cX1_lowerGreatest 4 = .ok (.lload_n 1, 1) := by decide +kernel
theorem dX1_lowerGreatest_5 : decode cX1_lowerGreatest 5 = .ok (.invokestatic 48, 3) := by decide +kernel
theorem dX1_lowerGreatest_8 : decode cX1_lowerGreatest 8 = .ok (.ifCond .eq 8, 3) := by decide +kernel
theorem dX1_lowerGreatest_11 : decode cX1_lowerGreatest 11 = .ok (.aload_n 0, 1) := by decide +kernel
theorem dX1_lowerGreatest_12 : decode cX1_lowerGreatest 12 = .ok (.lload_n 1, 1) := by decide +kernel
theorem dX1_lowerGreatest_13 : decode cX1_lowerGreatest 13 = .ok (.putfield 39, 3) := by decide +kernel
theorem dX1_lowerGreatest_16 : decode cX1_lowerGreatest 16 = .ok (.return_, 1) := by decide +kernel
theorem dX1_raiseSignedLeast_0 : decode cX1_raiseSignedLeast 0 = .ok (.aload_n 0, 1) := by decide +kernel
theorem dX1_raiseSignedLeast_1 : decode cX1_raiseSignedLeast 1 = .ok (.aload_n 0, 1) := by decide +kernel
theorem dX1_raiseSignedLeast_2 : decode cX1_raiseSignedLeast 2 = .ok (.getfield 42, 3) := by decide +kernel
theorem dX1_raiseSignedLeast_5 : decode cX1_raiseSignedLeast 5 = .ok (.lload_n 1, 1) := by decide +kernel
theorem dX1_raiseSignedLeast_6 : decode cX1_raiseSignedLeast 6 = .ok (.invokestatic 52, 3) := by decide +kernel
theorem dX1_raiseSignedLeast_9 : decode cX1_raiseSignedLeast 9 = .ok (.putfield 42, 3) := by decide +kernel
theorem dX1_raiseSignedLeast_12 : decode cX1_raiseSignedLeast 12 = .ok (.return_, 1) := by decide +kernel
theorem dX1_lowerSignedGreatest_0 : decode cX1_lowerSignedGreatest 0 = .ok (.aload_n 0, 1) := by decide +kernel
theorem dX1_lowerSignedGreatest_1 : decode cX1_lowerSignedGreatest 1 = .ok (.aload_n 0, 1) := by decide +kernel
theorem dX1_lowerSignedGreatest_2 : decode cX1_lowerSignedGreatest 2 = .ok (.getfield 45, 3) := by decide +kernel
theorem dX1_lowerSignedGreatest_5 : decode cX1_lowerSignedGreatest 5 = .ok (.lload_n 1, 1) := by decide +kernel
theorem dX1_lowerSignedGreatest_6 : decode cX1_lowerSignedGreatest 6 = .ok (.invokestatic 58, 3) := by decide +kernel
theorem dX1_lowerSignedGreatest_9 : decode cX1_lowerSignedGreatest 9 = .ok (.putfield 45, 3) := by decide +kernel
theorem dX1_lowerSignedGreatest_12 : decode cX1_lowerSignedGreatest 12 = .ok (.return_, 1) := by decide +kernel
theorem dX1_learnOnes_0 : decode cX1_learnOnes 0 = .ok (.aload_n 0, 1) := by decide +kernel
theorem dX1_learnOnes_1 : decode cX1_learnOnes 1 = .ok (.aload_n 0, 1) := by decide +kernel
theorem dX1_learnOnes_2 : decode cX1_learnOnes 2 = .ok (.getfield 29, 3) := by decide +kernel
theorem dX1_learnOnes_5 : decode cX1_learnOnes 5 = .ok (.lload_n 1, 1) := by decide +kernel
theorem dX1_learnOnes_6 : decode cX1_learnOnes 6 = .ok (.lor, 1) := by decide +kernel
theorem dX1_learnOnes_7 : decode cX1_learnOnes 7 = .ok (.aload_n 0, 1) := by decide +kernel
theorem dX1_learnOnes_8 : decode cX1_learnOnes 8 = .ok (.getfield 33, 3) := by decide +kernel
theorem dX1_learnOnes_11 : decode cX1_learnOnes 11 = .ok (.lload_n 1, 1) := by decide +kernel
theorem dX1_learnOnes_12 : decode cX1_learnOnes 12 = .ok (.ldc2_w 21, 3) := by decide +kernel
theorem dX1_learnOnes_15 : decode cX1_learnOnes 15 = .ok (.lxor, 1) := by decide +kernel
theorem dX1_learnOnes_16 : decode cX1_learnOnes 16 = .ok (.land, 1) := by decide +kernel
theorem dX1_learnOnes_17 : decode cX1_learnOnes 17 = .ok (.invokevirtual 9, 3) := by decide +kernel
theorem dX1_learnOnes_20 : decode cX1_learnOnes 20 = .ok (.return_, 1) := by decide +kernel
theorem dX1_learnZeros_0 : decode cX1_learnZeros 0 = .ok (.aload_n 0, 1) := by decide +kernel
theorem dX1_learnZeros_1 : decode cX1_learnZeros 1 = .ok (.aload_n 0, 1) := by decide +kernel
theorem dX1_learnZeros_2 : decode cX1_learnZeros 2 = .ok (.getfield 29, 3) := by decide +kernel
theorem dX1_learnZeros_5 : decode cX1_learnZeros 5 = .ok (.lload_n 1, 1) := by decide +kernel
theorem dX1_learnZeros_6 : decode cX1_learnZeros 6 = .ok (.ldc2_w 21, 3) := by decide +kernel
theorem dX1_learnZeros_9 : decode cX1_learnZeros 9 = .ok (.lxor, 1) := by decide +kernel
theorem dX1_learnZeros_10 : decode cX1_learnZeros 10 = .ok (.land, 1) := by decide +kernel
theorem dX1_learnZeros_11 : decode cX1_learnZeros 11 = .ok (.aload_n 0, 1) := by decide +kernel
theorem dX1_learnZeros_12 : decode cX1_learnZeros 12 = .ok (.getfield 33, 3) := by decide +kernel
theorem dX1_learnZeros_15 : decode cX1_learnZeros 15 = .ok (.lload_n 1, 1) := by decide +kernel
theorem dX1_learnZeros_16 : decode cX1_learnZeros 16 = .ok (.ldc2_w 21, 3) := by decide +kernel
theorem dX1_learnZeros_19 : decode cX1_learnZeros 19 = .ok (.lxor, 1) := by decide +kernel
theorem dX1_learnZeros_20 : decode cX1_learnZeros 20 = .ok (.land, 1) := by decide +kernel
theorem dX1_learnZeros_21 : decode cX1_learnZeros 21 = .ok (.invokevirtual 9, 3) := by decide +kernel
theorem dX1_learnZeros_24 : decode cX1_learnZeros 24 = .ok (.return_, 1) := by decide +kernel
set_option maxHeartbeats 4000000 in
set_option maxRecDepth 100000 in
theorem c_X1_init (l : Launch) (D : va_G) (h0 : Nat) (n0 : Nm) : sp_M l yX1_init wsX1_init ({ frames := 1, cells := 0, slots := 0, locals := 12 }) D [.ref h0] ([(h0, .inr (1, nm_fs n0))]) [] (sp_Qv D ([(h0, .inr (1, nm_fs n0))]) ([(h0, .inr (1, nm_fs n0))]) []) := by
  refine sp_ofW (cc := cX1_init) (nL := 1) (ret := none) (own := RX1) (by decide) rfl rfl (Nat.le_of_ble_eq_true rfl) ?_
  intro p e s m below meth c A ls hAe hnm C hA hP hK hD hS hl
  have hx := C.1
  have hb := C.2.1
  have hown := C.2.2.2.2.1
  have hts := C.2.2.2.2.2.1
  have hl : lv_has ls 1 [(0, .ref h0)] := hl
  have hk0 := hts _ (List.mem_cons_of_mem _ wm_18)
  have hk1 := hts _ (List.mem_cons_of_mem _ wm_19)
  have hk2 := hts _ (List.mem_cons_of_mem _ wm_20)
  refine lv_aload_n hx hb dX1_init_0 rfl (lv_at hl 0 rfl) ?_
  refine W.objInit hx hb hown hk0 hk1 hk2 rfl (by rw [C.2.2.2.1]; exact hl.1) rfl dX1_init_1 (Nat.le_of_ble_eq_true rfl) (Nat.le_of_ble_eq_true rfl) ?_
  refine W.eq (g2 := F0 m 4 ls []) rfl ?_
  exact sp_vret C hAe hP hK hD hS dX1_init_4
def f_X1_setBits (n0 : Nm) (p1 : Int64) (p2 : Int64) : Nm :=
  (p1, p2, n0.2.2.1, n0.2.2.2.1, n0.2.2.2.2.1, n0.2.2.2.2.2)
set_option maxHeartbeats 4000000 in
set_option maxRecDepth 100000 in
theorem c_X1_setBits (l : Launch) (D : va_G) (h0 : Nat) (n0 : Nm) (p1 : Int64) (p2 : Int64) : sp_M l yX1_setBits wsX1_setBits ({ frames := 0, cells := 0, slots := 0, locals := 0 }) D [.ref h0, .long p1, .long p2] ([(h0, .inr (1, nm_fs n0))]) [] (sp_Qv D ([(h0, .inr (1, nm_fs n0))]) ([(h0, .inr (1, nm_fs (f_X1_setBits n0 p1 p2)))]) []) := by
  refine sp_ofW (cc := cX1_setBits) (nL := 5) (ret := none) (own := RX1) (by decide) rfl rfl (Nat.le_of_ble_eq_true rfl) ?_
  intro p e s m below meth c A ls hAe hnm C hA hP hK hD hS hl
  have hx := C.1
  have hb := C.2.1
  have hown := C.2.2.2.2.1
  have hts := C.2.2.2.2.2.1
  have hl : lv_has ls 5 [(0, .ref h0), (1, .long p1), (3, .long p2)] := hl
  have hi1 : ∀ w ∈ u_ws RX1 TX1 6, w ∈ wsX1_setBits := fun w h => List.mem_cons_of_mem _ (inX1 w h)
  have hk0 := hts _ (List.mem_cons_of_mem _ wm_21)
  have hk1 := hts _ (List.mem_cons_of_mem _ wm_22)
  refine lv_aload_n hx hb dX1_setBits_0 rfl (lv_at hl 0 rfl) ?_
  refine lv_lload_n hx hb dX1_setBits_1 rfl (lv_at hl 1 rfl) ?_
  refine va_put (D := D) (ci := 1) (v := .long p1) (ty := .long) (C := RX1) (T := TX1) (N := 6) hx hb hts hi1 tyX1 tyX1_ok nmX1 hown hK hP hD hS 0 rfl rfl 0 (by decide) hk0 (fun _ h9 => h9) rfl (by decide +kernel) rfl rfl (Nat.le_of_ble_eq_true rfl) dX1_setBits_2 (fun H locs hP hD hS => ?_)
  have hP : va_P D vwCl ([(h0, .inr (1, nm_fs (p1, n0.2.1, n0.2.2.1, n0.2.2.2.1, n0.2.2.2.2.1, n0.2.2.2.2.2)))]) H := hP
  have hD : va_D A ([(h0, .inr (1, nm_fs (p1, n0.2.1, n0.2.2.1, n0.2.2.2.1, n0.2.2.2.2.1, n0.2.2.2.2.2)))]) := hD
  refine lv_aload_n hx hb dX1_setBits_5 rfl (lv_at hl 0 rfl) ?_
  refine lv_lload_n hx hb dX1_setBits_6 rfl (lv_at hl 2 rfl) ?_
  refine va_put (D := D) (ci := 1) (v := .long p2) (ty := .long) (C := RX1) (T := TX1) (N := 6) hx hb hts hi1 tyX1 tyX1_ok nmX1 hown hK hP hD hS 0 rfl rfl 1 (by decide) hk1 (fun _ h9 => h9) rfl (by decide +kernel) rfl rfl (Nat.le_of_ble_eq_true rfl) dX1_setBits_7 (fun H locs hP hD hS => ?_)
  have hP : va_P D vwCl ([(h0, .inr (1, nm_fs (p1, p2, n0.2.2.1, n0.2.2.2.1, n0.2.2.2.2.1, n0.2.2.2.2.2)))]) H := hP
  have hD : va_D A ([(h0, .inr (1, nm_fs (p1, p2, n0.2.2.1, n0.2.2.2.1, n0.2.2.2.2.1, n0.2.2.2.2.2)))]) := hD
  have e9 : f_X1_setBits n0 p1 p2 = (p1, p2, n0.2.2.1, n0.2.2.2.1, n0.2.2.2.2.1, n0.2.2.2.2.2) := rfl
  rw [e9]
  exact sp_vret C hAe hP hK hD hS dX1_setBits_10
def f_X1_setUnsigned (n0 : Nm) (p1 : Int64) (p2 : Int64) : Nm :=
  (n0.1, n0.2.1, p1, p2, n0.2.2.2.2.1, n0.2.2.2.2.2)
set_option maxHeartbeats 4000000 in
set_option maxRecDepth 100000 in
theorem c_X1_setUnsigned (l : Launch) (D : va_G) (h0 : Nat) (n0 : Nm) (p1 : Int64) (p2 : Int64) : sp_M l yX1_setUnsigned wsX1_setUnsigned ({ frames := 0, cells := 0, slots := 0, locals := 0 }) D [.ref h0, .long p1, .long p2] ([(h0, .inr (1, nm_fs n0))]) [] (sp_Qv D ([(h0, .inr (1, nm_fs n0))]) ([(h0, .inr (1, nm_fs (f_X1_setUnsigned n0 p1 p2)))]) []) := by
  refine sp_ofW (cc := cX1_setUnsigned) (nL := 5) (ret := none) (own := RX1) (by decide) rfl rfl (Nat.le_of_ble_eq_true rfl) ?_
  intro p e s m below meth c A ls hAe hnm C hA hP hK hD hS hl
  have hx := C.1
  have hb := C.2.1
  have hown := C.2.2.2.2.1
  have hts := C.2.2.2.2.2.1
  have hl : lv_has ls 5 [(0, .ref h0), (1, .long p1), (3, .long p2)] := hl
  have hi1 : ∀ w ∈ u_ws RX1 TX1 6, w ∈ wsX1_setUnsigned := fun w h => List.mem_cons_of_mem _ (inX1 w h)
  have hk0 := hts _ (List.mem_cons_of_mem _ wm_23)
  have hk1 := hts _ (List.mem_cons_of_mem _ wm_24)
  refine lv_aload_n hx hb dX1_setUnsigned_0 rfl (lv_at hl 0 rfl) ?_
  refine lv_lload_n hx hb dX1_setUnsigned_1 rfl (lv_at hl 1 rfl) ?_
  refine va_put (D := D) (ci := 1) (v := .long p1) (ty := .long) (C := RX1) (T := TX1) (N := 6) hx hb hts hi1 tyX1 tyX1_ok nmX1 hown hK hP hD hS 0 rfl rfl 2 (by decide) hk0 (fun _ h9 => h9) rfl (by decide +kernel) rfl rfl (Nat.le_of_ble_eq_true rfl) dX1_setUnsigned_2 (fun H locs hP hD hS => ?_)
  have hP : va_P D vwCl ([(h0, .inr (1, nm_fs (n0.1, n0.2.1, p1, n0.2.2.2.1, n0.2.2.2.2.1, n0.2.2.2.2.2)))]) H := hP
  have hD : va_D A ([(h0, .inr (1, nm_fs (n0.1, n0.2.1, p1, n0.2.2.2.1, n0.2.2.2.2.1, n0.2.2.2.2.2)))]) := hD
  refine lv_aload_n hx hb dX1_setUnsigned_5 rfl (lv_at hl 0 rfl) ?_
  refine lv_lload_n hx hb dX1_setUnsigned_6 rfl (lv_at hl 2 rfl) ?_
  refine va_put (D := D) (ci := 1) (v := .long p2) (ty := .long) (C := RX1) (T := TX1) (N := 6) hx hb hts hi1 tyX1 tyX1_ok nmX1 hown hK hP hD hS 0 rfl rfl 3 (by decide) hk1 (fun _ h9 => h9) rfl (by decide +kernel) rfl rfl (Nat.le_of_ble_eq_true rfl) dX1_setUnsigned_7 (fun H locs hP hD hS => ?_)
  have hP : va_P D vwCl ([(h0, .inr (1, nm_fs (n0.1, n0.2.1, p1, p2, n0.2.2.2.2.1, n0.2.2.2.2.2)))]) H := hP
  have hD : va_D A ([(h0, .inr (1, nm_fs (n0.1, n0.2.1, p1, p2, n0.2.2.2.2.1, n0.2.2.2.2.2)))]) := hD
  have e9 : f_X1_setUnsigned n0 p1 p2 = (n0.1, n0.2.1, p1, p2, n0.2.2.2.2.1, n0.2.2.2.2.2) := rfl
  rw [e9]
  exact sp_vret C hAe hP hK hD hS dX1_setUnsigned_10
def f_X1_setSigned (n0 : Nm) (p1 : Int64) (p2 : Int64) : Nm :=
  (n0.1, n0.2.1, n0.2.2.1, n0.2.2.2.1, p1, p2)
set_option maxHeartbeats 4000000 in
set_option maxRecDepth 100000 in
theorem c_X1_setSigned (l : Launch) (D : va_G) (h0 : Nat) (n0 : Nm) (p1 : Int64) (p2 : Int64) : sp_M l yX1_setSigned wsX1_setSigned ({ frames := 0, cells := 0, slots := 0, locals := 0 }) D [.ref h0, .long p1, .long p2] ([(h0, .inr (1, nm_fs n0))]) [] (sp_Qv D ([(h0, .inr (1, nm_fs n0))]) ([(h0, .inr (1, nm_fs (f_X1_setSigned n0 p1 p2)))]) []) := by
  refine sp_ofW (cc := cX1_setSigned) (nL := 5) (ret := none) (own := RX1) (by decide) rfl rfl (Nat.le_of_ble_eq_true rfl) ?_
  intro p e s m below meth c A ls hAe hnm C hA hP hK hD hS hl
  have hx := C.1
  have hb := C.2.1
  have hown := C.2.2.2.2.1
  have hts := C.2.2.2.2.2.1
  have hl : lv_has ls 5 [(0, .ref h0), (1, .long p1), (3, .long p2)] := hl
  have hi1 : ∀ w ∈ u_ws RX1 TX1 6, w ∈ wsX1_setSigned := fun w h => List.mem_cons_of_mem _ (inX1 w h)
  have hk0 := hts _ (List.mem_cons_of_mem _ wm_25)
  have hk1 := hts _ (List.mem_cons_of_mem _ wm_26)
  refine lv_aload_n hx hb dX1_setSigned_0 rfl (lv_at hl 0 rfl) ?_
  refine lv_lload_n hx hb dX1_setSigned_1 rfl (lv_at hl 1 rfl) ?_
  refine va_put (D := D) (ci := 1) (v := .long p1) (ty := .long) (C := RX1) (T := TX1) (N := 6) hx hb hts hi1 tyX1 tyX1_ok nmX1 hown hK hP hD hS 0 rfl rfl 4 (by decide) hk0 (fun _ h9 => h9) rfl (by decide +kernel) rfl rfl (Nat.le_of_ble_eq_true rfl) dX1_setSigned_2 (fun H locs hP hD hS => ?_)
  have hP : va_P D vwCl ([(h0, .inr (1, nm_fs (n0.1, n0.2.1, n0.2.2.1, n0.2.2.2.1, p1, n0.2.2.2.2.2)))]) H := hP
  have hD : va_D A ([(h0, .inr (1, nm_fs (n0.1, n0.2.1, n0.2.2.1, n0.2.2.2.1, p1, n0.2.2.2.2.2)))]) := hD
  refine lv_aload_n hx hb dX1_setSigned_5 rfl (lv_at hl 0 rfl) ?_
  refine lv_lload_n hx hb dX1_setSigned_6 rfl (lv_at hl 2 rfl) ?_
  refine va_put (D := D) (ci := 1) (v := .long p2) (ty := .long) (C := RX1) (T := TX1) (N := 6) hx hb hts hi1 tyX1 tyX1_ok nmX1 hown hK hP hD hS 0 rfl rfl 5 (by decide) hk1 (fun _ h9 => h9) rfl (by decide +kernel) rfl rfl (Nat.le_of_ble_eq_true rfl) dX1_setSigned_7 (fun H locs hP hD hS => ?_)
  have hP : va_P D vwCl ([(h0, .inr (1, nm_fs (n0.1, n0.2.1, n0.2.2.1, n0.2.2.2.1, p1, p2)))]) H := hP
  have hD : va_D A ([(h0, .inr (1, nm_fs (n0.1, n0.2.1, n0.2.2.1, n0.2.2.2.1, p1, p2)))]) := hD
  have e9 : f_X1_setSigned n0 p1 p2 = (n0.1, n0.2.1, n0.2.2.1, n0.2.2.2.1, p1, p2) := rfl
  rw [e9]
  exact sp_vret C hAe hP hK hD hS dX1_setSigned_10
def f_X1_becomeExact (n0 : Nm) (p1 : Int64) : Nm :=
  (f_X1_setSigned (f_X1_setUnsigned (f_X1_setBits n0 p1 0) p1 p1) p1 p1)
set_option maxHeartbeats 4000000 in
set_option maxRecDepth 100000 in
theorem c_X1_becomeExact (l : Launch) (D : va_G) (h0 : Nat) (n0 : Nm) (p1 : Int64) : sp_M l yX1_becomeExact wsX1_becomeExact ({ frames := 1, cells := 0, slots := 0, locals := 24 }) D [.ref h0, .long p1] ([(h0, .inr (1, nm_fs n0))]) [] (sp_Qv D ([(h0, .inr (1, nm_fs n0))]) ([(h0, .inr (1, nm_fs (f_X1_becomeExact n0 p1)))]) []) := by
  refine sp_ofW (cc := cX1_becomeExact) (nL := 3) (ret := none) (own := RX1) (by decide) rfl rfl (Nat.le_of_ble_eq_true rfl) ?_
  intro p e s m below meth c A ls hAe hnm C hA hP hK hD hS hl
  have hx := C.1
  have hb := C.2.1
  have hown := C.2.2.2.2.1
  have hts := C.2.2.2.2.2.1
  have hl : lv_has ls 3 [(0, .ref h0), (1, .long p1)] := hl
  refine lv_aload_n hx hb dX1_becomeExact_0 rfl (lv_at hl 0 rfl) ?_
  refine lv_lload_n hx hb dX1_becomeExact_1 rfl (lv_at hl 1 rfl) ?_
  refine lv_lconst (v := 0) hx hb dX1_becomeExact_2 (by decide) ?_
  refine sp_callv (sp_runV (As := [.long p1, .long 0]) (rest := []) C (c_X1_setBits l D h0 n0 p1 0) (cwV 2 hts (gV wG_c wm_28 wm_29 wm_30 wm_31 wm_27) rfl rfl rfl (by decide +kernel) ⟨Nat.le_of_ble_eq_true rfl, Nat.le_of_ble_eq_true rfl⟩) hK hP hD [0] (by decide) rfl [] rfl 0 1 rfl rfl rfl rfl hl.1 rfl (Nat.le_of_ble_eq_true rfl) dX1_becomeExact_3 ⟨Nat.le_of_ble_eq_true rfl, Nat.le_of_ble_eq_true rfl⟩) hP hD hS hA [0] rfl (sp_fc sp_f0) (fun H locs hP hD hS => ?_)
  have hP : va_P D vwCl ([(h0, .inr (1, nm_fs (f_X1_setBits n0 p1 0)))]) H := hP
  have hD : va_D A ([(h0, .inr (1, nm_fs (f_X1_setBits n0 p1 0)))]) := hD
  refine lv_aload_n hx hb dX1_becomeExact_6 rfl (lv_at hl 0 rfl) ?_
  refine lv_lload_n hx hb dX1_becomeExact_7 rfl (lv_at hl 1 rfl) ?_
  refine lv_lload_n hx hb dX1_becomeExact_8 rfl (lv_at hl 1 rfl) ?_
  refine sp_callv (sp_runV (As := [.long p1, .long p1]) (rest := []) C (c_X1_setUnsigned l D h0 (f_X1_setBits n0 p1 0) p1 p1) (cwV 2 hts (gV wG_c wm_33 wm_34 wm_35 wm_31 wm_32) rfl rfl rfl (by decide +kernel) ⟨Nat.le_of_ble_eq_true rfl, Nat.le_of_ble_eq_true rfl⟩) hK hP hD [0] (by decide) rfl [] rfl 0 1 rfl rfl rfl rfl hl.1 rfl (Nat.le_of_ble_eq_true rfl) dX1_becomeExact_9 ⟨Nat.le_of_ble_eq_true rfl, Nat.le_of_ble_eq_true rfl⟩) hP hD hS hA [0] rfl (sp_fc sp_f0) (fun H locs hP hD hS => ?_)
  have hP : va_P D vwCl ([(h0, .inr (1, nm_fs (f_X1_setUnsigned (f_X1_setBits n0 p1 0) p1 p1)))]) H := hP
  have hD : va_D A ([(h0, .inr (1, nm_fs (f_X1_setUnsigned (f_X1_setBits n0 p1 0) p1 p1)))]) := hD
  refine lv_aload_n hx hb dX1_becomeExact_12 rfl (lv_at hl 0 rfl) ?_
  refine lv_lload_n hx hb dX1_becomeExact_13 rfl (lv_at hl 1 rfl) ?_
  refine lv_lload_n hx hb dX1_becomeExact_14 rfl (lv_at hl 1 rfl) ?_
  refine sp_callv (sp_runV (As := [.long p1, .long p1]) (rest := []) C (c_X1_setSigned l D h0 (f_X1_setUnsigned (f_X1_setBits n0 p1 0) p1 p1) p1 p1) (cwV 2 hts (gV wG_c wm_37 wm_38 wm_39 wm_31 wm_36) rfl rfl rfl (by decide +kernel) ⟨Nat.le_of_ble_eq_true rfl, Nat.le_of_ble_eq_true rfl⟩) hK hP hD [0] (by decide) rfl [] rfl 0 1 rfl rfl rfl rfl hl.1 rfl (Nat.le_of_ble_eq_true rfl) dX1_becomeExact_15 ⟨Nat.le_of_ble_eq_true rfl, Nat.le_of_ble_eq_true rfl⟩) hP hD hS hA [0] rfl (sp_fc sp_f0) (fun H locs hP hD hS => ?_)
  have hP : va_P D vwCl ([(h0, .inr (1, nm_fs (f_X1_setSigned (f_X1_setUnsigned (f_X1_setBits n0 p1 0) p1 p1) p1 p1)))]) H := hP
  have hD : va_D A ([(h0, .inr (1, nm_fs (f_X1_setSigned (f_X1_setUnsigned (f_X1_setBits n0 p1 0) p1 p1) p1 p1)))]) := hD
  have e9 : f_X1_becomeExact n0 p1 = (f_X1_setSigned (f_X1_setUnsigned (f_X1_setBits n0 p1 0) p1 p1) p1 p1) := rfl
  rw [e9]
  exact sp_vret C hAe hP hK hD hS dX1_becomeExact_18
def f_X1_becomeAny (n0 : Nm) : Nm :=
  (f_X1_setSigned (f_X1_setUnsigned (f_X1_setBits n0 0 (-1)) 0 (-1)) (-9223372036854775808) 9223372036854775807)
set_option maxHeartbeats 4000000 in
set_option maxRecDepth 100000 in
theorem c_X1_becomeAny (l : Launch) (D : va_G) (h0 : Nat) (n0 : Nm) : sp_M l yX1_becomeAny wsX1_becomeAny ({ frames := 1, cells := 0, slots := 0, locals := 24 }) D [.ref h0] ([(h0, .inr (1, nm_fs n0))]) [] (sp_Qv D ([(h0, .inr (1, nm_fs n0))]) ([(h0, .inr (1, nm_fs (f_X1_becomeAny n0)))]) []) := by
  refine sp_ofW (cc := cX1_becomeAny) (nL := 1) (ret := none) (own := RX1) (by decide) rfl rfl (Nat.le_of_ble_eq_true rfl) ?_
  intro p e s m below meth c A ls hAe hnm C hA hP hK hD hS hl
  have hx := C.1
  have hb := C.2.1
  have hown := C.2.2.2.2.1
  have hts := C.2.2.2.2.2.1
  have hl : lv_has ls 1 [(0, .ref h0)] := hl
  have hk0 := hts _ (List.mem_cons_of_mem _ wm_40)
  have hk1 := hts _ (List.mem_cons_of_mem _ wm_41)
  have hk2 := hts _ (List.mem_cons_of_mem _ wm_42)
  refine lv_aload_n hx hb dX1_becomeAny_0 rfl (lv_at hl 0 rfl) ?_
  refine lv_lconst (v := 0) hx hb dX1_becomeAny_1 (by decide) ?_
  refine lv_ldc2 (v := (-1)) hx hb hown hk0 dX1_becomeAny_2 ?_
  refine sp_callv (sp_runV (As := [.long 0, .long (-1)]) (rest := []) C (c_X1_setBits l D h0 n0 0 (-1)) (cwV 2 hts (gV wG_c wm_28 wm_29 wm_30 wm_31 wm_27) rfl rfl rfl (by decide +kernel) ⟨Nat.le_of_ble_eq_true rfl, Nat.le_of_ble_eq_true rfl⟩) hK hP hD [0] (by decide) rfl [] rfl 0 1 rfl rfl rfl rfl hl.1 rfl (Nat.le_of_ble_eq_true rfl) dX1_becomeAny_5 ⟨Nat.le_of_ble_eq_true rfl, Nat.le_of_ble_eq_true rfl⟩) hP hD hS hA [0] rfl (sp_fc sp_f0) (fun H locs hP hD hS => ?_)
  have hP : va_P D vwCl ([(h0, .inr (1, nm_fs (f_X1_setBits n0 0 (-1))))]) H := hP
  have hD : va_D A ([(h0, .inr (1, nm_fs (f_X1_setBits n0 0 (-1))))]) := hD
  refine lv_aload_n hx hb dX1_becomeAny_8 rfl (lv_at hl 0 rfl) ?_
  refine lv_lconst (v := 0) hx hb dX1_becomeAny_9 (by decide) ?_
  refine lv_ldc2 (v := (-1)) hx hb hown hk0 dX1_becomeAny_10 ?_
  refine sp_callv (sp_runV (As := [.long 0, .long (-1)]) (rest := []) C (c_X1_setUnsigned l D h0 (f_X1_setBits n0 0 (-1)) 0 (-1)) (cwV 2 hts (gV wG_c wm_33 wm_34 wm_35 wm_31 wm_32) rfl rfl rfl (by decide +kernel) ⟨Nat.le_of_ble_eq_true rfl, Nat.le_of_ble_eq_true rfl⟩) hK hP hD [0] (by decide) rfl [] rfl 0 1 rfl rfl rfl rfl hl.1 rfl (Nat.le_of_ble_eq_true rfl) dX1_becomeAny_13 ⟨Nat.le_of_ble_eq_true rfl, Nat.le_of_ble_eq_true rfl⟩) hP hD hS hA [0] rfl (sp_fc sp_f0) (fun H locs hP hD hS => ?_)
  have hP : va_P D vwCl ([(h0, .inr (1, nm_fs (f_X1_setUnsigned (f_X1_setBits n0 0 (-1)) 0 (-1))))]) H := hP
  have hD : va_D A ([(h0, .inr (1, nm_fs (f_X1_setUnsigned (f_X1_setBits n0 0 (-1)) 0 (-1))))]) := hD
  refine lv_aload_n hx hb dX1_becomeAny_16 rfl (lv_at hl 0 rfl) ?_
  refine lv_ldc2 (v := (-9223372036854775808)) hx hb hown hk1 dX1_becomeAny_17 ?_
  refine lv_ldc2 (v := 9223372036854775807) hx hb hown hk2 dX1_becomeAny_20 ?_
  refine sp_callv (sp_runV (As := [.long (-9223372036854775808), .long 9223372036854775807]) (rest := []) C (c_X1_setSigned l D h0 (f_X1_setUnsigned (f_X1_setBits n0 0 (-1)) 0 (-1)) (-9223372036854775808) 9223372036854775807) (cwV 2 hts (gV wG_c wm_37 wm_38 wm_39 wm_31 wm_36) rfl rfl rfl (by decide +kernel) ⟨Nat.le_of_ble_eq_true rfl, Nat.le_of_ble_eq_true rfl⟩) hK hP hD [0] (by decide) rfl [] rfl 0 1 rfl rfl rfl rfl hl.1 rfl (Nat.le_of_ble_eq_true rfl) dX1_becomeAny_23 ⟨Nat.le_of_ble_eq_true rfl, Nat.le_of_ble_eq_true rfl⟩) hP hD hS hA [0] rfl (sp_fc sp_f0) (fun H locs hP hD hS => ?_)
  have hP : va_P D vwCl ([(h0, .inr (1, nm_fs (f_X1_setSigned (f_X1_setUnsigned (f_X1_setBits n0 0 (-1)) 0 (-1)) (-9223372036854775808) 9223372036854775807)))]) H := hP
  have hD : va_D A ([(h0, .inr (1, nm_fs (f_X1_setSigned (f_X1_setUnsigned (f_X1_setBits n0 0 (-1)) 0 (-1)) (-9223372036854775808) 9223372036854775807)))]) := hD
  have e9 : f_X1_becomeAny n0 = (f_X1_setSigned (f_X1_setUnsigned (f_X1_setBits n0 0 (-1)) 0 (-1)) (-9223372036854775808) 9223372036854775807) := rfl
  rw [e9]
  exact sp_vret C hAe hP hK hD hS dX1_becomeAny_26
def f_X1_become (n0 : Nm) (n1 : Nm) : Nm :=
  (f_X1_setSigned (f_X1_setUnsigned (f_X1_setBits n0 n1.1 n1.2.1) n1.2.2.1 n1.2.2.2.1) n1.2.2.2.2.1 n1.2.2.2.2.2)
set_option maxHeartbeats 4000000 in
set_option maxRecDepth 100000 in
theorem c_X1_become (l : Launch) (D : va_G) (h0 : Nat) (h1 : Nat) (n0 : Nm) (n1 : Nm) : sp_M l yX1_become wsX1_become ({ frames := 1, cells := 0, slots := 0, locals := 24 }) D [.ref h0, .ref h1] ([(h0, .inr (1, nm_fs n0)), (h1, .inr (1, nm_fs n1))]) [] (sp_Qv D ([(h0, .inr (1, nm_fs n0)), (h1, .inr (1, nm_fs n1))]) ([(h0, .inr (1, nm_fs (f_X1_become n0 n1))), (h1, .inr (1, nm_fs n1))]) []) := by
  refine sp_ofW (cc := cX1_become) (nL := 2) (ret := none) (own := RX1) (by decide) rfl rfl (Nat.le_of_ble_eq_true rfl) ?_
  intro p e s m below meth c A ls hAe hnm C hA hP hK hD hS hl
  have hx := C.1
  have hb := C.2.1
  have hown := C.2.2.2.2.1
  have hts := C.2.2.2.2.2.1
  have hl : lv_has ls 2 [(0, .ref h0), (1, .ref h1)] := hl
  have hi1 : ∀ w ∈ u_ws RX1 TX1 6, w ∈ wsX1_become := fun w h => List.mem_cons_of_mem _ (inX1 w h)
  have hk0 := hts _ (List.mem_cons_of_mem _ wm_21)
  have hk1 := hts _ (List.mem_cons_of_mem _ wm_22)
  have hk2 := hts _ (List.mem_cons_of_mem _ wm_23)
  have hk3 := hts _ (List.mem_cons_of_mem _ wm_24)
  have hk4 := hts _ (List.mem_cons_of_mem _ wm_25)
  have hk5 := hts _ (List.mem_cons_of_mem _ wm_26)
  refine lv_aload_n hx hb dX1_become_0 rfl (lv_at hl 0 rfl) ?_
  refine lv_aload_n hx hb dX1_become_1 rfl (lv_at hl 1 rfl) ?_
  refine va_get (D := D) (ci := 1) (v := .long n1.1) (C := RX1) (T := TX1) (N := 6) hx hb hts hi1 hown hK hP 1 rfl rfl 0 (by decide) hk0 (fun _ h9 => h9) rfl dX1_become_2 ?_
  refine lv_aload_n hx hb dX1_become_5 rfl (lv_at hl 1 rfl) ?_
  refine va_get (D := D) (ci := 1) (v := .long n1.2.1) (C := RX1) (T := TX1) (N := 6) hx hb hts hi1 hown hK hP 1 rfl rfl 1 (by decide) hk1 (fun _ h9 => h9) rfl dX1_become_6 ?_
  refine sp_callv (sp_runV (As := [.long n1.1, .long n1.2.1]) (rest := []) C (c_X1_setBits l D h0 n0 n1.1 n1.2.1) (cwV 2 hts (gV wG_c wm_28 wm_29 wm_30 wm_31 wm_27) rfl rfl rfl (by decide +kernel) ⟨Nat.le_of_ble_eq_true rfl, Nat.le_of_ble_eq_true rfl⟩) hK hP hD [0] (by decide) rfl [] rfl 0 1 rfl rfl rfl rfl hl.1 rfl (Nat.le_of_ble_eq_true rfl) dX1_become_9 ⟨Nat.le_of_ble_eq_true rfl, Nat.le_of_ble_eq_true rfl⟩) hP hD hS hA [0] rfl (sp_fc sp_f0) (fun H locs hP hD hS => ?_)
  have hP : va_P D vwCl ([(h0, .inr (1, nm_fs (f_X1_setBits n0 n1.1 n1.2.1))), (h1, .inr (1, nm_fs n1))]) H := hP
  have hD : va_D A ([(h0, .inr (1, nm_fs (f_X1_setBits n0 n1.1 n1.2.1))), (h1, .inr (1, nm_fs n1))]) := hD
  refine lv_aload_n hx hb dX1_become_12 rfl (lv_at hl 0 rfl) ?_
  refine lv_aload_n hx hb dX1_become_13 rfl (lv_at hl 1 rfl) ?_
  refine va_get (D := D) (ci := 1) (v := .long n1.2.2.1) (C := RX1) (T := TX1) (N := 6) hx hb hts hi1 hown hK hP 1 rfl rfl 2 (by decide) hk2 (fun _ h9 => h9) rfl dX1_become_14 ?_
  refine lv_aload_n hx hb dX1_become_17 rfl (lv_at hl 1 rfl) ?_
  refine va_get (D := D) (ci := 1) (v := .long n1.2.2.2.1) (C := RX1) (T := TX1) (N := 6) hx hb hts hi1 hown hK hP 1 rfl rfl 3 (by decide) hk3 (fun _ h9 => h9) rfl dX1_become_18 ?_
  refine sp_callv (sp_runV (As := [.long n1.2.2.1, .long n1.2.2.2.1]) (rest := []) C (c_X1_setUnsigned l D h0 (f_X1_setBits n0 n1.1 n1.2.1) n1.2.2.1 n1.2.2.2.1) (cwV 2 hts (gV wG_c wm_33 wm_34 wm_35 wm_31 wm_32) rfl rfl rfl (by decide +kernel) ⟨Nat.le_of_ble_eq_true rfl, Nat.le_of_ble_eq_true rfl⟩) hK hP hD [0] (by decide) rfl [] rfl 0 1 rfl rfl rfl rfl hl.1 rfl (Nat.le_of_ble_eq_true rfl) dX1_become_21 ⟨Nat.le_of_ble_eq_true rfl, Nat.le_of_ble_eq_true rfl⟩) hP hD hS hA [0] rfl (sp_fc sp_f0) (fun H locs hP hD hS => ?_)
  have hP : va_P D vwCl ([(h0, .inr (1, nm_fs (f_X1_setUnsigned (f_X1_setBits n0 n1.1 n1.2.1) n1.2.2.1 n1.2.2.2.1))), (h1, .inr (1, nm_fs n1))]) H := hP
  have hD : va_D A ([(h0, .inr (1, nm_fs (f_X1_setUnsigned (f_X1_setBits n0 n1.1 n1.2.1) n1.2.2.1 n1.2.2.2.1))), (h1, .inr (1, nm_fs n1))]) := hD
  refine lv_aload_n hx hb dX1_become_24 rfl (lv_at hl 0 rfl) ?_
  refine lv_aload_n hx hb dX1_become_25 rfl (lv_at hl 1 rfl) ?_
  refine va_get (D := D) (ci := 1) (v := .long n1.2.2.2.2.1) (C := RX1) (T := TX1) (N := 6) hx hb hts hi1 hown hK hP 1 rfl rfl 4 (by decide) hk4 (fun _ h9 => h9) rfl dX1_become_26 ?_
  refine lv_aload_n hx hb dX1_become_29 rfl (lv_at hl 1 rfl) ?_
  refine va_get (D := D) (ci := 1) (v := .long n1.2.2.2.2.2) (C := RX1) (T := TX1) (N := 6) hx hb hts hi1 hown hK hP 1 rfl rfl 5 (by decide) hk5 (fun _ h9 => h9) rfl dX1_become_30 ?_
  refine sp_callv (sp_runV (As := [.long n1.2.2.2.2.1, .long n1.2.2.2.2.2]) (rest := []) C (c_X1_setSigned l D h0 (f_X1_setUnsigned (f_X1_setBits n0 n1.1 n1.2.1) n1.2.2.1 n1.2.2.2.1) n1.2.2.2.2.1 n1.2.2.2.2.2) (cwV 2 hts (gV wG_c wm_37 wm_38 wm_39 wm_31 wm_36) rfl rfl rfl (by decide +kernel) ⟨Nat.le_of_ble_eq_true rfl, Nat.le_of_ble_eq_true rfl⟩) hK hP hD [0] (by decide) rfl [] rfl 0 1 rfl rfl rfl rfl hl.1 rfl (Nat.le_of_ble_eq_true rfl) dX1_become_33 ⟨Nat.le_of_ble_eq_true rfl, Nat.le_of_ble_eq_true rfl⟩) hP hD hS hA [0] rfl (sp_fc sp_f0) (fun H locs hP hD hS => ?_)
  have hP : va_P D vwCl ([(h0, .inr (1, nm_fs (f_X1_setSigned (f_X1_setUnsigned (f_X1_setBits n0 n1.1 n1.2.1) n1.2.2.1 n1.2.2.2.1) n1.2.2.2.2.1 n1.2.2.2.2.2))), (h1, .inr (1, nm_fs n1))]) H := hP
  have hD : va_D A ([(h0, .inr (1, nm_fs (f_X1_setSigned (f_X1_setUnsigned (f_X1_setBits n0 n1.1 n1.2.1) n1.2.2.1 n1.2.2.2.1) n1.2.2.2.2.1 n1.2.2.2.2.2))), (h1, .inr (1, nm_fs n1))]) := hD
  have e9 : f_X1_become n0 n1 = (f_X1_setSigned (f_X1_setUnsigned (f_X1_setBits n0 n1.1 n1.2.1) n1.2.2.1 n1.2.2.2.1) n1.2.2.2.2.1 n1.2.2.2.2.2) := rfl
  rw [e9]
  exact sp_vret C hAe hP hK hD hS dX1_become_36
def f_X1_isExact (n0 : Nm) : Int32 :=
  if (lg_cmp n0.2.1 0) = 0 then 1
  else 0
set_option maxHeartbeats 4000000 in
set_option maxRecDepth 100000 in
theorem c_X1_isExact (l : Launch) (D : va_G) (h0 : Nat) (n0 : Nm) : sp_M l yX1_isExact wsX1_isExact ({ frames := 0, cells := 0, slots := 0, locals := 0 }) D [.ref h0] ([(h0, .inr (1, nm_fs n0))]) [] (sp_Qz D ([(h0, .inr (1, nm_fs n0))]) ([(h0, .inr (1, nm_fs n0))]) [] (f_X1_isExact n0)) := by
  refine sp_ofW (cc := cX1_isExact) (nL := 1) (ret := (some .boolean)) (own := RX1) (by decide) rfl rfl (Nat.le_of_ble_eq_true rfl) ?_
  intro p e s m below meth c A ls hAe hnm C hA hP hK hD hS hl
  have hx := C.1
  have hb := C.2.1
  have hown := C.2.2.2.2.1
  have hts := C.2.2.2.2.2.1
  have hl : lv_has ls 1 [(0, .ref h0)] := hl
  have hi1 : ∀ w ∈ u_ws RX1 TX1 6, w ∈ wsX1_isExact := fun w h => List.mem_cons_of_mem _ (inX1 w h)
  have hk0 := hts _ (List.mem_cons_of_mem _ wm_22)
  refine lv_aload_n hx hb dX1_isExact_0 rfl (lv_at hl 0 rfl) ?_
  refine va_get (D := D) (ci := 1) (v := .long n0.2.1) (C := RX1) (T := TX1) (N := 6) hx hb hts hi1 hown hK hP 0 rfl rfl 1 (by decide) hk0 (fun _ h9 => h9) rfl dX1_isExact_1 ?_
  refine lv_lconst (v := 0) hx hb dX1_isExact_4 (by decide) ?_
  refine W.lcmp hx hb dX1_isExact_5 ?_
  refine lv_if_ne (tgt := 13) hx hb dX1_isExact_6 (by decide) (fun c1 => ?_) (fun c1 => ?_)
  · refine lv_iconst (v := 0) hx hb dX1_isExact_13 (by decide) ?_
    have e9 : f_X1_isExact n0 = 0 := (if_neg c1).trans (rfl)
    rw [e9]
    exact sp_zret C hAe hP hK hD hS (Or.inl rfl) dX1_isExact_14
  · refine lv_iconst (v := 1) hx hb dX1_isExact_9 (by decide) ?_
    refine lv_goto (tgt := 14) hx hb dX1_isExact_10 (by decide) ?_
    have e9 : f_X1_isExact n0 = 1 := (if_pos c1).trans (rfl)
    rw [e9]
    exact sp_zret C hAe hP hK hD hS (Or.inr rfl) dX1_isExact_14
def f_X1_isExactly (n0 : Nm) (p1 : Int64) : Int32 :=
  if (lg_cmp n0.2.1 0) = 0 then (if (lg_cmp n0.1 p1) = 0 then 1
    else 0)
  else 0
set_option maxHeartbeats 4000000 in
set_option maxRecDepth 100000 in
theorem c_X1_isExactly (l : Launch) (D : va_G) (h0 : Nat) (n0 : Nm) (p1 : Int64) : sp_M l yX1_isExactly wsX1_isExactly ({ frames := 0, cells := 0, slots := 0, locals := 0 }) D [.ref h0, .long p1] ([(h0, .inr (1, nm_fs n0))]) [] (sp_Qz D ([(h0, .inr (1, nm_fs n0))]) ([(h0, .inr (1, nm_fs n0))]) [] (f_X1_isExactly n0 p1)) := by
  refine sp_ofW (cc := cX1_isExactly) (nL := 3) (ret := (some .boolean)) (own := RX1) (by decide) rfl rfl (Nat.le_of_ble_eq_true rfl) ?_
  intro p e s m below meth c A ls hAe hnm C hA hP hK hD hS hl
  have hx := C.1
  have hb := C.2.1
  have hown := C.2.2.2.2.1
  have hts := C.2.2.2.2.2.1
  have hl : lv_has ls 3 [(0, .ref h0), (1, .long p1)] := hl
  have hi1 : ∀ w ∈ u_ws RX1 TX1 6, w ∈ wsX1_isExactly := fun w h => List.mem_cons_of_mem _ (inX1 w h)
  have hk0 := hts _ (List.mem_cons_of_mem _ wm_22)
  have hk1 := hts _ (List.mem_cons_of_mem _ wm_21)
  refine lv_aload_n hx hb dX1_isExactly_0 rfl (lv_at hl 0 rfl) ?_
  refine va_get (D := D) (ci := 1) (v := .long n0.2.1) (C := RX1) (T := TX1) (N := 6) hx hb hts hi1 hown hK hP 0 rfl rfl 1 (by decide) hk0 (fun _ h9 => h9) rfl dX1_isExactly_1 ?_
  refine lv_lconst (v := 0) hx hb dX1_isExactly_4 (by decide) ?_
  refine W.lcmp hx hb dX1_isExactly_5 ?_
  refine lv_if_ne (tgt := 22) hx hb dX1_isExactly_6 (by decide) (fun c1 => ?_) (fun c1 => ?_)
  · refine lv_iconst (v := 0) hx hb dX1_isExactly_22 (by decide) ?_
    have e9 : f_X1_isExactly n0 p1 = 0 := (if_neg c1).trans (rfl)
    rw [e9]
    exact sp_zret C hAe hP hK hD hS (Or.inl rfl) dX1_isExactly_23
  · refine lv_aload_n hx hb dX1_isExactly_9 rfl (lv_at hl 0 rfl) ?_
    refine va_get (D := D) (ci := 1) (v := .long n0.1) (C := RX1) (T := TX1) (N := 6) hx hb hts hi1 hown hK hP 0 rfl rfl 0 (by decide) hk1 (fun _ h9 => h9) rfl dX1_isExactly_10 ?_
    refine lv_lload_n hx hb dX1_isExactly_13 rfl (lv_at hl 1 rfl) ?_
    refine W.lcmp hx hb dX1_isExactly_14 ?_
    refine lv_if_ne (tgt := 22) hx hb dX1_isExactly_15 (by decide) (fun c2 => ?_) (fun c2 => ?_)
    · refine lv_iconst (v := 0) hx hb dX1_isExactly_22 (by decide) ?_
      have e9 : f_X1_isExactly n0 p1 = 0 := (if_pos c1).trans ((if_neg c2).trans (rfl))
      rw [e9]
      exact sp_zret C hAe hP hK hD hS (Or.inl rfl) dX1_isExactly_23
    · refine lv_iconst (v := 1) hx hb dX1_isExactly_18 (by decide) ?_
      refine lv_goto (tgt := 23) hx hb dX1_isExactly_19 (by decide) ?_
      have e9 : f_X1_isExactly n0 p1 = 1 := (if_pos c1).trans ((if_pos c2).trans (rfl))
      rw [e9]
      exact sp_zret C hAe hP hK hD hS (Or.inr rfl) dX1_isExactly_23
def f_X1_mayBeOne (n0 : Nm) : Int64 :=
  n0.1 ||| n0.2.1
set_option maxHeartbeats 4000000 in
set_option maxRecDepth 100000 in
theorem c_X1_mayBeOne (l : Launch) (D : va_G) (h0 : Nat) (n0 : Nm) : sp_M l yX1_mayBeOne wsX1_mayBeOne ({ frames := 0, cells := 0, slots := 0, locals := 0 }) D [.ref h0] ([(h0, .inr (1, nm_fs n0))]) [] (sp_Ql D ([(h0, .inr (1, nm_fs n0))]) ([(h0, .inr (1, nm_fs n0))]) [] (f_X1_mayBeOne n0)) := by
  refine sp_ofW (cc := cX1_mayBeOne) (nL := 1) (ret := (some .long)) (own := RX1) (by decide) rfl rfl (Nat.le_of_ble_eq_true rfl) ?_
  intro p e s m below meth c A ls hAe hnm C hA hP hK hD hS hl
  have hx := C.1
  have hb := C.2.1
  have hown := C.2.2.2.2.1
  have hts := C.2.2.2.2.2.1
  have hl : lv_has ls 1 [(0, .ref h0)] := hl
  have hi1 : ∀ w ∈ u_ws RX1 TX1 6, w ∈ wsX1_mayBeOne := fun w h => List.mem_cons_of_mem _ (inX1 w h)
  have hk0 := hts _ (List.mem_cons_of_mem _ wm_21)
  have hk1 := hts _ (List.mem_cons_of_mem _ wm_22)
  refine lv_aload_n hx hb dX1_mayBeOne_0 rfl (lv_at hl 0 rfl) ?_
  refine va_get (D := D) (ci := 1) (v := .long n0.1) (C := RX1) (T := TX1) (N := 6) hx hb hts hi1 hown hK hP 0 rfl rfl 0 (by decide) hk0 (fun _ h9 => h9) rfl dX1_mayBeOne_1 ?_
  refine lv_aload_n hx hb dX1_mayBeOne_4 rfl (lv_at hl 0 rfl) ?_
  refine va_get (D := D) (ci := 1) (v := .long n0.2.1) (C := RX1) (T := TX1) (N := 6) hx hb hts hi1 hown hK hP 0 rfl rfl 1 (by decide) hk1 (fun _ h9 => h9) rfl dX1_mayBeOne_5 ?_
  refine lv_lor hx hb dX1_mayBeOne_8 ?_
  have e9 : f_X1_mayBeOne n0 = n0.1 ||| n0.2.1 := rfl
  rw [e9]
  exact sp_lret C hAe hP hK hD hS dX1_mayBeOne_9
def f_X1_standsFor (n0 : Nm) (p1 : Int64) : Int32 :=
  if (lg_cmp (p1 &&& (n0.2.1 ^^^ (-1))) n0.1) = 0 then (if (f_X0_isAbove n0.2.2.1 p1) = 0 then (if (f_X0_isAbove p1 n0.2.2.2.1) = 0 then (if 0 < (lg_cmp n0.2.2.2.2.1 p1) then 0
        else if 0 < (lg_cmp p1 n0.2.2.2.2.2) then 0
        else 1)
      else 0)
    else 0)
  else 0
set_option maxHeartbeats 4000000 in
set_option maxRecDepth 100000 in
theorem c_X1_standsFor (l : Launch) (D : va_G) (h0 : Nat) (n0 : Nm) (p1 : Int64) : sp_M l yX1_standsFor wsX1_standsFor ({ frames := 1, cells := 0, slots := 0, locals := 23 }) D [.ref h0, .long p1] ([(h0, .inr (1, nm_fs n0))]) [] (sp_Qz D ([(h0, .inr (1, nm_fs n0))]) ([(h0, .inr (1, nm_fs n0))]) [] (f_X1_standsFor n0 p1)) := by
  refine sp_ofW (cc := cX1_standsFor) (nL := 3) (ret := (some .boolean)) (own := RX1) (by decide) rfl rfl (Nat.le_of_ble_eq_true rfl) ?_
  intro p e s m below meth c A ls hAe hnm C hA hP hK hD hS hl
  have hx := C.1
  have hb := C.2.1
  have hown := C.2.2.2.2.1
  have hts := C.2.2.2.2.2.1
  have hl : lv_has ls 3 [(0, .ref h0), (1, .long p1)] := hl
  have hi1 : ∀ w ∈ u_ws RX1 TX1 6, w ∈ wsX1_standsFor := fun w h => List.mem_cons_of_mem _ (inX1 w h)
  have hk0 := hts _ (List.mem_cons_of_mem _ wm_22)
  have hk1 := hts _ (List.mem_cons_of_mem _ wm_40)
  have hk2 := hts _ (List.mem_cons_of_mem _ wm_21)
  have hk3 := hts _ (List.mem_cons_of_mem _ wm_23)
  have hk4 := hts _ (List.mem_cons_of_mem _ wm_4)
  have hk5 := hts _ (List.mem_cons_of_mem _ wm_3)
  have hk6 := hts _ (List.mem_cons_of_mem _ wm_24)
  have hk7 := hts _ (List.mem_cons_of_mem _ wm_25)
  have hk8 := hts _ (List.mem_cons_of_mem _ wm_26)
  refine lv_lload_n hx hb dX1_standsFor_0 rfl (lv_at hl 1 rfl) ?_
  refine lv_aload_n hx hb dX1_standsFor_1 rfl (lv_at hl 0 rfl) ?_
  refine va_get (D := D) (ci := 1) (v := .long n0.2.1) (C := RX1) (T := TX1) (N := 6) hx hb hts hi1 hown hK hP 0 rfl rfl 1 (by decide) hk0 (fun _ h9 => h9) rfl dX1_standsFor_2 ?_
  refine lv_ldc2 (v := (-1)) hx hb hown hk1 dX1_standsFor_5 ?_
  refine lv_lxor hx hb dX1_standsFor_8 ?_
  refine lv_land hx hb dX1_standsFor_9 ?_
  refine lv_aload_n hx hb dX1_standsFor_10 rfl (lv_at hl 0 rfl) ?_
  refine va_get (D := D) (ci := 1) (v := .long n0.1) (C := RX1) (T := TX1) (N := 6) hx hb hts hi1 hown hK hP 0 rfl rfl 0 (by decide) hk2 (fun _ h9 => h9) rfl dX1_standsFor_11 ?_
  refine W.lcmp hx hb dX1_standsFor_14 ?_
  refine lv_if_ne (tgt := 62) hx hb dX1_standsFor_15 (by decide) (fun c1 => ?_) (fun c1 => ?_)
  · refine lv_iconst (v := 0) hx hb dX1_standsFor_62 (by decide) ?_
    have e9 : f_X1_standsFor n0 p1 = 0 := (if_neg c1).trans (rfl)
    rw [e9]
    exact sp_zret C hAe hP hK hD hS (Or.inl rfl) dX1_standsFor_63
  · refine lv_aload_n hx hb dX1_standsFor_18 rfl (lv_at hl 0 rfl) ?_
    refine va_get (D := D) (ci := 1) (v := .long n0.2.2.1) (C := RX1) (T := TX1) (N := 6) hx hb hts hi1 hown hK hP 0 rfl rfl 2 (by decide) hk3 (fun _ h9 => h9) rfl dX1_standsFor_19 ?_
    refine lv_lload_n hx hb dX1_standsFor_22 rfl (lv_at hl 1 rfl) ?_
    refine sp_callz (sp_runSN (As := [.long n0.2.2.1, .long p1]) (rest := []) C (c_X0_isAbove l D n0.2.2.1 p1) ⟨va_cnB 2 hts (gG wG_c wm_1) rfl rfl rfl (C.2.2.2.2.2.2.2.1 (RX1, 48, yX0_isAbove, "RangeDesk") (List.mem_of_getElem? (i := 3) rfl)) hk4 (by decide +kernel) ⟨Nat.le_of_ble_eq_true rfl, Nat.le_of_ble_eq_true rfl⟩, hk5, trivial⟩ hK hP hD [] (by decide) rfl [] rfl rfl hl.1 rfl (Nat.le_of_ble_eq_true rfl) dX1_standsFor_23 ⟨Nat.le_of_ble_eq_true rfl, Nat.le_of_ble_eq_true rfl⟩) hP hD hS hA [] rfl sp_f0 (fun H locs z2 hP hD hS => ?_)
    have hP : va_P D vwCl ([(h0, .inr (1, nm_fs n0))]) H := hP
    have hD : va_D A ([(h0, .inr (1, nm_fs n0))]) := hD
    refine lv_if_ne (tgt := 62) hx hb dX1_standsFor_26 (by decide) (fun c3 => ?_) (fun c3 => ?_)
    · refine lv_iconst (v := 0) hx hb dX1_standsFor_62 (by decide) ?_
      have e9 : f_X1_standsFor n0 p1 = 0 := (if_pos c1).trans ((if_neg c3).trans (rfl))
      rw [e9]
      exact sp_zret C hAe hP hK hD hS (Or.inl rfl) dX1_standsFor_63
    · refine lv_lload_n hx hb dX1_standsFor_29 rfl (lv_at hl 1 rfl) ?_
      refine lv_aload_n hx hb dX1_standsFor_30 rfl (lv_at hl 0 rfl) ?_
      refine va_get (D := D) (ci := 1) (v := .long n0.2.2.2.1) (C := RX1) (T := TX1) (N := 6) hx hb hts hi1 hown hK hP 0 rfl rfl 3 (by decide) hk6 (fun _ h9 => h9) rfl dX1_standsFor_31 ?_
      refine sp_callz (sp_runSN (As := [.long p1, .long n0.2.2.2.1]) (rest := []) C (c_X0_isAbove l D p1 n0.2.2.2.1) ⟨va_cnB 2 hts (gG wG_c wm_1) rfl rfl rfl (C.2.2.2.2.2.2.2.1 (RX1, 48, yX0_isAbove, "RangeDesk") (List.mem_of_getElem? (i := 3) rfl)) hk4 (by decide +kernel) ⟨Nat.le_of_ble_eq_true rfl, Nat.le_of_ble_eq_true rfl⟩, hk5, trivial⟩ hK hP hD [] (by decide) rfl [] rfl rfl hl.1 rfl (Nat.le_of_ble_eq_true rfl) dX1_standsFor_34 ⟨Nat.le_of_ble_eq_true rfl, Nat.le_of_ble_eq_true rfl⟩) hP hD hS hA [] rfl sp_f0 (fun H locs z4 hP hD hS => ?_)
      have hP : va_P D vwCl ([(h0, .inr (1, nm_fs n0))]) H := hP
      have hD : va_D A ([(h0, .inr (1, nm_fs n0))]) := hD
      refine lv_if_ne (tgt := 62) hx hb dX1_standsFor_37 (by decide) (fun c5 => ?_) (fun c5 => ?_)
      · refine lv_iconst (v := 0) hx hb dX1_standsFor_62 (by decide) ?_
        have e9 : f_X1_standsFor n0 p1 = 0 := (if_pos c1).trans ((if_pos c3).trans ((if_neg c5).trans (rfl)))
        rw [e9]
        exact sp_zret C hAe hP hK hD hS (Or.inl rfl) dX1_standsFor_63
      · refine lv_aload_n hx hb dX1_standsFor_40 rfl (lv_at hl 0 rfl) ?_
        refine va_get (D := D) (ci := 1) (v := .long n0.2.2.2.2.1) (C := RX1) (T := TX1) (N := 6) hx hb hts hi1 hown hK hP 0 rfl rfl 4 (by decide) hk7 (fun _ h9 => h9) rfl dX1_standsFor_41 ?_
        refine lv_lload_n hx hb dX1_standsFor_44 rfl (lv_at hl 1 rfl) ?_
        refine W.lcmp hx hb dX1_standsFor_45 ?_
        refine lv_if_gt (tgt := 62) hx hb dX1_standsFor_46 (by decide) (fun c6 => ?_) (fun c6 => ?_)
        · refine lv_iconst (v := 0) hx hb dX1_standsFor_62 (by decide) ?_
          have e9 : f_X1_standsFor n0 p1 = 0 := (if_pos c1).trans ((if_pos c3).trans ((if_pos c5).trans ((if_pos c6).trans (rfl))))
          rw [e9]
          exact sp_zret C hAe hP hK hD hS (Or.inl rfl) dX1_standsFor_63
        · refine lv_lload_n hx hb dX1_standsFor_49 rfl (lv_at hl 1 rfl) ?_
          refine lv_aload_n hx hb dX1_standsFor_50 rfl (lv_at hl 0 rfl) ?_
          refine va_get (D := D) (ci := 1) (v := .long n0.2.2.2.2.2) (C := RX1) (T := TX1) (N := 6) hx hb hts hi1 hown hK hP 0 rfl rfl 5 (by decide) hk8 (fun _ h9 => h9) rfl dX1_standsFor_51 ?_
          refine W.lcmp hx hb dX1_standsFor_54 ?_
          refine lv_if_gt (tgt := 62) hx hb dX1_standsFor_55 (by decide) (fun c7 => ?_) (fun c7 => ?_)
          · refine lv_iconst (v := 0) hx hb dX1_standsFor_62 (by decide) ?_
            have e9 : f_X1_standsFor n0 p1 = 0 := (if_pos c1).trans ((if_pos c3).trans ((if_pos c5).trans ((if_neg c6).trans ((if_pos c7).trans (rfl)))))
            rw [e9]
            exact sp_zret C hAe hP hK hD hS (Or.inl rfl) dX1_standsFor_63
          · refine lv_iconst (v := 1) hx hb dX1_standsFor_58 (by decide) ?_
            refine lv_goto (tgt := 63) hx hb dX1_standsFor_59 (by decide) ?_
            have e9 : f_X1_standsFor n0 p1 = 1 := (if_pos c1).trans ((if_pos c3).trans ((if_pos c5).trans ((if_neg c6).trans ((if_neg c7).trans (rfl)))))
            rw [e9]
            exact sp_zret C hAe hP hK hD hS (Or.inr rfl) dX1_standsFor_63
def f_X1_isKnownOf (n0 : Nm) (n1 : Nm) : Int32 :=
  if (lg_cmp (n1.2.1 &&& (n0.2.1 ^^^ (-1))) 0) = 0 then (if (lg_cmp (n1.1 &&& (n0.2.1 ^^^ (-1))) n0.1) = 0 then (if (f_X0_isAbove n0.2.2.1 n1.2.2.1) = 0 then (if (f_X0_isAbove n1.2.2.2.1 n0.2.2.2.1) = 0 then (if 0 < (lg_cmp n0.2.2.2.2.1 n1.2.2.2.2.1) then 0
          else if 0 < (lg_cmp n1.2.2.2.2.2 n0.2.2.2.2.2) then 0
          else 1)
        else 0)
      else 0)
    else 0)
  else 0
set_option maxHeartbeats 4000000 in
set_option maxRecDepth 100000 in
theorem c_X1_isKnownOf (l : Launch) (D : va_G) (h0 : Nat) (h1 : Nat) (n0 : Nm) (n1 : Nm) : sp_M l yX1_isKnownOf wsX1_isKnownOf ({ frames := 1, cells := 0, slots := 0, locals := 23 }) D [.ref h0, .ref h1] ([(h0, .inr (1, nm_fs n0)), (h1, .inr (1, nm_fs n1))]) [] (sp_Qz D ([(h0, .inr (1, nm_fs n0)), (h1, .inr (1, nm_fs n1))]) ([(h0, .inr (1, nm_fs n0)), (h1, .inr (1, nm_fs n1))]) [] (f_X1_isKnownOf n0 n1)) := by
  refine sp_ofW (cc := cX1_isKnownOf) (nL := 2) (ret := (some .boolean)) (own := RX1) (by decide) rfl rfl (Nat.le_of_ble_eq_true rfl) ?_
  intro p e s m below meth c A ls hAe hnm C hA hP hK hD hS hl
  have hx := C.1
  have hb := C.2.1
  have hown := C.2.2.2.2.1
  have hts := C.2.2.2.2.2.1
  have hl : lv_has ls 2 [(0, .ref h0), (1, .ref h1)] := hl
  have hi1 : ∀ w ∈ u_ws RX1 TX1 6, w ∈ wsX1_isKnownOf := fun w h => List.mem_cons_of_mem _ (inX1 w h)
  have hk0 := hts _ (List.mem_cons_of_mem _ wm_22)
  have hk1 := hts _ (List.mem_cons_of_mem _ wm_40)
  have hk2 := hts _ (List.mem_cons_of_mem _ wm_21)
  have hk3 := hts _ (List.mem_cons_of_mem _ wm_23)
  have hk4 := hts _ (List.mem_cons_of_mem _ wm_4)
  have hk5 := hts _ (List.mem_cons_of_mem _ wm_3)
  have hk6 := hts _ (List.mem_cons_of_mem _ wm_24)
  have hk7 := hts _ (List.mem_cons_of_mem _ wm_25)
  have hk8 := hts _ (List.mem_cons_of_mem _ wm_26)
  refine lv_aload_n hx hb dX1_isKnownOf_0 rfl (lv_at hl 1 rfl) ?_
  refine va_get (D := D) (ci := 1) (v := .long n1.2.1) (C := RX1) (T := TX1) (N := 6) hx hb hts hi1 hown hK hP 1 rfl rfl 1 (by decide) hk0 (fun _ h9 => h9) rfl dX1_isKnownOf_1 ?_
  refine lv_aload_n hx hb dX1_isKnownOf_4 rfl (lv_at hl 0 rfl) ?_
  refine va_get (D := D) (ci := 1) (v := .long n0.2.1) (C := RX1) (T := TX1) (N := 6) hx hb hts hi1 hown hK hP 0 rfl rfl 1 (by decide) hk0 (fun _ h9 => h9) rfl dX1_isKnownOf_5 ?_
  refine lv_ldc2 (v := (-1)) hx hb hown hk1 dX1_isKnownOf_8 ?_
  refine lv_lxor hx hb dX1_isKnownOf_11 ?_
  refine lv_land hx hb dX1_isKnownOf_12 ?_
  refine lv_lconst (v := 0) hx hb dX1_isKnownOf_13 (by decide) ?_
  refine W.lcmp hx hb dX1_isKnownOf_14 ?_
  refine lv_if_ne (tgt := 95) hx hb dX1_isKnownOf_15 (by decide) (fun c1 => ?_) (fun c1 => ?_)
  · refine lv_iconst (v := 0) hx hb dX1_isKnownOf_95 (by decide) ?_
    have e9 : f_X1_isKnownOf n0 n1 = 0 := (if_neg c1).trans (rfl)
    rw [e9]
    exact sp_zret C hAe hP hK hD hS (Or.inl rfl) dX1_isKnownOf_96
  · refine lv_aload_n hx hb dX1_isKnownOf_18 rfl (lv_at hl 1 rfl) ?_
    refine va_get (D := D) (ci := 1) (v := .long n1.1) (C := RX1) (T := TX1) (N := 6) hx hb hts hi1 hown hK hP 1 rfl rfl 0 (by decide) hk2 (fun _ h9 => h9) rfl dX1_isKnownOf_19 ?_
    refine lv_aload_n hx hb dX1_isKnownOf_22 rfl (lv_at hl 0 rfl) ?_
    refine va_get (D := D) (ci := 1) (v := .long n0.2.1) (C := RX1) (T := TX1) (N := 6) hx hb hts hi1 hown hK hP 0 rfl rfl 1 (by decide) hk0 (fun _ h9 => h9) rfl dX1_isKnownOf_23 ?_
    refine lv_ldc2 (v := (-1)) hx hb hown hk1 dX1_isKnownOf_26 ?_
    refine lv_lxor hx hb dX1_isKnownOf_29 ?_
    refine lv_land hx hb dX1_isKnownOf_30 ?_
    refine lv_aload_n hx hb dX1_isKnownOf_31 rfl (lv_at hl 0 rfl) ?_
    refine va_get (D := D) (ci := 1) (v := .long n0.1) (C := RX1) (T := TX1) (N := 6) hx hb hts hi1 hown hK hP 0 rfl rfl 0 (by decide) hk2 (fun _ h9 => h9) rfl dX1_isKnownOf_32 ?_
    refine W.lcmp hx hb dX1_isKnownOf_35 ?_
    refine lv_if_ne (tgt := 95) hx hb dX1_isKnownOf_36 (by decide) (fun c2 => ?_) (fun c2 => ?_)
    · refine lv_iconst (v := 0) hx hb dX1_isKnownOf_95 (by decide) ?_
      have e9 : f_X1_isKnownOf n0 n1 = 0 := (if_pos c1).trans ((if_neg c2).trans (rfl))
      rw [e9]
      exact sp_zret C hAe hP hK hD hS (Or.inl rfl) dX1_isKnownOf_96
    · refine lv_aload_n hx hb dX1_isKnownOf_39 rfl (lv_at hl 0 rfl) ?_
      refine va_get (D := D) (ci := 1) (v := .long n0.2.2.1) (C := RX1) (T := TX1) (N := 6) hx hb hts hi1 hown hK hP 0 rfl rfl 2 (by decide) hk3 (fun _ h9 => h9) rfl dX1_isKnownOf_40 ?_
      refine lv_aload_n hx hb dX1_isKnownOf_43 rfl (lv_at hl 1 rfl) ?_
      refine va_get (D := D) (ci := 1) (v := .long n1.2.2.1) (C := RX1) (T := TX1) (N := 6) hx hb hts hi1 hown hK hP 1 rfl rfl 2 (by decide) hk3 (fun _ h9 => h9) rfl dX1_isKnownOf_44 ?_
      refine sp_callz (sp_runSN (As := [.long n0.2.2.1, .long n1.2.2.1]) (rest := []) C (c_X0_isAbove l D n0.2.2.1 n1.2.2.1) ⟨va_cnB 2 hts (gG wG_c wm_1) rfl rfl rfl (C.2.2.2.2.2.2.2.1 (RX1, 48, yX0_isAbove, "RangeDesk") (List.mem_of_getElem? (i := 3) rfl)) hk4 (by decide +kernel) ⟨Nat.le_of_ble_eq_true rfl, Nat.le_of_ble_eq_true rfl⟩, hk5, trivial⟩ hK hP hD [] (by decide) rfl [] rfl rfl hl.1 rfl (Nat.le_of_ble_eq_true rfl) dX1_isKnownOf_47 ⟨Nat.le_of_ble_eq_true rfl, Nat.le_of_ble_eq_true rfl⟩) hP hD hS hA [] rfl sp_f0 (fun H locs z3 hP hD hS => ?_)
      have hP : va_P D vwCl ([(h0, .inr (1, nm_fs n0)), (h1, .inr (1, nm_fs n1))]) H := hP
      have hD : va_D A ([(h0, .inr (1, nm_fs n0)), (h1, .inr (1, nm_fs n1))]) := hD
      refine lv_if_ne (tgt := 95) hx hb dX1_isKnownOf_50 (by decide) (fun c4 => ?_) (fun c4 => ?_)
      · refine lv_iconst (v := 0) hx hb dX1_isKnownOf_95 (by decide) ?_
        have e9 : f_X1_isKnownOf n0 n1 = 0 := (if_pos c1).trans ((if_pos c2).trans ((if_neg c4).trans (rfl)))
        rw [e9]
        exact sp_zret C hAe hP hK hD hS (Or.inl rfl) dX1_isKnownOf_96
      · refine lv_aload_n hx hb dX1_isKnownOf_53 rfl (lv_at hl 1 rfl) ?_
        refine va_get (D := D) (ci := 1) (v := .long n1.2.2.2.1) (C := RX1) (T := TX1) (N := 6) hx hb hts hi1 hown hK hP 1 rfl rfl 3 (by decide) hk6 (fun _ h9 => h9) rfl dX1_isKnownOf_54 ?_
        refine lv_aload_n hx hb dX1_isKnownOf_57 rfl (lv_at hl 0 rfl) ?_
        refine va_get (D := D) (ci := 1) (v := .long n0.2.2.2.1) (C := RX1) (T := TX1) (N := 6) hx hb hts hi1 hown hK hP 0 rfl rfl 3 (by decide) hk6 (fun _ h9 => h9) rfl dX1_isKnownOf_58 ?_
        refine sp_callz (sp_runSN (As := [.long n1.2.2.2.1, .long n0.2.2.2.1]) (rest := []) C (c_X0_isAbove l D n1.2.2.2.1 n0.2.2.2.1) ⟨va_cnB 2 hts (gG wG_c wm_1) rfl rfl rfl (C.2.2.2.2.2.2.2.1 (RX1, 48, yX0_isAbove, "RangeDesk") (List.mem_of_getElem? (i := 3) rfl)) hk4 (by decide +kernel) ⟨Nat.le_of_ble_eq_true rfl, Nat.le_of_ble_eq_true rfl⟩, hk5, trivial⟩ hK hP hD [] (by decide) rfl [] rfl rfl hl.1 rfl (Nat.le_of_ble_eq_true rfl) dX1_isKnownOf_61 ⟨Nat.le_of_ble_eq_true rfl, Nat.le_of_ble_eq_true rfl⟩) hP hD hS hA [] rfl sp_f0 (fun H locs z5 hP hD hS => ?_)
        have hP : va_P D vwCl ([(h0, .inr (1, nm_fs n0)), (h1, .inr (1, nm_fs n1))]) H := hP
        have hD : va_D A ([(h0, .inr (1, nm_fs n0)), (h1, .inr (1, nm_fs n1))]) := hD
        refine lv_if_ne (tgt := 95) hx hb dX1_isKnownOf_64 (by decide) (fun c6 => ?_) (fun c6 => ?_)
        · refine lv_iconst (v := 0) hx hb dX1_isKnownOf_95 (by decide) ?_
          have e9 : f_X1_isKnownOf n0 n1 = 0 := (if_pos c1).trans ((if_pos c2).trans ((if_pos c4).trans ((if_neg c6).trans (rfl))))
          rw [e9]
          exact sp_zret C hAe hP hK hD hS (Or.inl rfl) dX1_isKnownOf_96
        · refine lv_aload_n hx hb dX1_isKnownOf_67 rfl (lv_at hl 0 rfl) ?_
          refine va_get (D := D) (ci := 1) (v := .long n0.2.2.2.2.1) (C := RX1) (T := TX1) (N := 6) hx hb hts hi1 hown hK hP 0 rfl rfl 4 (by decide) hk7 (fun _ h9 => h9) rfl dX1_isKnownOf_68 ?_
          refine lv_aload_n hx hb dX1_isKnownOf_71 rfl (lv_at hl 1 rfl) ?_
          refine va_get (D := D) (ci := 1) (v := .long n1.2.2.2.2.1) (C := RX1) (T := TX1) (N := 6) hx hb hts hi1 hown hK hP 1 rfl rfl 4 (by decide) hk7 (fun _ h9 => h9) rfl dX1_isKnownOf_72 ?_
          refine W.lcmp hx hb dX1_isKnownOf_75 ?_
          refine lv_if_gt (tgt := 95) hx hb dX1_isKnownOf_76 (by decide) (fun c7 => ?_) (fun c7 => ?_)
          · refine lv_iconst (v := 0) hx hb dX1_isKnownOf_95 (by decide) ?_
            have e9 : f_X1_isKnownOf n0 n1 = 0 := (if_pos c1).trans ((if_pos c2).trans ((if_pos c4).trans ((if_pos c6).trans ((if_pos c7).trans (rfl)))))
            rw [e9]
            exact sp_zret C hAe hP hK hD hS (Or.inl rfl) dX1_isKnownOf_96
          · refine lv_aload_n hx hb dX1_isKnownOf_79 rfl (lv_at hl 1 rfl) ?_
            refine va_get (D := D) (ci := 1) (v := .long n1.2.2.2.2.2) (C := RX1) (T := TX1) (N := 6) hx hb hts hi1 hown hK hP 1 rfl rfl 5 (by decide) hk8 (fun _ h9 => h9) rfl dX1_isKnownOf_80 ?_
            refine lv_aload_n hx hb dX1_isKnownOf_83 rfl (lv_at hl 0 rfl) ?_
            refine va_get (D := D) (ci := 1) (v := .long n0.2.2.2.2.2) (C := RX1) (T := TX1) (N := 6) hx hb hts hi1 hown hK hP 0 rfl rfl 5 (by decide) hk8 (fun _ h9 => h9) rfl dX1_isKnownOf_84 ?_
            refine W.lcmp hx hb dX1_isKnownOf_87 ?_
            refine lv_if_gt (tgt := 95) hx hb dX1_isKnownOf_88 (by decide) (fun c8 => ?_) (fun c8 => ?_)
            · refine lv_iconst (v := 0) hx hb dX1_isKnownOf_95 (by decide) ?_
              have e9 : f_X1_isKnownOf n0 n1 = 0 := (if_pos c1).trans ((if_pos c2).trans ((if_pos c4).trans ((if_pos c6).trans ((if_neg c7).trans ((if_pos c8).trans (rfl))))))
              rw [e9]
              exact sp_zret C hAe hP hK hD hS (Or.inl rfl) dX1_isKnownOf_96
            · refine lv_iconst (v := 1) hx hb dX1_isKnownOf_91 (by decide) ?_
              refine lv_goto (tgt := 96) hx hb dX1_isKnownOf_92 (by decide) ?_
              have e9 : f_X1_isKnownOf n0 n1 = 1 := (if_pos c1).trans ((if_pos c2).trans ((if_pos c4).trans ((if_pos c6).trans ((if_neg c7).trans ((if_neg c8).trans (rfl))))))
              rw [e9]
              exact sp_zret C hAe hP hK hD hS (Or.inr rfl) dX1_isKnownOf_96
def f_X1_raiseLeast (n0 : Nm) (p1 : Int64) : Nm :=
  if (f_X0_isAbove p1 n0.2.2.1) = 0 then n0
  else (n0.1, n0.2.1, p1, n0.2.2.2.1, n0.2.2.2.2.1, n0.2.2.2.2.2)
set_option maxHeartbeats 4000000 in
set_option maxRecDepth 100000 in
theorem c_X1_raiseLeast (l : Launch) (D : va_G) (h0 : Nat) (n0 : Nm) (p1 : Int64) : sp_M l yX1_raiseLeast wsX1_raiseLeast ({ frames := 1, cells := 0, slots := 0, locals := 23 }) D [.ref h0, .long p1] ([(h0, .inr (1, nm_fs n0))]) [] (sp_Qv D ([(h0, .inr (1, nm_fs n0))]) ([(h0, .inr (1, nm_fs (f_X1_raiseLeast n0 p1)))]) []) := by
  refine sp_ofW (cc := cX1_raiseLeast) (nL := 3) (ret := none) (own := RX1) (by decide) rfl rfl (Nat.le_of_ble_eq_true rfl) ?_
  intro p e s m below meth c A ls hAe hnm C hA hP hK hD hS hl
  have hx := C.1
  have hb := C.2.1
  have hown := C.2.2.2.2.1
  have hts := C.2.2.2.2.2.1
  have hl : lv_has ls 3 [(0, .ref h0), (1, .long p1)] := hl
  have hi1 : ∀ w ∈ u_ws RX1 TX1 6, w ∈ wsX1_raiseLeast := fun w h => List.mem_cons_of_mem _ (inX1 w h)
  have hk0 := hts _ (List.mem_cons_of_mem _ wm_23)
  have hk1 := hts _ (List.mem_cons_of_mem _ wm_4)
  have hk2 := hts _ (List.mem_cons_of_mem _ wm_3)
  refine lv_lload_n hx hb dX1_raiseLeast_0 rfl (lv_at hl 1 rfl) ?_
  refine lv_aload_n hx hb dX1_raiseLeast_1 rfl (lv_at hl 0 rfl) ?_
  refine va_get (D := D) (ci := 1) (v := .long n0.2.2.1) (C := RX1) (T := TX1) (N := 6) hx hb hts hi1 hown hK hP 0 rfl rfl 2 (by decide) hk0 (fun _ h9 => h9) rfl dX1_raiseLeast_2 ?_
  refine sp_callz (sp_runSN (As := [.long p1, .long n0.2.2.1]) (rest := []) C (c_X0_isAbove l D p1 n0.2.2.1) ⟨va_cnB 2 hts (gG wG_c wm_1) rfl rfl rfl (C.2.2.2.2.2.2.2.1 (RX1, 48, yX0_isAbove, "RangeDesk") (List.mem_of_getElem? (i := 3) rfl)) hk1 (by decide +kernel) ⟨Nat.le_of_ble_eq_true rfl, Nat.le_of_ble_eq_true rfl⟩, hk2, trivial⟩ hK hP hD [] (by decide) rfl [] rfl rfl hl.1 rfl (Nat.le_of_ble_eq_true rfl) dX1_raiseLeast_5 ⟨Nat.le_of_ble_eq_true rfl, Nat.le_of_ble_eq_true rfl⟩) hP hD hS hA [] rfl sp_f0 (fun H locs z1 hP hD hS => ?_)
  have hP : va_P D vwCl ([(h0, .inr (1, nm_fs n0))]) H := hP
  have hD : va_D A ([(h0, .inr (1, nm_fs n0))]) := hD
  refine lv_if_eq (tgt := 16) hx hb dX1_raiseLeast_8 (by decide) (fun c2 => ?_) (fun c2 => ?_)
  · have e9 : f_X1_raiseLeast n0 p1 = n0 := (if_pos c2).trans (rfl)
    rw [e9]
    exact sp_vret C hAe hP hK hD hS dX1_raiseLeast_16
  · refine lv_aload_n hx hb dX1_raiseLeast_11 rfl (lv_at hl 0 rfl) ?_
    refine lv_lload_n hx hb dX1_raiseLeast_12 rfl (lv_at hl 1 rfl) ?_
    refine va_put (D := D) (ci := 1) (v := .long p1) (ty := .long) (C := RX1) (T := TX1) (N := 6) hx hb hts hi1 tyX1 tyX1_ok nmX1 hown hK hP hD hS 0 rfl rfl 2 (by decide) hk0 (fun _ h9 => h9) rfl (by decide +kernel) rfl rfl (Nat.le_of_ble_eq_true rfl) dX1_raiseLeast_13 (fun H locs hP hD hS => ?_)
    have hP : va_P D vwCl ([(h0, .inr (1, nm_fs (n0.1, n0.2.1, p1, n0.2.2.2.1, n0.2.2.2.2.1, n0.2.2.2.2.2)))]) H := hP
    have hD : va_D A ([(h0, .inr (1, nm_fs (n0.1, n0.2.1, p1, n0.2.2.2.1, n0.2.2.2.2.1, n0.2.2.2.2.2)))]) := hD
    have e9 : f_X1_raiseLeast n0 p1 = (n0.1, n0.2.1, p1, n0.2.2.2.1, n0.2.2.2.2.1, n0.2.2.2.2.2) := (if_neg c2).trans (rfl)
    rw [e9]
    exact sp_vret C hAe hP hK hD hS dX1_raiseLeast_16
def f_X1_lowerGreatest (n0 : Nm) (p1 : Int64) : Nm :=
  if (f_X0_isAbove n0.2.2.2.1 p1) = 0 then n0
  else (n0.1, n0.2.1, n0.2.2.1, p1, n0.2.2.2.2.1, n0.2.2.2.2.2)
set_option maxHeartbeats 4000000 in
set_option maxRecDepth 100000 in
theorem c_X1_lowerGreatest (l : Launch) (D : va_G) (h0 : Nat) (n0 : Nm) (p1 : Int64) : sp_M l yX1_lowerGreatest wsX1_lowerGreatest ({ frames := 1, cells := 0, slots := 0, locals := 23 }) D [.ref h0, .long p1] ([(h0, .inr (1, nm_fs n0))]) [] (sp_Qv D ([(h0, .inr (1, nm_fs n0))]) ([(h0, .inr (1, nm_fs (f_X1_lowerGreatest n0 p1)))]) []) := by
  refine sp_ofW (cc := cX1_lowerGreatest) (nL := 3) (ret := none) (own := RX1) (by decide) rfl rfl (Nat.le_of_ble_eq_true rfl) ?_
  intro p e s m below meth c A ls hAe hnm C hA hP hK hD hS hl
  have hx := C.1
  have hb := C.2.1
  have hown := C.2.2.2.2.1
  have hts := C.2.2.2.2.2.1
  have hl : lv_has ls 3 [(0, .ref h0), (1, .long p1)] := hl
  have hi1 : ∀ w ∈ u_ws RX1 TX1 6, w ∈ wsX1_lowerGreatest := fun w h => List.mem_cons_of_mem _ (inX1 w h)
  have hk0 := hts _ (List.mem_cons_of_mem _ wm_24)
  have hk1 := hts _ (List.mem_cons_of_mem _ wm_4)
  have hk2 := hts _ (List.mem_cons_of_mem _ wm_3)
  refine lv_aload_n hx hb dX1_lowerGreatest_0 rfl (lv_at hl 0 rfl) ?_
  refine va_get (D := D) (ci := 1) (v := .long n0.2.2.2.1) (C := RX1) (T := TX1) (N := 6) hx hb hts hi1 hown hK hP 0 rfl rfl 3 (by decide) hk0 (fun _ h9 => h9) rfl dX1_lowerGreatest_1 ?_
  refine lv_lload_n hx hb dX1_lowerGreatest_4 rfl (lv_at hl 1 rfl) ?_
  refine sp_callz (sp_runSN (As := [.long n0.2.2.2.1, .long p1]) (rest := []) C (c_X0_isAbove l D n0.2.2.2.1 p1) ⟨va_cnB 2 hts (gG wG_c wm_1) rfl rfl rfl (C.2.2.2.2.2.2.2.1 (RX1, 48, yX0_isAbove, "RangeDesk") (List.mem_of_getElem? (i := 3) rfl)) hk1 (by decide +kernel) ⟨Nat.le_of_ble_eq_true rfl, Nat.le_of_ble_eq_true rfl⟩, hk2, trivial⟩ hK hP hD [] (by decide) rfl [] rfl rfl hl.1 rfl (Nat.le_of_ble_eq_true rfl) dX1_lowerGreatest_5 ⟨Nat.le_of_ble_eq_true rfl, Nat.le_of_ble_eq_true rfl⟩) hP hD hS hA [] rfl sp_f0 (fun H locs z1 hP hD hS => ?_)
  have hP : va_P D vwCl ([(h0, .inr (1, nm_fs n0))]) H := hP
  have hD : va_D A ([(h0, .inr (1, nm_fs n0))]) := hD
  refine lv_if_eq (tgt := 16) hx hb dX1_lowerGreatest_8 (by decide) (fun c2 => ?_) (fun c2 => ?_)
  · have e9 : f_X1_lowerGreatest n0 p1 = n0 := (if_pos c2).trans (rfl)
    rw [e9]
    exact sp_vret C hAe hP hK hD hS dX1_lowerGreatest_16
  · refine lv_aload_n hx hb dX1_lowerGreatest_11 rfl (lv_at hl 0 rfl) ?_
    refine lv_lload_n hx hb dX1_lowerGreatest_12 rfl (lv_at hl 1 rfl) ?_
    refine va_put (D := D) (ci := 1) (v := .long p1) (ty := .long) (C := RX1) (T := TX1) (N := 6) hx hb hts hi1 tyX1 tyX1_ok nmX1 hown hK hP hD hS 0 rfl rfl 3 (by decide) hk0 (fun _ h9 => h9) rfl (by decide +kernel) rfl rfl (Nat.le_of_ble_eq_true rfl) dX1_lowerGreatest_13 (fun H locs hP hD hS => ?_)
    have hP : va_P D vwCl ([(h0, .inr (1, nm_fs (n0.1, n0.2.1, n0.2.2.1, p1, n0.2.2.2.2.1, n0.2.2.2.2.2)))]) H := hP
    have hD : va_D A ([(h0, .inr (1, nm_fs (n0.1, n0.2.1, n0.2.2.1, p1, n0.2.2.2.2.1, n0.2.2.2.2.2)))]) := hD
    have e9 : f_X1_lowerGreatest n0 p1 = (n0.1, n0.2.1, n0.2.2.1, p1, n0.2.2.2.2.1, n0.2.2.2.2.2) := (if_neg c2).trans (rfl)
    rw [e9]
    exact sp_vret C hAe hP hK hD hS dX1_lowerGreatest_16
def f_X1_raiseSignedLeast (n0 : Nm) (p1 : Int64) : Nm :=
  (n0.1, n0.2.1, n0.2.2.1, n0.2.2.2.1, (if p1 < n0.2.2.2.2.1 then n0.2.2.2.2.1 else p1), n0.2.2.2.2.2)
set_option maxHeartbeats 4000000 in
set_option maxRecDepth 100000 in
theorem c_X1_raiseSignedLeast (l : Launch) (D : va_G) (h0 : Nat) (n0 : Nm) (p1 : Int64) : sp_M l yX1_raiseSignedLeast wsX1_raiseSignedLeast ({ frames := 1, cells := 0, slots := 0, locals := 16 }) D [.ref h0, .long p1] ([(h0, .inr (1, nm_fs n0))]) [] (sp_Qv D ([(h0, .inr (1, nm_fs n0))]) ([(h0, .inr (1, nm_fs (f_X1_raiseSignedLeast n0 p1)))]) []) := by
  refine sp_ofW (cc := cX1_raiseSignedLeast) (nL := 3) (ret := none) (own := RX1) (by decide) rfl rfl (Nat.le_of_ble_eq_true rfl) ?_
  intro p e s m below meth c A ls hAe hnm C hA hP hK hD hS hl
  have hx := C.1
  have hb := C.2.1
  have hown := C.2.2.2.2.1
  have hts := C.2.2.2.2.2.1
  have hl : lv_has ls 3 [(0, .ref h0), (1, .long p1)] := hl
  have hi1 : ∀ w ∈ u_ws RX1 TX1 6, w ∈ wsX1_raiseSignedLeast := fun w h => List.mem_cons_of_mem _ (inX1 w h)
  have hk0 := hts _ (List.mem_cons_of_mem _ wm_25)
  have hk1 := hts _ (List.mem_cons_of_mem _ wm_43)
  have hk2 := hts _ (List.mem_cons_of_mem _ wm_44)
  have hk3 := hts _ (List.mem_cons_of_mem _ wm_45)
  have hk4 := hts _ (List.mem_cons_of_mem _ wm_46)
  refine lv_aload_n hx hb dX1_raiseSignedLeast_0 rfl (lv_at hl 0 rfl) ?_
  refine lv_aload_n hx hb dX1_raiseSignedLeast_1 rfl (lv_at hl 0 rfl) ?_
  refine va_get (D := D) (ci := 1) (v := .long n0.2.2.2.2.1) (C := RX1) (T := TX1) (N := 6) hx hb hts hi1 hown hK hP 0 rfl rfl 4 (by decide) hk0 (fun _ h9 => h9) rfl dX1_raiseSignedLeast_2 ?_
  refine lv_lload_n hx hb dX1_raiseSignedLeast_5 rfl (lv_at hl 1 rfl) ?_
  refine va_mmax_long hx hb (by rw [C.2.2.2.1]; exact hl.1.symm) hown hk1 hk2 hk3 hk4 (Nat.le_of_ble_eq_true rfl) (Nat.le_of_ble_eq_true rfl) (Nat.le_of_ble_eq_true rfl) (Nat.le_of_ble_eq_true rfl) dX1_raiseSignedLeast_6 ?_
  refine va_put (D := D) (ci := 1) (v := .long (if p1 < n0.2.2.2.2.1 then n0.2.2.2.2.1 else p1)) (ty := .long) (C := RX1) (T := TX1) (N := 6) hx hb hts hi1 tyX1 tyX1_ok nmX1 hown hK hP hD hS 0 rfl rfl 4 (by decide) hk0 (fun _ h9 => h9) rfl (by decide +kernel) rfl rfl (Nat.le_of_ble_eq_true rfl) dX1_raiseSignedLeast_9 (fun H locs hP hD hS => ?_)
  have hP : va_P D vwCl ([(h0, .inr (1, nm_fs (n0.1, n0.2.1, n0.2.2.1, n0.2.2.2.1, (if p1 < n0.2.2.2.2.1 then n0.2.2.2.2.1 else p1), n0.2.2.2.2.2)))]) H := hP
  have hD : va_D A ([(h0, .inr (1, nm_fs (n0.1, n0.2.1, n0.2.2.1, n0.2.2.2.1, (if p1 < n0.2.2.2.2.1 then n0.2.2.2.2.1 else p1), n0.2.2.2.2.2)))]) := hD
  have e9 : f_X1_raiseSignedLeast n0 p1 = (n0.1, n0.2.1, n0.2.2.1, n0.2.2.2.1, (if p1 < n0.2.2.2.2.1 then n0.2.2.2.2.1 else p1), n0.2.2.2.2.2) := rfl
  rw [e9]
  exact sp_vret C hAe hP hK hD hS dX1_raiseSignedLeast_12
def f_X1_lowerSignedGreatest (n0 : Nm) (p1 : Int64) : Nm :=
  (n0.1, n0.2.1, n0.2.2.1, n0.2.2.2.1, n0.2.2.2.2.1, (if p1 < n0.2.2.2.2.2 then p1 else n0.2.2.2.2.2))
set_option maxHeartbeats 4000000 in
set_option maxRecDepth 100000 in
theorem c_X1_lowerSignedGreatest (l : Launch) (D : va_G) (h0 : Nat) (n0 : Nm) (p1 : Int64) : sp_M l yX1_lowerSignedGreatest wsX1_lowerSignedGreatest ({ frames := 1, cells := 0, slots := 0, locals := 16 }) D [.ref h0, .long p1] ([(h0, .inr (1, nm_fs n0))]) [] (sp_Qv D ([(h0, .inr (1, nm_fs n0))]) ([(h0, .inr (1, nm_fs (f_X1_lowerSignedGreatest n0 p1)))]) []) := by
  refine sp_ofW (cc := cX1_lowerSignedGreatest) (nL := 3) (ret := none) (own := RX1) (by decide) rfl rfl (Nat.le_of_ble_eq_true rfl) ?_
  intro p e s m below meth c A ls hAe hnm C hA hP hK hD hS hl
  have hx := C.1
  have hb := C.2.1
  have hown := C.2.2.2.2.1
  have hts := C.2.2.2.2.2.1
  have hl : lv_has ls 3 [(0, .ref h0), (1, .long p1)] := hl
  have hi1 : ∀ w ∈ u_ws RX1 TX1 6, w ∈ wsX1_lowerSignedGreatest := fun w h => List.mem_cons_of_mem _ (inX1 w h)
  have hk0 := hts _ (List.mem_cons_of_mem _ wm_26)
  have hk1 := hts _ (List.mem_cons_of_mem _ wm_47)
  have hk2 := hts _ (List.mem_cons_of_mem _ wm_48)
  have hk3 := hts _ (List.mem_cons_of_mem _ wm_45)
  have hk4 := hts _ (List.mem_cons_of_mem _ wm_49)
  refine lv_aload_n hx hb dX1_lowerSignedGreatest_0 rfl (lv_at hl 0 rfl) ?_
  refine lv_aload_n hx hb dX1_lowerSignedGreatest_1 rfl (lv_at hl 0 rfl) ?_
  refine va_get (D := D) (ci := 1) (v := .long n0.2.2.2.2.2) (C := RX1) (T := TX1) (N := 6) hx hb hts hi1 hown hK hP 0 rfl rfl 5 (by decide) hk0 (fun _ h9 => h9) rfl dX1_lowerSignedGreatest_2 ?_
  refine lv_lload_n hx hb dX1_lowerSignedGreatest_5 rfl (lv_at hl 1 rfl) ?_
  refine va_mmin_long hx hb (by rw [C.2.2.2.1]; exact hl.1.symm) hown hk1 hk2 hk3 hk4 (Nat.le_of_ble_eq_true rfl) (Nat.le_of_ble_eq_true rfl) (Nat.le_of_ble_eq_true rfl) (Nat.le_of_ble_eq_true rfl) dX1_lowerSignedGreatest_6 ?_
  refine va_put (D := D) (ci := 1) (v := .long (if p1 < n0.2.2.2.2.2 then p1 else n0.2.2.2.2.2)) (ty := .long) (C := RX1) (T := TX1) (N := 6) hx hb hts hi1 tyX1 tyX1_ok nmX1 hown hK hP hD hS 0 rfl rfl 5 (by decide) hk0 (fun _ h9 => h9) rfl (by decide +kernel) rfl rfl (Nat.le_of_ble_eq_true rfl) dX1_lowerSignedGreatest_9 (fun H locs hP hD hS => ?_)
  have hP : va_P D vwCl ([(h0, .inr (1, nm_fs (n0.1, n0.2.1, n0.2.2.1, n0.2.2.2.1, n0.2.2.2.2.1, (if p1 < n0.2.2.2.2.2 then p1 else n0.2.2.2.2.2))))]) H := hP
  have hD : va_D A ([(h0, .inr (1, nm_fs (n0.1, n0.2.1, n0.2.2.1, n0.2.2.2.1, n0.2.2.2.2.1, (if p1 < n0.2.2.2.2.2 then p1 else n0.2.2.2.2.2))))]) := hD
  have e9 : f_X1_lowerSignedGreatest n0 p1 = (n0.1, n0.2.1, n0.2.2.1, n0.2.2.2.1, n0.2.2.2.2.1, (if p1 < n0.2.2.2.2.2 then p1 else n0.2.2.2.2.2)) := rfl
  rw [e9]
  exact sp_vret C hAe hP hK hD hS dX1_lowerSignedGreatest_12
def f_X1_learnOnes (n0 : Nm) (p1 : Int64) : Nm :=
  (f_X1_setBits n0 (n0.1 ||| p1) (n0.2.1 &&& (p1 ^^^ (-1))))
set_option maxHeartbeats 4000000 in
set_option maxRecDepth 100000 in
theorem c_X1_learnOnes (l : Launch) (D : va_G) (h0 : Nat) (n0 : Nm) (p1 : Int64) : sp_M l yX1_learnOnes wsX1_learnOnes ({ frames := 1, cells := 0, slots := 0, locals := 24 }) D [.ref h0, .long p1] ([(h0, .inr (1, nm_fs n0))]) [] (sp_Qv D ([(h0, .inr (1, nm_fs n0))]) ([(h0, .inr (1, nm_fs (f_X1_learnOnes n0 p1)))]) []) := by
  refine sp_ofW (cc := cX1_learnOnes) (nL := 3) (ret := none) (own := RX1) (by decide) rfl rfl (Nat.le_of_ble_eq_true rfl) ?_
  intro p e s m below meth c A ls hAe hnm C hA hP hK hD hS hl
  have hx := C.1
  have hb := C.2.1
  have hown := C.2.2.2.2.1
  have hts := C.2.2.2.2.2.1
  have hl : lv_has ls 3 [(0, .ref h0), (1, .long p1)] := hl
  have hi1 : ∀ w ∈ u_ws RX1 TX1 6, w ∈ wsX1_learnOnes := fun w h => List.mem_cons_of_mem _ (inX1 w h)
  have hk0 := hts _ (List.mem_cons_of_mem _ wm_21)
  have hk1 := hts _ (List.mem_cons_of_mem _ wm_22)
  have hk2 := hts _ (List.mem_cons_of_mem _ wm_40)
  refine lv_aload_n hx hb dX1_learnOnes_0 rfl (lv_at hl 0 rfl) ?_
  refine lv_aload_n hx hb dX1_learnOnes_1 rfl (lv_at hl 0 rfl) ?_
  refine va_get (D := D) (ci := 1) (v := .long n0.1) (C := RX1) (T := TX1) (N := 6) hx hb hts hi1 hown hK hP 0 rfl rfl 0 (by decide) hk0 (fun _ h9 => h9) rfl dX1_learnOnes_2 ?_
  refine lv_lload_n hx hb dX1_learnOnes_5 rfl (lv_at hl 1 rfl) ?_
  refine lv_lor hx hb dX1_learnOnes_6 ?_
  refine lv_aload_n hx hb dX1_learnOnes_7 rfl (lv_at hl 0 rfl) ?_
  refine va_get (D := D) (ci := 1) (v := .long n0.2.1) (C := RX1) (T := TX1) (N := 6) hx hb hts hi1 hown hK hP 0 rfl rfl 1 (by decide) hk1 (fun _ h9 => h9) rfl dX1_learnOnes_8 ?_
  refine lv_lload_n hx hb dX1_learnOnes_11 rfl (lv_at hl 1 rfl) ?_
  refine lv_ldc2 (v := (-1)) hx hb hown hk2 dX1_learnOnes_12 ?_
  refine lv_lxor hx hb dX1_learnOnes_15 ?_
  refine lv_land hx hb dX1_learnOnes_16 ?_
  refine sp_callv (sp_runV (As := [.long (n0.1 ||| p1), .long (n0.2.1 &&& (p1 ^^^ (-1)))]) (rest := []) C (c_X1_setBits l D h0 n0 (n0.1 ||| p1) (n0.2.1 &&& (p1 ^^^ (-1)))) (cwV 2 hts (gV wG_c wm_28 wm_29 wm_30 wm_31 wm_27) rfl rfl rfl (by decide +kernel) ⟨Nat.le_of_ble_eq_true rfl, Nat.le_of_ble_eq_true rfl⟩) hK hP hD [0] (by decide) rfl [] rfl 0 1 rfl rfl rfl rfl hl.1 rfl (Nat.le_of_ble_eq_true rfl) dX1_learnOnes_17 ⟨Nat.le_of_ble_eq_true rfl, Nat.le_of_ble_eq_true rfl⟩) hP hD hS hA [0] rfl (sp_fc sp_f0) (fun H locs hP hD hS => ?_)
  have hP : va_P D vwCl ([(h0, .inr (1, nm_fs (f_X1_setBits n0 (n0.1 ||| p1) (n0.2.1 &&& (p1 ^^^ (-1))))))]) H := hP
  have hD : va_D A ([(h0, .inr (1, nm_fs (f_X1_setBits n0 (n0.1 ||| p1) (n0.2.1 &&& (p1 ^^^ (-1))))))]) := hD
  have e9 : f_X1_learnOnes n0 p1 = (f_X1_setBits n0 (n0.1 ||| p1) (n0.2.1 &&& (p1 ^^^ (-1)))) := rfl
  rw [e9]
  exact sp_vret C hAe hP hK hD hS dX1_learnOnes_20
def f_X1_learnZeros (n0 : Nm) (p1 : Int64) : Nm :=
  (f_X1_setBits n0 (n0.1 &&& (p1 ^^^ (-1))) (n0.2.1 &&& (p1 ^^^ (-1))))
set_option maxHeartbeats 4000000 in
set_option maxRecDepth 100000 in
theorem c_X1_learnZeros (l : Launch) (D : va_G) (h0 : Nat) (n0 : Nm) (p1 : Int64) : sp_M l yX1_learnZeros wsX1_learnZeros ({ frames := 1, cells := 0, slots := 0, locals := 24 }) D [.ref h0, .long p1] ([(h0, .inr (1, nm_fs n0))]) [] (sp_Qv D ([(h0, .inr (1, nm_fs n0))]) ([(h0, .inr (1, nm_fs (f_X1_learnZeros n0 p1)))]) []) := by
  refine sp_ofW (cc := cX1_learnZeros) (nL := 3) (ret := none) (own := RX1) (by decide) rfl rfl (Nat.le_of_ble_eq_true rfl) ?_
  intro p e s m below meth c A ls hAe hnm C hA hP hK hD hS hl
  have hx := C.1
  have hb := C.2.1
  have hown := C.2.2.2.2.1
  have hts := C.2.2.2.2.2.1
  have hl : lv_has ls 3 [(0, .ref h0), (1, .long p1)] := hl
  have hi1 : ∀ w ∈ u_ws RX1 TX1 6, w ∈ wsX1_learnZeros := fun w h => List.mem_cons_of_mem _ (inX1 w h)
  have hk0 := hts _ (List.mem_cons_of_mem _ wm_21)
  have hk1 := hts _ (List.mem_cons_of_mem _ wm_40)
  have hk2 := hts _ (List.mem_cons_of_mem _ wm_22)
  refine lv_aload_n hx hb dX1_learnZeros_0 rfl (lv_at hl 0 rfl) ?_
  refine lv_aload_n hx hb dX1_learnZeros_1 rfl (lv_at hl 0 rfl) ?_
  refine va_get (D := D) (ci := 1) (v := .long n0.1) (C := RX1) (T := TX1) (N := 6) hx hb hts hi1 hown hK hP 0 rfl rfl 0 (by decide) hk0 (fun _ h9 => h9) rfl dX1_learnZeros_2 ?_
  refine lv_lload_n hx hb dX1_learnZeros_5 rfl (lv_at hl 1 rfl) ?_
  refine lv_ldc2 (v := (-1)) hx hb hown hk1 dX1_learnZeros_6 ?_
  refine lv_lxor hx hb dX1_learnZeros_9 ?_
  refine lv_land hx hb dX1_learnZeros_10 ?_
  refine lv_aload_n hx hb dX1_learnZeros_11 rfl (lv_at hl 0 rfl) ?_
  refine va_get (D := D) (ci := 1) (v := .long n0.2.1) (C := RX1) (T := TX1) (N := 6) hx hb hts hi1 hown hK hP 0 rfl rfl 1 (by decide) hk2 (fun _ h9 => h9) rfl dX1_learnZeros_12 ?_
  refine lv_lload_n hx hb dX1_learnZeros_15 rfl (lv_at hl 1 rfl) ?_
  refine lv_ldc2 (v := (-1)) hx hb hown hk1 dX1_learnZeros_16 ?_
  refine lv_lxor hx hb dX1_learnZeros_19 ?_
  refine lv_land hx hb dX1_learnZeros_20 ?_
  refine sp_callv (sp_runV (As := [.long (n0.1 &&& (p1 ^^^ (-1))), .long (n0.2.1 &&& (p1 ^^^ (-1)))]) (rest := []) C (c_X1_setBits l D h0 n0 (n0.1 &&& (p1 ^^^ (-1))) (n0.2.1 &&& (p1 ^^^ (-1)))) (cwV 2 hts (gV wG_c wm_28 wm_29 wm_30 wm_31 wm_27) rfl rfl rfl (by decide +kernel) ⟨Nat.le_of_ble_eq_true rfl, Nat.le_of_ble_eq_true rfl⟩) hK hP hD [0] (by decide) rfl [] rfl 0 1 rfl rfl rfl rfl hl.1 rfl (Nat.le_of_ble_eq_true rfl) dX1_learnZeros_21 ⟨Nat.le_of_ble_eq_true rfl, Nat.le_of_ble_eq_true rfl⟩) hP hD hS hA [0] rfl (sp_fc sp_f0) (fun H locs hP hD hS => ?_)
  have hP : va_P D vwCl ([(h0, .inr (1, nm_fs (f_X1_setBits n0 (n0.1 &&& (p1 ^^^ (-1))) (n0.2.1 &&& (p1 ^^^ (-1))))))]) H := hP
  have hD : va_D A ([(h0, .inr (1, nm_fs (f_X1_setBits n0 (n0.1 &&& (p1 ^^^ (-1))) (n0.2.1 &&& (p1 ^^^ (-1))))))]) := hD
  have e9 : f_X1_learnZeros n0 p1 = (f_X1_setBits n0 (n0.1 &&& (p1 ^^^ (-1))) (n0.2.1 &&& (p1 ^^^ (-1)))) := rfl
  rw [e9]
  exact sp_vret C hAe hP hK hD hS dX1_learnZeros_24
