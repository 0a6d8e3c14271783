theorem wm_50 : (.code yX1_isExactly cX1_isExactly 3 (some .boolean) : Cond) ∈ wsG := wG_of 395 (by decide +kernel) (by decide +kernel)
theorem wm_51 : (.methodLink RX1 61 yX1_isExactly : Cond) ∈ wsG := wG_of 486 (by decide +kernel) (by decide +kernel)
theorem wm_52 : (.instanceMethod yX1_isExactly : Cond) ∈ wsG := wG_of 393 (by decide +kernel) (by decide +kernel)
theorem wm_53 : (.selects RX1 yX1_isExactly yX1_isExactly : Cond) ∈ wsG := wG_of 394 (by decide +kernel) (by decide +kernel)
theorem wm_54 : (.code yX1_raiseLeast cX1_raiseLeast 3 none : Cond) ∈ wsG := wG_of 219 (by decide +kernel) (by decide +kernel)
theorem wm_55 : (.methodLink RX1 81 yX1_raiseLeast : Cond) ∈ wsG := wG_of 216 (by decide +kernel) (by decide +kernel)
theorem wm_56 : (.instanceMethod yX1_raiseLeast : Cond) ∈ wsG := wG_of 217 (by decide +kernel) (by decide +kernel)
theorem wm_57 : (.selects RX1 yX1_raiseLeast yX1_raiseLeast : Cond) ∈ wsG := wG_of 218 (by decide +kernel) (by decide +kernel)
theorem wm_58 : (.code yX1_mayBeOne cX1_mayBeOne 1 (some .long) : Cond) ∈ wsG := wG_of 227 (by decide +kernel) (by decide +kernel)
theorem wm_59 : (.methodLink RX1 85 yX1_mayBeOne : Cond) ∈ wsG := wG_of 224 (by decide +kernel) (by decide +kernel)
theorem wm_60 : (.instanceMethod yX1_mayBeOne : Cond) ∈ wsG := wG_of 225 (by decide +kernel) (by decide +kernel)
theorem wm_61 : (.selects RX1 yX1_mayBeOne yX1_mayBeOne : Cond) ∈ wsG := wG_of 226 (by decide +kernel) (by decide +kernel)
theorem wm_62 : (.code yX1_lowerGreatest cX1_lowerGreatest 3 none : Cond) ∈ wsG := wG_of 231 (by decide +kernel) (by decide +kernel)
theorem wm_63 : (.methodLink RX1 89 yX1_lowerGreatest : Cond) ∈ wsG := wG_of 228 (by decide +kernel) (by decide +kernel)
theorem wm_64 : (.instanceMethod yX1_lowerGreatest : Cond) ∈ wsG := wG_of 229 (by decide +kernel) (by decide +kernel)
theorem wm_65 : (.selects RX1 yX1_lowerGreatest yX1_lowerGreatest : Cond) ∈ wsG := wG_of 230 (by decide +kernel) (by decide +kernel)
theorem wm_66 : (.code yX1_raiseSignedLeast cX1_raiseSignedLeast 3 none : Cond) ∈ wsG := wG_of 243 (by decide +kernel) (by decide +kernel)
theorem wm_67 : (.methodLink RX1 92 yX1_raiseSignedLeast : Cond) ∈ wsG := wG_of 240 (by decide +kernel) (by decide +kernel)
theorem wm_68 : (.instanceMethod yX1_raiseSignedLeast : Cond) ∈ wsG := wG_of 241 (by decide +kernel) (by decide +kernel)
theorem wm_69 : (.selects RX1 yX1_raiseSignedLeast yX1_raiseSignedLeast : Cond) ∈ wsG := wG_of 242 (by decide +kernel) (by decide +kernel)
theorem wm_70 : (.code yX1_lowerSignedGreatest cX1_lowerSignedGreatest 3 none : Cond) ∈ wsG := wG_of 250 (by decide +kernel) (by decide +kernel)
theorem wm_71 : (.methodLink RX1 95 yX1_lowerSignedGreatest : Cond) ∈ wsG := wG_of 247 (by decide +kernel) (by decide +kernel)
theorem wm_72 : (.instanceMethod yX1_lowerSignedGreatest : Cond) ∈ wsG := wG_of 248 (by decide +kernel) (by decide +kernel)
theorem wm_73 : (.selects RX1 yX1_lowerSignedGreatest yX1_lowerSignedGreatest : Cond) ∈ wsG := wG_of 249 (by decide +kernel) (by decide +kernel)
theorem wm_74 : (.code yJL_numberOfLeadingZeros cJL_numberOfLeadingZeros 3 (some .int) : Cond) ∈ wsG := wG_of 264 (by decide +kernel) (by decide +kernel)
theorem wm_75 : (.methodLink RX1 98 yJL_numberOfLeadingZeros : Cond) ∈ wsG := wG_of 262 (by decide +kernel) (by decide +kernel)
theorem wm_76 : (.static yJL_numberOfLeadingZeros : Cond) ∈ wsG := wG_of 263 (by decide +kernel) (by decide +kernel)
theorem wm_77 : (.initialized RJL : Cond) ∈ wsG := wG_of 67 (by decide +kernel) (by decide +kernel)
theorem dX1_exclude_0 : decode cX1_exclude 0 = .ok (.aload_n 0, 1) := by decide +kernel
theorem dX1_exclude_1 : decode cX1_exclude 1 = .ok (.lload_n 1, 1) := by decide +kernel
theorem dX1_exclude_2 : decode cX1_exclude 2 = .ok (.invokevirtual 61, 3) := by decide +kernel
theorem dX1_exclude_5 : decode cX1_exclude 5 = .ok (.ifCond .eq 5, 3) := by decide +kernel
theorem dX1_exclude_8 : decode cX1_exclude 8 = .ok (.iconst 0, 1) := by decide +kernel
theorem dX1_exclude_9 : decode cX1_exclude 9 = .ok (.ireturn, 1) := by decide +kernel
theorem dX1_exclude_10 : decode cX1_exclude 10 = .ok (.aload_n 0, 1) := by decide +kernel
theorem dX1_exclude_11 : decode cX1_exclude 11 = .ok (.getfield 36, 3) := by decide +kernel
theorem dX1_exclude_14 : decode cX1_exclude 14 = .ok (.lload_n 1, 1) := by decide +kernel
theorem dX1_exclude_15 : decode cX1_exclude 15 = .ok (.lcmp, 1) := by decide +kernel
theorem dX1_exclude_16 : decode cX1_exclude 16 = .ok (.ifCond .ne 13, 3) := by decide +kernel
theorem dX1_exclude_19 : decode cX1_exclude 19 = .ok (.aload_n 0, 1) := by decide +kernel
theorem dX1_exclude_20 : decode cX1_exclude 20 = .ok (.dup, 1) := by decide +kernel
theorem dX1_exclude_21 : decode cX1_exclude 21 = .ok (.getfield 36, 3) := by decide +kernel
theorem dX1_exclude_24 : decode cX1_exclude 24 = .ok (.lconst 1, 1) := by decide +kernel
theorem dX1_exclude_25 : decode cX1_exclude 25 = .ok (.ladd, 1) := by decide +kernel
theorem dX1_exclude_26 : decode cX1_exclude 26 = .ok (.putfield 36, 3) := by decide +kernel
theorem dX1_exclude_29 : decode cX1_exclude 29 = .ok (.aload_n 0, 1) := by decide +kernel
theorem dX1_exclude_30 : decode cX1_exclude 30 = .ok (.getfield 39, 3) := by decide +kernel
theorem dX1_exclude_33 : decode cX1_exclude 33 = .ok (.lload_n 1, 1) := by decide +kernel
theorem dX1_exclude_34 : decode cX1_exclude 34 = .ok (.lcmp, 1) := by decide +kernel
theorem dX1_exclude_35 : decode cX1_exclude 35 = .ok (.ifCond .ne 13, 3) := by decide +kernel
theorem dX1_exclude_38 : decode cX1_exclude 38 = .ok (.aload_n 0, 1) := by decide +kernel
theorem dX1_exclude_39 : decode cX1_exclude 39 = .ok (.dup, 1) := by decide +kernel
theorem dX1_exclude_40 : decode cX1_exclude 40 = .ok (.getfield 39, 3) := by decide +kernel
theorem dX1_exclude_43 : decode cX1_exclude 43 = .ok (.lconst 1, 1) := by decide +kernel
theorem dX1_exclude_44 : decode cX1_exclude 44 = .ok (.lsub, 1) := by decide +kernel
theorem dX1_exclude_45 : decode cX1_exclude 45 = .ok (.putfield 39, 3) := by decide +kernel
theorem dX1_exclude_48 : decode cX1_exclude 48 = .ok (.aload_n 0, 1) := by decide +kernel
theorem dX1_exclude_49 : decode cX1_exclude 49 = .ok (.getfield 42, 3) := by decide +kernel
theorem dX1_exclude_52 : decode cX1_exclude 52 = .ok (.lload_n 1, 1) := by decide +kernel
theorem dX1_exclude_53 : decode cX1_exclude 53 = .ok (.lcmp, 1) := by decide +kernel
theorem dX1_exclude_54 : decode cX1_exclude 54 = .ok (.ifCond .ne 13, 3) := by decide +kernel
theorem dX1_exclude_57 : decode cX1_exclude 57 = .ok (.aload_n 0, 1) := by decide +kernel
theorem dX1_exclude_58 : decode cX1_exclude 58 = .ok (.dup, 1) := by decide +kernel
theorem dX1_exclude_59 : decode cX1_exclude 59 = .ok (.getfield 42, 3) := by decide +kernel
theorem dX1_exclude_62 : decode cX1_exclude 62 = .ok (.lconst 1, 1) := by decide +kernel
theorem dX1_exclude_63 : decode cX1_exclude 63 = .ok (.ladd, 1) := by decide +kernel
theorem dX1_exclude_64 : decode cX1_exclude 64 = .ok (.putfield 42, 3) := by decide +kernel
theorem dX1_exclude_67 : decode cX1_exclude 67 = .ok (.aload_n 0, 1) := by decide +kernel
theorem dX1_exclude_68 : decode cX1_exclude 68 = .ok (.getfield 45, 3) := by decide +kernel
theorem dX1_exclude_71 : decode cX1_exclude 71 = .ok (.lload_n 1, 1) := by decide +kernel
theorem dX1_exclude_72 : decode cX1_exclude 72 = .ok (.lcmp, 1) := by decide +kernel
theorem dX1_exclude_73 : decode cX1_exclude 73 = .ok (.ifCond .ne 13, 3) := by decide +kernel
theorem dX1_exclude_76 : decode cX1_exclude 76 = .ok (.aload_n 0, 1) := by decide +kernel
theorem dX1_exclude_77 : decode cX1_exclude 77 = .ok (.dup, 1) := by decide +kernel
theorem dX1_exclude_78 : decode cX1_exclude 78 = .ok (.getfield 45, 3) := by decide +kernel
theorem dX1_exclude_81 : decode cX1_exclude 81 = .ok (.lconst 1, 1) := by decide +kernel
theorem dX1_exclude_82 : decode cX1_exclude 82 = .ok (.lsub, 1) := by decide +kernel
theorem dX1_exclude_83 : decode cX1_exclude 83 = .ok (.putfield 45, 3) := by decide +kernel
theorem dX1_exclude_86 : decode cX1_exclude 86 = .ok (.iconst 1, 1) := by decide +kernel
theorem dX1_exclude_87 : decode cX1_exclude 87 = .ok (.ireturn, 1) := by decide +kernel
theorem dX1_isCrossed_0 : decode cX1_isCrossed 0 = .ok (.aload_n 0, 1) := by decide +kernel
theorem dX1_isCrossed_1 : decode cX1_isCrossed 1 = .ok (.getfield 36, 3) := by decide +kernel
theorem dX1_isCrossed_4 : decode cX1_isCrossed 4 = .ok (.aload_n 0, 1) := by decide +kernel
theorem dX1_isCrossed_5 : decode cX1_isCrossed 5 = .ok (.getfield 39, 3) := by decide +kernel
theorem dX1_isCrossed_8 : decode cX1_isCrossed 8 = .ok (.invokestatic 48, 3) := by decide +kernel
theorem dX1_isCrossed_11 : decode cX1_isCrossed 11 = .ok (.ifCond .ne 15, 3) := by decide +kernel
theorem dX1_isCrossed_14 : decode cX1_isCrossed 14 = .ok (.aload_n 0, 1) := by decide +kernel
theorem dX1_isCrossed_15 : decode cX1_isCrossed 15 = .ok (.getfield 42, 3) := by decide +kernel
theorem dX1_isCrossed_18 : decode cX1_isCrossed 18 = .ok (.aload_n 0, 1) := by decide +kernel
theorem dX1_isCrossed_19 : decode cX1_isCrossed 19 = .ok (.getfield 45, 3) := by decide +kernel
theorem dX1_isCrossed_22 : decode cX1_isCrossed 22 = .ok (.lcmp, 1) := by decide +kernel
theorem dX1_isCrossed_23 : decode cX1_isCrossed 23 = .ok (.ifCond .le 7, 3) := by decide +kernel
theorem dX1_isCrossed_26 : decode cX1_isCrossed 26 = .ok (.iconst 1, 1) := by decide +kernel
theorem dX1_isCrossed_27 : decode cX1_isCrossed 27 = .ok (.goto 4, 3) := by decide +kernel
theorem dX1_isCrossed_30 : decode cX1_isCrossed 30 = .ok (.iconst 0, 1) := by decide +kernel
theorem dX1_isCrossed_31 : decode cX1_isCrossed 31 = .ok (.ireturn, 1) := by decide +kernel
theorem dX1_boundByBits_0 : decode cX1_boundByBits 0 = .ok (.aload_n 0, 1) := by decide +kernel
theorem dX1_boundByBits_1 : decode cX1_boundByBits 1 = .ok (.aload_n 0, 1) := by decide +kernel
theorem dX1_boundByBits_2 : decode cX1_boundByBits 2 = .ok (.getfield 29, 3) := by decide +kernel
theorem dX1_boundByBits_5 : decode cX1_boundByBits 5 = .ok (.invokevirtual 81, 3) := by decide +kernel
theorem dX1_boundByBits_8 : decode cX1_boundByBits 8 = .ok (.aload_n 0, 1) := by decide +kernel
theorem dX1_boundByBits_9 : decode cX1_boundByBits 9 = .ok (.aload_n 0, 1) := by decide +kernel
theorem dX1_boundByBits_10 : decode cX1_boundByBits 10 = .ok (.invokevirtual 85, 3) := by decide +kernel
theorem dX1_boundByBits_13 : decode cX1_boundByBits 13 = .ok (.invokevirtual 89, 3) := by decide +kernel
theorem dX1_boundByBits_16 : decode cX1_boundByBits 16 = .ok (.return_, 1) := by decide +kernel
theorem dX1_boundSignedByUnsigned_0 : decode cX1_boundSignedByUnsigned 0 = .ok (.aload_n 0, 1) := by decide +kernel
theorem dX1_boundSignedByUnsigned_1 : decode cX1_boundSignedByUnsigned 1 = .ok (.getfield 36, 3) := by decide +kernel
theorem dX1_boundSignedByUnsigned_4 : decode cX1_boundSignedByUnsigned 4 = .ok (.aload_n 0, 1) := by decide +kernel
theorem dX1_boundSignedByUnsigned_5 : decode cX1_boundSignedByUnsigned 5 = .ok (.getfield 39, 3) := by decide +kernel
theorem dX1_boundSignedByUnsigned_8 : decode cX1_boundSignedByUnsigned 8 = .ok (.lxor, 1) := by decide +kernel
theorem dX1_boundSignedByUnsigned_9 : decode cX1_boundSignedByUnsigned 9 = .ok (.lconst 0, 1) := by decide +kernel
theorem dX1_boundSignedByUnsigned_10 : decode cX1_boundSignedByUnsigned 10 = .ok (.lcmp, 1) := by decide +kernel
theorem dX1_boundSignedByUnsigned_11 : decode cX1_boundSignedByUnsigned 11 = .ok (.ifCond .lt 19, 3) := by decide +kernel
theorem dX1_boundSignedByUnsigned_14 : decode cX1_boundSignedByUnsigned 14 = .ok (.aload_n 0, 1) := by decide +kernel
theorem dX1_boundSignedByUnsigned_15 : decode cX1_boundSignedByUnsigned 15 = .ok (.aload_n 0, 1) := by decide +kernel
theorem dX1_boundSignedByUnsigned_16 : decode cX1_boundSignedByUnsigned 16 = .ok (.getfield 36, 3) := by decide +kernel
theorem dX1_boundSignedByUnsigned_19 : decode cX1_boundSignedByUnsigned 19 = .ok (.invokevirtual 92, 3) := by decide +kernel
theorem dX1_boundSignedByUnsigned_22 : decode cX1_boundSignedByUnsigned 22 = .ok (.aload_n 0, 1) := by decide +kernel
theorem dX1_boundSignedByUnsigned_23 : decode cX1_boundSignedByUnsigned 23 = .ok (.aload_n 0, 1) := by decide +kernel
theorem dX1_boundSignedByUnsigned_24 : decode cX1_boundSignedByUnsigned 24 = .ok (.getfield 39, 3) := by decide +kernel
theorem dX1_boundSignedByUnsigned_27 : decode cX1_boundSignedByUnsigned 27 = .ok (.invokevirtual 95, 3) := by decide +kernel
theorem dX1_boundSignedByUnsigned_30 : decode cX1_boundSignedByUnsigned 30 = .ok (.return_, 1) := by decide +kernel
theorem dX1_boundUnsignedBySigned_0 : decode cX1_boundUnsignedBySigned 0 = .ok (.aload_n 0, 1) := by decide +kernel
theorem dX1_boundUnsignedBySigned_1 : decode cX1_boundUnsignedBySigned 1 = .ok (.getfield 42, 3) := by decide +kernel
theorem dX1_boundUnsignedBySigned_4 : decode cX1_boundUnsignedBySigned 4 = .ok (.aload_n 0, 1) := by decide +kernel
theorem dX1_boundUnsignedBySigned_5 : decode cX1_boundUnsignedBySigned 5 = .ok (.getfield 45, 3) := by decide +kernel
theorem dX1_boundUnsignedBySigned_8 : decode cX1_boundUnsignedBySigned 8 = .ok (.lxor, 1) := by decide +kernel
theorem dX1_boundUnsignedBySigned_9 : decode cX1_boundUnsignedBySigned 9 = .ok (.lconst 0, 1) := by decide +kernel
theorem dX1_boundUnsignedBySigned_10 : decode cX1_boundUnsignedBySigned 10 = .ok (.lcmp, 1) := by decide +kernel
theorem dX1_boundUnsignedBySigned_11 : decode cX1_boundUnsignedBySigned 11 = .ok (.ifCond .lt 19, 3) := by decide +kernel
theorem dX1_boundUnsignedBySigned_14 : decode cX1_boundUnsignedBySigned 14 = .ok (.aload_n 0, 1) := by decide +kernel
theorem dX1_boundUnsignedBySigned_15 : decode cX1_boundUnsignedBySigned 15 = .ok (.aload_n 0, 1) := by decide +kernel
theorem dX1_boundUnsignedBySigned_16 : decode cX1_boundUnsignedBySigned 16 = .ok (.getfield 42, 3) := by decide +kernel
theorem dX1_boundUnsignedBySigned_19 : decode cX1_boundUnsignedBySigned 19 = .ok (.invokevirtual 81, 3) := by decide +kernel
theorem dX1_boundUnsignedBySigned_22 : decode cX1_boundUnsignedBySigned 22 = .ok (.aload_n 0, 1) := by decide +kernel
theorem dX1_boundUnsignedBySigned_23 : decode cX1_boundUnsignedBySigned 23 = .ok (.aload_n 0, 1) := by decide +kernel
theorem dX1_boundUnsignedBySigned_24 : decode cX1_boundUnsignedBySigned 24 = .ok (.getfield 45, 3) := by decide +kernel
theorem dX1_boundUnsignedBySigned_27 : decode cX1_boundUnsignedBySigned 27 = .ok (.invokevirtual 89, 3) := by decide +kernel
theorem dX1_boundUnsignedBySigned_30 : decode cX1_boundUnsignedBySigned 30 = .ok (.return_, 1) := by decide +kernel
theorem dX1_learnSharedHighBits_0 : decode cX1_learnSharedHighBits 0 = .ok (.aload_n 0, 1) := by decide +kernel
theorem dX1_learnSharedHighBits_1 : decode cX1_learnSharedHighBits 1 = .ok (.getfield 36, 3) := by decide +kernel
theorem dX1_learnSharedHighBits_4 : decode cX1_learnSharedHighBits 4 = .ok (.aload_n 0, 1) := by decide +kernel
theorem dX1_learnSharedHighBits_5 : decode cX1_learnSharedHighBits 5 = .ok (.getfield 39, 3) := by decide +kernel
theorem dX1_learnSharedHighBits_8 : decode cX1_learnSharedHighBits 8 = .ok (.lxor, 1) := by decide +kernel
theorem dX1_learnSharedHighBits_9 : decode cX1_learnSharedHighBits 9 = .ok (.lstore_n 1, 1) := by decide +kernel
theorem dX1_learnSharedHighBits_10 : decode cX1_learnSharedHighBits 10 = .ok (.lload_n 1, 1) := by decide +kernel
theorem dX1_learnSharedHighBits_11 : decode cX1_learnSharedHighBits 11 = .ok (.lconst 0, 1) := by decide +kernel
theorem dX1_learnSharedHighBits_12 : decode cX1_learnSharedHighBits 12 = .ok (.lcmp, 1) := by decide +kernel
theorem dX1_learnSharedHighBits_13 : decode cX1_learnSharedHighBits 13 = .ok (.ifCond .ne 7, 3) := by decide +kernel
theorem dX1_learnSharedHighBits_16 : decode cX1_learnSharedHighBits 16 = .ok (.lconst 0, 1) := by decide +kernel
theorem dX1_learnSharedHighBits_17 : decode cX1_learnSharedHighBits 17 = .ok (.goto 11, 3) := by decide +kernel
theorem dX1_learnSharedHighBits_20 : decode cX1_learnSharedHighBits 20 = .ok (.ldc2_w 21, 3) := by decide +kernel
theorem dX1_learnSharedHighBits_23 : decode cX1_learnSharedHighBits 23 = .ok (.lload_n 1, 1) := by decide +kernel
theorem dX1_learnSharedHighBits_24 : decode cX1_learnSharedHighBits 24 = .ok (.invokestatic 98, 3) := by decide +kernel
theorem dX1_learnSharedHighBits_27 : decode cX1_learnSharedHighBits 27 = .ok (.lushr, 1) := by decide +kernel
theorem dX1_learnSharedHighBits_28 : decode cX1_learnSharedHighBits 28 = .ok (.lstore_n 3, 1) := by decide +kernel
theorem dX1_learnSharedHighBits_29 : decode cX1_learnSharedHighBits 29 = .ok (.aload_n 0, 1) := by decide +kernel
theorem dX1_learnSharedHighBits_30 : decode cX1_learnSharedHighBits 30 = .ok (.getfield 29, 3) := by decide +kernel
theorem dX1_learnSharedHighBits_33 : decode cX1_learnSharedHighBits 33 = .ok (.aload_n 0, 1) := by decide +kernel
theorem dX1_learnSharedHighBits_34 : decode cX1_learnSharedHighBits 34 = .ok (.getfield 36, 3) := by decide +kernel
theorem dX1_learnSharedHighBits_37 : decode cX1_learnSharedHighBits 37 = .ok (.lxor, 1) := by decide +kernel
theorem dX1_learnSharedHighBits_38 : decode cX1_learnSharedHighBits 38 = .ok (.aload_n 0, 1) := by decide +kernel
theorem dX1_learnSharedHighBits_39 : decode cX1_learnSharedHighBits 39 = .ok (.getfield 33, 3) := by decide +kernel
theorem dX1_learnSharedHighBits_42 : decode cX1_learnSharedHighBits 42 = .ok (.ldc2_w 21, 3) := by decide +kernel
theorem dX1_learnSharedHighBits_45 : decode cX1_learnSharedHighBits 45 = .ok (.lxor, 1) := by decide +kernel
theorem dX1_learnSharedHighBits_46 : decode cX1_learnSharedHighBits 46 = .ok (.land, 1) := by decide +kernel
theorem dX1_learnSharedHighBits_47 : decode cX1_learnSharedHighBits 47 = .ok (.lload_n 3, 1) := by decide +kernel
theorem dX1_learnSharedHighBits_48 : decode cX1_learnSharedHighBits 48 = .ok (.ldc2_w 21, 3) := by decide +kernel
theorem dX1_learnSharedHighBits_51 : decode cX1_learnSharedHighBits 51 = .ok (.lxor, 1) := by decide +kernel
theorem dX1_learnSharedHighBits_52 : decode cX1_learnSharedHighBits 52 = .ok (.land, 1) := by decide +kernel
theorem dX1_learnSharedHighBits_53 : decode cX1_learnSharedHighBits 53 = .ok (.lconst 0, 1) := by decide +kernel
theorem dX1_learnSharedHighBits_54 : decode cX1_learnSharedHighBits 54 = .ok (.lcmp, 1) := by decide +kernel
theorem dX1_learnSharedHighBits_55 : decode cX1_learnSharedHighBits 55 = .ok (.ifCond .eq 5, 3) := by decide +kernel
theorem dX1_learnSharedHighBits_58 : decode cX1_learnSharedHighBits 58 = .ok (.iconst 0, 1) := by decide +kernel
theorem dX1_learnSharedHighBits_59 : decode cX1_learnSharedHighBits 59 = .ok (.ireturn, 1) := by decide +kernel
theorem dX1_learnSharedHighBits_60 : decode cX1_learnSharedHighBits 60 = .ok (.aload_n 0, 1) := by decide +kernel
theorem dX1_learnSharedHighBits_61 : decode cX1_learnSharedHighBits 61 = .ok (.aload_n 0, 1) := by decide +kernel
theorem dX1_learnSharedHighBits_62 : decode cX1_learnSharedHighBits 62 = .ok (.getfield 29, 3) := by decide +kernel
theorem dX1_learnSharedHighBits_65 : decode cX1_learnSharedHighBits 65 = .ok (.lload_n 3, 1) := by decide +kernel
theorem dX1_learnSharedHighBits_66 : decode cX1_learnSharedHighBits 66 = .ok (.land, 1) := by decide +kernel
theorem dX1_learnSharedHighBits_67 : decode cX1_learnSharedHighBits 67 = .ok (.aload_n 0, 1) := by decide +kernel
theorem dX1_learnSharedHighBits_68 : decode cX1_learnSharedHighBits 68 = .ok (.getfield 36, 3) := by decide +kernel
theorem dX1_learnSharedHighBits_71 : decode cX1_learnSharedHighBits 71 = .ok (.lload_n 3, 1) := by decide +kernel
theorem dX1_learnSharedHighBits_72 : decode cX1_learnSharedHighBits 72 = .ok (.ldc2_w 21, 3) := by decide +kernel
theorem dX1_learnSharedHighBits_75 : decode cX1_learnSharedHighBits 75 = .ok (.lxor, 1) := by decide +kernel
theorem dX1_learnSharedHighBits_76 : decode cX1_learnSharedHighBits 76 = .ok (.land, 1) := by decide +kernel
theorem dX1_learnSharedHighBits_77 : decode cX1_learnSharedHighBits 77 = .ok (.lor, 1) := by decide +kernel
theorem dX1_learnSharedHighBits_78 : decode cX1_learnSharedHighBits 78 = .ok (.aload_n 0, 1) := by decide +kernel
theorem dX1_learnSharedHighBits_79 : decode cX1_learnSharedHighBits 79 = .ok (.getfield 33, 3) := by decide +kernel
theorem dX1_learnSharedHighBits_82 : decode cX1_learnSharedHighBits 82 = .ok (.lload_n 3, 1) := by decide +kernel
theorem dX1_learnSharedHighBits_83 : decode cX1_learnSharedHighBits 83 = .ok (.land, 1) := by decide +kernel
theorem dX1_learnSharedHighBits_84 : decode cX1_learnSharedHighBits 84 = .ok (.invokevirtual 9, 3) := by decide +kernel
theorem dX1_learnSharedHighBits_87 : decode cX1_learnSharedHighBits 87 = .ok (.iconst 1, 1) := by decide +kernel
theorem dX1_learnSharedHighBits_88 : decode cX1_learnSharedHighBits 88 = .ok (.ireturn, 1) := by decide +kernel
def f_X1_exclude (n0 : Nm) (p1 : Int64) : Nm × Int32 :=
  if (f_X1_isExactly n0 p1) = 0 then (if (lg_cmp n0.2.2.1 p1) = 0 then (if (lg_cmp n0.2.2.2.1 p1) = 0 then (if (lg_cmp n0.2.2.2.2.1 p1) = 0 then (if (lg_cmp n0.2.2.2.2.2 p1) = 0 then ((n0.1, n0.2.1, (n0.2.2.1 + 1), (n0.2.2.2.1 - 1), (n0.2.2.2.2.1 + 1), (n0.2.2.2.2.2 - 1)), 1)
          else ((n0.1, n0.2.1, (n0.2.2.1 + 1), (n0.2.2.2.1 - 1), (n0.2.2.2.2.1 + 1), n0.2.2.2.2.2), 1))
        else if (lg_cmp n0.2.2.2.2.2 p1) = 0 then ((n0.1, n0.2.1, (n0.2.2.1 + 1), (n0.2.2.2.1 - 1), n0.2.2.2.2.1, (n0.2.2.2.2.2 - 1)), 1)
        else ((n0.1, n0.2.1, (n0.2.2.1 + 1), (n0.2.2.2.1 - 1), n0.2.2.2.2.1, n0.2.2.2.2.2), 1))
      else if (lg_cmp n0.2.2.2.2.1 p1) = 0 then (if (lg_cmp n0.2.2.2.2.2 p1) = 0 then ((n0.1, n0.2.1, (n0.2.2.1 + 1), n0.2.2.2.1, (n0.2.2.2.2.1 + 1), (n0.2.2.2.2.2 - 1)), 1)
        else ((n0.1, n0.2.1, (n0.2.2.1 + 1), n0.2.2.2.1, (n0.2.2.2.2.1 + 1), n0.2.2.2.2.2), 1))
      else if (lg_cmp n0.2.2.2.2.2 p1) = 0 then ((n0.1, n0.2.1, (n0.2.2.1 + 1), n0.2.2.2.1, n0.2.2.2.2.1, (n0.2.2.2.2.2 - 1)), 1)
      else ((n0.1, n0.2.1, (n0.2.2.1 + 1), n0.2.2.2.1, n0.2.2.2.2.1, n0.2.2.2.2.2), 1))
    else if (lg_cmp n0.2.2.2.1 p1) = 0 then (if (lg_cmp n0.2.2.2.2.1 p1) = 0 then (if (lg_cmp n0.2.2.2.2.2 p1) = 0 then ((n0.1, n0.2.1, n0.2.2.1, (n0.2.2.2.1 - 1), (n0.2.2.2.2.1 + 1), (n0.2.2.2.2.2 - 1)), 1)
        else ((n0.1, n0.2.1, n0.2.2.1, (n0.2.2.2.1 - 1), (n0.2.2.2.2.1 + 1), n0.2.2.2.2.2), 1))
      else if (lg_cmp n0.2.2.2.2.2 p1) = 0 then ((n0.1, n0.2.1, n0.2.2.1, (n0.2.2.2.1 - 1), n0.2.2.2.2.1, (n0.2.2.2.2.2 - 1)), 1)
      else ((n0.1, n0.2.1, n0.2.2.1, (n0.2.2.2.1 - 1), n0.2.2.2.2.1, n0.2.2.2.2.2), 1))
    else if (lg_cmp n0.2.2.2.2.1 p1) = 0 then (if (lg_cmp n0.2.2.2.2.2 p1) = 0 then ((n0.1, n0.2.1, n0.2.2.1, n0.2.2.2.1, (n0.2.2.2.2.1 + 1), (n0.2.2.2.2.2 - 1)), 1)
      else ((n0.1, n0.2.1, n0.2.2.1, n0.2.2.2.1, (n0.2.2.2.2.1 + 1), n0.2.2.2.2.2), 1))
    else if (lg_cmp n0.2.2.2.2.2 p1) = 0 then ((n0.1, n0.2.1, n0.2.2.1, n0.2.2.2.1, n0.2.2.2.2.1, (n0.2.2.2.2.2 - 1)), 1)
    else (n0, 1))
  else (n0, 0)
set_option maxHeartbeats 4000000 in
set_option maxRecDepth 100000 in
theorem c_X1_exclude (l : Launch) (D : va_G) (h0 : Nat) (n0 : Nm) (p1 : Int64) : sp_M l yX1_exclude wsX1_exclude ({ frames := 1, cells := 0, slots := 0, locals := 22 }) D [.ref h0, .long p1] ([(h0, .inr (1, nm_fs n0))]) [] (sp_Qz D ([(h0, .inr (1, nm_fs n0))]) ([(h0, .inr (1, nm_fs ((f_X1_exclude n0 p1).1)))]) [] ((f_X1_exclude n0 p1).2)) := by
  refine sp_ofW (cc := cX1_exclude) (nL := 3) (ret := (some .boolean)) (own := RX1) (by decide) rfl rfl (Nat.le_of_ble_eq_true rfl) ?_
  intro p e s m below meth c A ls hAe hnm C hA hP hK hD hS hl
  have hx := C.1
  have hb := C.2.1
  have hown := C.2.2.2.2.1
  have hts := C.2.2.2.2.2.1
  have hl : lv_has ls 3 [(0, .ref h0), (1, .long p1)] := hl
  have hi1 : ∀ w ∈ u_ws RX1 TX1 6, w ∈ wsX1_exclude := fun w h => List.mem_cons_of_mem _ (inX1 w h)
  have hk0 := hts _ (List.mem_cons_of_mem _ wm_23)
  have hk1 := hts _ (List.mem_cons_of_mem _ wm_24)
  have hk2 := hts _ (List.mem_cons_of_mem _ wm_25)
  have hk3 := hts _ (List.mem_cons_of_mem _ wm_26)
  refine lv_aload_n hx hb dX1_exclude_0 rfl (lv_at hl 0 rfl) ?_
  refine lv_lload_n hx hb dX1_exclude_1 rfl (lv_at hl 1 rfl) ?_
  refine sp_callz (sp_runV (As := [.long p1]) (rest := []) C (c_X1_isExactly l D h0 n0 p1) (cwV 1 hts (gV wG_c wm_51 wm_52 wm_53 wm_31 wm_50) rfl rfl rfl (by decide +kernel) ⟨Nat.le_of_ble_eq_true rfl, Nat.le_of_ble_eq_true rfl⟩) hK hP hD [0] (by decide) rfl [] rfl 0 1 rfl rfl rfl rfl hl.1 rfl (Nat.le_of_ble_eq_true rfl) dX1_exclude_2 ⟨Nat.le_of_ble_eq_true rfl, Nat.le_of_ble_eq_true rfl⟩) hP hD hS hA [0] rfl (sp_fc sp_f0) (fun H locs z1 hP hD hS => ?_)
  have hP : va_P D vwCl ([(h0, .inr (1, nm_fs n0))]) H := hP
  have hD : va_D A ([(h0, .inr (1, nm_fs n0))]) := hD
  refine lv_if_eq (tgt := 10) hx hb dX1_exclude_5 (by decide) (fun c2 => ?_) (fun c2 => ?_)
  · refine lv_aload_n hx hb dX1_exclude_10 rfl (lv_at hl 0 rfl) ?_
    refine va_get (D := D) (ci := 1) (v := .long n0.2.2.1) (C := RX1) (T := TX1) (N := 6) hx hb hts hi1 hown hK hP 0 rfl rfl 2 (by decide) hk0 (fun _ h9 => h9) rfl dX1_exclude_11 ?_
    refine lv_lload_n hx hb dX1_exclude_14 rfl (lv_at hl 1 rfl) ?_
    refine W.lcmp hx hb dX1_exclude_15 ?_
    refine lv_if_ne (tgt := 29) hx hb dX1_exclude_16 (by decide) (fun c3 => ?_) (fun c3 => ?_)
    · refine lv_aload_n hx hb dX1_exclude_29 rfl (lv_at hl 0 rfl) ?_
      refine va_get (D := D) (ci := 1) (v := .long n0.2.2.2.1) (C := RX1) (T := TX1) (N := 6) hx hb hts hi1 hown hK hP 0 rfl rfl 3 (by decide) hk1 (fun _ h9 => h9) rfl dX1_exclude_30 ?_
      refine lv_lload_n hx hb dX1_exclude_33 rfl (lv_at hl 1 rfl) ?_
      refine W.lcmp hx hb dX1_exclude_34 ?_
      refine lv_if_ne (tgt := 48) hx hb dX1_exclude_35 (by decide) (fun c4 => ?_) (fun c4 => ?_)
      · refine lv_aload_n hx hb dX1_exclude_48 rfl (lv_at hl 0 rfl) ?_
        refine va_get (D := D) (ci := 1) (v := .long n0.2.2.2.2.1) (C := RX1) (T := TX1) (N := 6) hx hb hts hi1 hown hK hP 0 rfl rfl 4 (by decide) hk2 (fun _ h9 => h9) rfl dX1_exclude_49 ?_
        refine lv_lload_n hx hb dX1_exclude_52 rfl (lv_at hl 1 rfl) ?_
        refine W.lcmp hx hb dX1_exclude_53 ?_
        refine lv_if_ne (tgt := 67) hx hb dX1_exclude_54 (by decide) (fun c5 => ?_) (fun c5 => ?_)
        · refine lv_aload_n hx hb dX1_exclude_67 rfl (lv_at hl 0 rfl) ?_
          refine va_get (D := D) (ci := 1) (v := .long n0.2.2.2.2.2) (C := RX1) (T := TX1) (N := 6) hx hb hts hi1 hown hK hP 0 rfl rfl 5 (by decide) hk3 (fun _ h9 => h9) rfl dX1_exclude_68 ?_
          refine lv_lload_n hx hb dX1_exclude_71 rfl (lv_at hl 1 rfl) ?_
          refine W.lcmp hx hb dX1_exclude_72 ?_
          refine lv_if_ne (tgt := 86) hx hb dX1_exclude_73 (by decide) (fun c6 => ?_) (fun c6 => ?_)
          · refine lv_iconst (v := 1) hx hb dX1_exclude_86 (by decide) ?_
            have e9 : f_X1_exclude n0 p1 = (n0, 1) := (if_pos c2).trans ((if_neg c3).trans ((if_neg c4).trans ((if_neg c5).trans ((if_neg c6).trans (rfl)))))
            rw [e9]
            exact sp_zret C hAe hP hK hD hS (Or.inr rfl) dX1_exclude_87
          · refine lv_aload_n hx hb dX1_exclude_76 rfl (lv_at hl 0 rfl) ?_
            refine lv_dup hx hb dX1_exclude_77 rfl ?_
            refine va_get (D := D) (ci := 1) (v := .long n0.2.2.2.2.2) (C := RX1) (T := TX1) (N := 6) hx hb hts hi1 hown hK hP 0 rfl rfl 5 (by decide) hk3 (fun _ h9 => h9) rfl dX1_exclude_78 ?_
            refine lv_lconst (v := 1) hx hb dX1_exclude_81 (by decide) ?_
            refine lv_lsub hx hb dX1_exclude_82 ?_
            refine va_put (D := D) (ci := 1) (v := .long (n0.2.2.2.2.2 - 1)) (ty := .long) (C := RX1) (T := TX1) (N := 6) hx hb hts hi1 tyX1 tyX1_ok nmX1 hown hK hP hD hS 0 rfl rfl 5 (by decide) hk3 (fun _ h9 => h9) rfl (by decide +kernel) rfl rfl (Nat.le_of_ble_eq_true rfl) dX1_exclude_83 (fun H locs hP hD hS => ?_)
            have hP : va_P D vwCl ([(h0, .inr (1, nm_fs (n0.1, n0.2.1, n0.2.2.1, n0.2.2.2.1, n0.2.2.2.2.1, (n0.2.2.2.2.2 - 1))))]) H := hP
            have hD : va_D A ([(h0, .inr (1, nm_fs (n0.1, n0.2.1, n0.2.2.1, n0.2.2.2.1, n0.2.2.2.2.1, (n0.2.2.2.2.2 - 1))))]) := hD
            refine lv_iconst (v := 1) hx hb dX1_exclude_86 (by decide) ?_
            have e9 : f_X1_exclude n0 p1 = ((n0.1, n0.2.1, n0.2.2.1, n0.2.2.2.1, n0.2.2.2.2.1, (n0.2.2.2.2.2 - 1)), 1) := (if_pos c2).trans ((if_neg c3).trans ((if_neg c4).trans ((if_neg c5).trans ((if_pos c6).trans (rfl)))))
            rw [e9]
            exact sp_zret C hAe hP hK hD hS (Or.inr rfl) dX1_exclude_87
        · refine lv_aload_n hx hb dX1_exclude_57 rfl (lv_at hl 0 rfl) ?_
          refine lv_dup hx hb dX1_exclude_58 rfl ?_
          refine va_get (D := D) (ci := 1) (v := .long n0.2.2.2.2.1) (C := RX1) (T := TX1) (N := 6) hx hb hts hi1 hown hK hP 0 rfl rfl 4 (by decide) hk2 (fun _ h9 => h9) rfl dX1_exclude_59 ?_
          refine lv_lconst (v := 1) hx hb dX1_exclude_62 (by decide) ?_
          refine lv_ladd hx hb dX1_exclude_63 ?_
          refine va_put (D := D) (ci := 1) (v := .long (n0.2.2.2.2.1 + 1)) (ty := .long) (C := RX1) (T := TX1) (N := 6) hx hb hts hi1 tyX1 tyX1_ok nmX1 hown hK hP hD hS 0 rfl rfl 4 (by decide) hk2 (fun _ h9 => h9) rfl (by decide +kernel) rfl rfl (Nat.le_of_ble_eq_true rfl) dX1_exclude_64 (fun H locs hP hD hS => ?_)
          have hP : va_P D vwCl ([(h0, .inr (1, nm_fs (n0.1, n0.2.1, n0.2.2.1, n0.2.2.2.1, (n0.2.2.2.2.1 + 1), n0.2.2.2.2.2)))]) H := hP
          have hD : va_D A ([(h0, .inr (1, nm_fs (n0.1, n0.2.1, n0.2.2.1, n0.2.2.2.1, (n0.2.2.2.2.1 + 1), n0.2.2.2.2.2)))]) := hD
          refine lv_aload_n hx hb dX1_exclude_67 rfl (lv_at hl 0 rfl) ?_
          refine va_get (D := D) (ci := 1) (v := .long n0.2.2.2.2.2) (C := RX1) (T := TX1) (N := 6) hx hb hts hi1 hown hK hP 0 rfl rfl 5 (by decide) hk3 (fun _ h9 => h9) rfl dX1_exclude_68 ?_
          refine lv_lload_n hx hb dX1_exclude_71 rfl (lv_at hl 1 rfl) ?_
          refine W.lcmp hx hb dX1_exclude_72 ?_
          refine lv_if_ne (tgt := 86) hx hb dX1_exclude_73 (by decide) (fun c7 => ?_) (fun c7 => ?_)
          · refine lv_iconst (v := 1) hx hb dX1_exclude_86 (by decide) ?_
            have e9 : f_X1_exclude n0 p1 = ((n0.1, n0.2.1, n0.2.2.1, n0.2.2.2.1, (n0.2.2.2.2.1 + 1), n0.2.2.2.2.2), 1) := (if_pos c2).trans ((if_neg c3).trans ((if_neg c4).trans ((if_pos c5).trans ((if_neg c7).trans (rfl)))))
            rw [e9]
            exact sp_zret C hAe hP hK hD hS (Or.inr rfl) dX1_exclude_87
          · refine lv_aload_n hx hb dX1_exclude_76 rfl (lv_at hl 0 rfl) ?_
            refine lv_dup hx hb dX1_exclude_77 rfl ?_
            refine va_get (D := D) (ci := 1) (v := .long n0.2.2.2.2.2) (C := RX1) (T := TX1) (N := 6) hx hb hts hi1 hown hK hP 0 rfl rfl 5 (by decide) hk3 (fun _ h9 => h9) rfl dX1_exclude_78 ?_
            refine lv_lconst (v := 1) hx hb dX1_exclude_81 (by decide) ?_
            refine lv_lsub hx hb dX1_exclude_82 ?_
            refine va_put (D := D) (ci := 1) (v := .long (n0.2.2.2.2.2 - 1)) (ty := .long) (C := RX1) (T := TX1) (N := 6) hx hb hts hi1 tyX1 tyX1_ok nmX1 hown hK hP hD hS 0 rfl rfl 5 (by decide) hk3 (fun _ h9 => h9) rfl (by decide +kernel) rfl rfl (Nat.le_of_ble_eq_true rfl) dX1_exclude_83 (fun H locs hP hD hS => ?_)
            have hP : va_P D vwCl ([(h0, .inr (1, nm_fs (n0.1, n0.2.1, n0.2.2.1, n0.2.2.2.1, (n0.2.2.2.2.1 + 1), (n0.2.2.2.2.2 - 1))))]) H := hP
            have hD : va_D A ([(h0, .inr (1, nm_fs (n0.1, n0.2.1, n0.2.2.1, n0.2.2.2.1, (n0.2.2.2.2.1 + 1), (n0.2.2.2.2.2 - 1))))]) := hD
            refine lv_iconst (v := 1) hx hb dX1_exclude_86 (by decide) ?_
            have e9 : f_X1_exclude n0 p1 = ((n0.1, n0.2.1, n0.2.2.1, n0.2.2.2.1, (n0.2.2.2.2.1 + 1), (n0.2.2.2.2.2 - 1)), 1) := (if_pos c2).trans ((if_neg c3).trans ((if_neg c4).trans ((if_pos c5).trans ((if_pos c7).trans (rfl)))))
            rw [e9]
            exact sp_zret C hAe hP hK hD hS (Or.inr rfl) dX1_exclude_87
      · refine lv_aload_n hx hb dX1_exclude_38 rfl (lv_at hl 0 rfl) ?_
        refine lv_dup hx hb dX1_exclude_39 rfl ?_
        refine va_get (D := D) (ci := 1) (v := .long n0.2.2.2.1) (C := RX1) (T := TX1) (N := 6) hx hb hts hi1 hown hK hP 0 rfl rfl 3 (by decide) hk1 (fun _ h9 => h9) rfl dX1_exclude_40 ?_
        refine lv_lconst (v := 1) hx hb dX1_exclude_43 (by decide) ?_
        refine lv_lsub hx hb dX1_exclude_44 ?_
        refine va_put (D := D) (ci := 1) (v := .long (n0.2.2.2.1 - 1)) (ty := .long) (C := RX1) (T := TX1) (N := 6) hx hb hts hi1 tyX1 tyX1_ok nmX1 hown hK hP hD hS 0 rfl rfl 3 (by decide) hk1 (fun _ h9 => h9) rfl (by decide +kernel) rfl rfl (Nat.le_of_ble_eq_true rfl) dX1_exclude_45 (fun H locs hP hD hS => ?_)
        have hP : va_P D vwCl ([(h0, .inr (1, nm_fs (n0.1, n0.2.1, n0.2.2.1, (n0.2.2.2.1 - 1), n0.2.2.2.2.1, n0.2.2.2.2.2)))]) H := hP
        have hD : va_D A ([(h0, .inr (1, nm_fs (n0.1, n0.2.1, n0.2.2.1, (n0.2.2.2.1 - 1), n0.2.2.2.2.1, n0.2.2.2.2.2)))]) := hD
        refine lv_aload_n hx hb dX1_exclude_48 rfl (lv_at hl 0 rfl) ?_
        refine va_get (D := D) (ci := 1) (v := .long n0.2.2.2.2.1) (C := RX1) (T := TX1) (N := 6) hx hb hts hi1 hown hK hP 0 rfl rfl 4 (by decide) hk2 (fun _ h9 => h9) rfl dX1_exclude_49 ?_
        refine lv_lload_n hx hb dX1_exclude_52 rfl (lv_at hl 1 rfl) ?_
        refine W.lcmp hx hb dX1_exclude_53 ?_
        refine lv_if_ne (tgt := 67) hx hb dX1_exclude_54 (by decide) (fun c8 => ?_) (fun c8 => ?_)
        · refine lv_aload_n hx hb dX1_exclude_67 rfl (lv_at hl 0 rfl) ?_
          refine va_get (D := D) (ci := 1) (v := .long n0.2.2.2.2.2) (C := RX1) (T := TX1) (N := 6) hx hb hts hi1 hown hK hP 0 rfl rfl 5 (by decide) hk3 (fun _ h9 => h9) rfl dX1_exclude_68 ?_
          refine lv_lload_n hx hb dX1_exclude_71 rfl (lv_at hl 1 rfl) ?_
          refine W.lcmp hx hb dX1_exclude_72 ?_
          refine lv_if_ne (tgt := 86) hx hb dX1_exclude_73 (by decide) (fun c9 => ?_) (fun c9 => ?_)
          · refine lv_iconst (v := 1) hx hb dX1_exclude_86 (by decide) ?_
            have e9 : f_X1_exclude n0 p1 = ((n0.1, n0.2.1, n0.2.2.1, (n0.2.2.2.1 - 1), n0.2.2.2.2.1, n0.2.2.2.2.2), 1) := (if_pos c2).trans ((if_neg c3).trans ((if_pos c4).trans ((if_neg c8).trans ((if_neg c9).trans (rfl)))))
            rw [e9]
            exact sp_zret C hAe hP hK hD hS (Or.inr rfl) dX1_exclude_87
          · refine lv_aload_n hx hb dX1_exclude_76 rfl (lv_at hl 0 rfl) ?_
            refine lv_dup hx hb dX1_exclude_77 rfl ?_
            refine va_get (D := D) (ci := 1) (v := .long n0.2.2.2.2.2) (C := RX1) (T := TX1) (N := 6) hx hb hts hi1 hown hK hP 0 rfl rfl 5 (by decide) hk3 (fun _ h9 => h9) rfl dX1_exclude_78 ?_
            refine lv_lconst (v := 1) hx hb dX1_exclude_81 (by decide) ?_
            refine lv_lsub hx hb dX1_exclude_82 ?_
            refine va_put (D := D) (ci := 1) (v := .long (n0.2.2.2.2.2 - 1)) (ty := .long) (C := RX1) (T := TX1) (N := 6) hx hb hts hi1 tyX1 tyX1_ok nmX1 hown hK hP hD hS 0 rfl rfl 5 (by decide) hk3 (fun _ h9 => h9) rfl (by decide +kernel) rfl rfl (Nat.le_of_ble_eq_true rfl) dX1_exclude_83 (fun H locs hP hD hS => ?_)
            have hP : va_P D vwCl ([(h0, .inr (1, nm_fs (n0.1, n0.2.1, n0.2.2.1, (n0.2.2.2.1 - 1), n0.2.2.2.2.1, (n0.2.2.2.2.2 - 1))))]) H := hP
            have hD : va_D A ([(h0, .inr (1, nm_fs (n0.1, n0.2.1, n0.2.2.1, (n0.2.2.2.1 - 1), n0.2.2.2.2.1, (n0.2.2.2.2.2 - 1))))]) := hD
            refine lv_iconst (v := 1) hx hb dX1_exclude_86 (by decide) ?_
            have e9 : f_X1_exclude n0 p1 = ((n0.1, n0.2.1, n0.2.2.1, (n0.2.2.2.1 - 1), n0.2.2.2.2.1, (n0.2.2.2.2.2 - 1)), 1) := (if_pos c2).trans ((if_neg c3).trans ((if_pos c4).trans ((if_neg c8).trans ((if_pos c9).trans (rfl)))))
            rw [e9]
            exact sp_zret C hAe hP hK hD hS (Or.inr rfl) dX1_exclude_87
        · refine lv_aload_n hx hb dX1_exclude_57 rfl (lv_at hl 0 rfl) ?_
          refine lv_dup hx hb dX1_exclude_58 rfl ?_
          refine va_get (D := D) (ci := 1) (v := .long n0.2.2.2.2.1) (C := RX1) (T := TX1) (N := 6) hx hb hts hi1 hown hK hP 0 rfl rfl 4 (by decide) hk2 (fun _ h9 => h9) rfl dX1_exclude_59 ?_
          refine lv_lconst (v := 1) hx hb dX1_exclude_62 (by decide) ?_
          refine lv_ladd hx hb dX1_exclude_63 ?_
          refine va_put (D := D) (ci := 1) (v := .long (n0.2.2.2.2.1 + 1)) (ty := .long) (C := RX1) (T := TX1) (N := 6) hx hb hts hi1 tyX1 tyX1_ok nmX1 hown hK hP hD hS 0 rfl rfl 4 (by decide) hk2 (fun _ h9 => h9) rfl (by decide +kernel) rfl rfl (Nat.le_of_ble_eq_true rfl) dX1_exclude_64 (fun H locs hP hD hS => ?_)
          have hP : va_P D vwCl ([(h0, .inr (1, nm_fs (n0.1, n0.2.1, n0.2.2.1, (n0.2.2.2.1 - 1), (n0.2.2.2.2.1 + 1), n0.2.2.2.2.2)))]) H := hP
          have hD : va_D A ([(h0, .inr (1, nm_fs (n0.1, n0.2.1, n0.2.2.1, (n0.2.2.2.1 - 1), (n0.2.2.2.2.1 + 1), n0.2.2.2.2.2)))]) := hD
          refine lv_aload_n hx hb dX1_exclude_67 rfl (lv_at hl 0 rfl) ?_
          refine va_get (D := D) (ci := 1) (v := .long n0.2.2.2.2.2) (C := RX1) (T := TX1) (N := 6) hx hb hts hi1 hown hK hP 0 rfl rfl 5 (by decide) hk3 (fun _ h9 => h9) rfl dX1_exclude_68 ?_
          refine lv_lload_n hx hb dX1_exclude_71 rfl (lv_at hl 1 rfl) ?_
          refine W.lcmp hx hb dX1_exclude_72 ?_
          refine lv_if_ne (tgt := 86) hx hb dX1_exclude_73 (by decide) (fun c10 => ?_) (fun c10 => ?_)
          · refine lv_iconst (v := 1) hx hb dX1_exclude_86 (by decide) ?_
            have e9 : f_X1_exclude n0 p1 = ((n0.1, n0.2.1, n0.2.2.1, (n0.2.2.2.1 - 1), (n0.2.2.2.2.1 + 1), n0.2.2.2.2.2), 1) := (if_pos c2).trans ((if_neg c3).trans ((if_pos c4).trans ((if_pos c8).trans ((if_neg c10).trans (rfl)))))
            rw [e9]
            exact sp_zret C hAe hP hK hD hS (Or.inr rfl) dX1_exclude_87
          · refine lv_aload_n hx hb dX1_exclude_76 rfl (lv_at hl 0 rfl) ?_
            refine lv_dup hx hb dX1_exclude_77 rfl ?_
            refine va_get (D := D) (ci := 1) (v := .long n0.2.2.2.2.2) (C := RX1) (T := TX1) (N := 6) hx hb hts hi1 hown hK hP 0 rfl rfl 5 (by decide) hk3 (fun _ h9 => h9) rfl dX1_exclude_78 ?_
            refine lv_lconst (v := 1) hx hb dX1_exclude_81 (by decide) ?_
            refine lv_lsub hx hb dX1_exclude_82 ?_
            refine va_put (D := D) (ci := 1) (v := .long (n0.2.2.2.2.2 - 1)) (ty := .long) (C := RX1) (T := TX1) (N := 6) hx hb hts hi1 tyX1 tyX1_ok nmX1 hown hK hP hD hS 0 rfl rfl 5 (by decide) hk3 (fun _ h9 => h9) rfl (by decide +kernel) rfl rfl (Nat.le_of_ble_eq_true rfl) dX1_exclude_83 (fun H locs hP hD hS => ?_)
            have hP : va_P D vwCl ([(h0, .inr (1, nm_fs (n0.1, n0.2.1, n0.2.2.1, (n0.2.2.2.1 - 1), (n0.2.2.2.2.1 + 1), (n0.2.2.2.2.2 - 1))))]) H := hP
            have hD : va_D A ([(h0, .inr (1, nm_fs (n0.1, n0.2.1, n0.2.2.1, (n0.2.2.2.1 - 1), (n0.2.2.2.2.1 + 1), (n0.2.2.2.2.2 - 1))))]) := hD
            refine lv_iconst (v := 1) hx hb dX1_exclude_86 (by decide) ?_
            have e9 : f_X1_exclude n0 p1 = ((n0.1, n0.2.1, n0.2.2.1, (n0.2.2.2.1 - 1), (n0.2.2.2.2.1 + 1), (n0.2.2.2.2.2 - 1)), 1) := (if_pos c2).trans ((if_neg c3).trans ((if_pos c4).trans ((if_pos c8).trans ((if_pos c10).trans (rfl)))))
            rw [e9]
            exact sp_zret C hAe hP hK hD hS (Or.inr rfl) dX1_exclude_87
    · refine lv_aload_n hx hb dX1_exclude_19 rfl (lv_at hl 0 rfl) ?_
      refine lv_dup hx hb dX1_exclude_20 rfl ?_
      refine va_get (D := D) (ci := 1) (v := .long n0.2.2.1) (C := RX1) (T := TX1) (N := 6) hx hb hts hi1 hown hK hP 0 rfl rfl 2 (by decide) hk0 (fun _ h9 => h9) rfl dX1_exclude_21 ?_
      refine lv_lconst (v := 1) hx hb dX1_exclude_24 (by decide) ?_
      refine lv_ladd hx hb dX1_exclude_25 ?_
      refine va_put (D := D) (ci := 1) (v := .long (n0.2.2.1 + 1)) (ty := .long) (C := RX1) (T := TX1) (N := 6) hx hb hts hi1 tyX1 tyX1_ok nmX1 hown hK hP hD hS 0 rfl rfl 2 (by decide) hk0 (fun _ h9 => h9) rfl (by decide +kernel) rfl rfl (Nat.le_of_ble_eq_true rfl) dX1_exclude_26 (fun H locs hP hD hS => ?_)
      have hP : va_P D vwCl ([(h0, .inr (1, nm_fs (n0.1, n0.2.1, (n0.2.2.1 + 1), n0.2.2.2.1, n0.2.2.2.2.1, n0.2.2.2.2.2)))]) H := hP
      have hD : va_D A ([(h0, .inr (1, nm_fs (n0.1, n0.2.1, (n0.2.2.1 + 1), n0.2.2.2.1, n0.2.2.2.2.1, n0.2.2.2.2.2)))]) := hD
      refine lv_aload_n hx hb dX1_exclude_29 rfl (lv_at hl 0 rfl) ?_
      refine va_get (D := D) (ci := 1) (v := .long n0.2.2.2.1) (C := RX1) (T := TX1) (N := 6) hx hb hts hi1 hown hK hP 0 rfl rfl 3 (by decide) hk1 (fun _ h9 => h9) rfl dX1_exclude_30 ?_
      refine lv_lload_n hx hb dX1_exclude_33 rfl (lv_at hl 1 rfl) ?_
      refine W.lcmp hx hb dX1_exclude_34 ?_
      refine lv_if_ne (tgt := 48) hx hb dX1_exclude_35 (by decide) (fun c11 => ?_) (fun c11 => ?_)
      · refine lv_aload_n hx hb dX1_exclude_48 rfl (lv_at hl 0 rfl) ?_
        refine va_get (D := D) (ci := 1) (v := .long n0.2.2.2.2.1) (C := RX1) (T := TX1) (N := 6) hx hb hts hi1 hown hK hP 0 rfl rfl 4 (by decide) hk2 (fun _ h9 => h9) rfl dX1_exclude_49 ?_
        refine lv_lload_n hx hb dX1_exclude_52 rfl (lv_at hl 1 rfl) ?_
        refine W.lcmp hx hb dX1_exclude_53 ?_
        refine lv_if_ne (tgt := 67) hx hb dX1_exclude_54 (by decide) (fun c12 => ?_) (fun c12 => ?_)
        · refine lv_aload_n hx hb dX1_exclude_67 rfl (lv_at hl 0 rfl) ?_
          refine va_get (D := D) (ci := 1) (v := .long n0.2.2.2.2.2) (C := RX1) (T := TX1) (N := 6) hx hb hts hi1 hown hK hP 0 rfl rfl 5 (by decide) hk3 (fun _ h9 => h9) rfl dX1_exclude_68 ?_
          refine lv_lload_n hx hb dX1_exclude_71 rfl (lv_at hl 1 rfl) ?_
          refine W.lcmp hx hb dX1_exclude_72 ?_
          refine lv_if_ne (tgt := 86) hx hb dX1_exclude_73 (by decide) (fun c13 => ?_) (fun c13 => ?_)
          · refine lv_iconst (v := 1) hx hb dX1_exclude_86 (by decide) ?_
            have e9 : f_X1_exclude n0 p1 = ((n0.1, n0.2.1, (n0.2.2.1 + 1), n0.2.2.2.1, n0.2.2.2.2.1, n0.2.2.2.2.2), 1) := (if_pos c2).trans ((if_pos c3).trans ((if_neg c11).trans ((if_neg c12).trans ((if_neg c13).trans (rfl)))))
            rw [e9]
            exact sp_zret C hAe hP hK hD hS (Or.inr rfl) dX1_exclude_87
          · refine lv_aload_n hx hb dX1_exclude_76 rfl (lv_at hl 0 rfl) ?_
            refine lv_dup hx hb dX1_exclude_77 rfl ?_
            refine va_get (D := D) (ci := 1) (v := .long n0.2.2.2.2.2) (C := RX1) (T := TX1) (N := 6) hx hb hts hi1 hown hK hP 0 rfl rfl 5 (by decide) hk3 (fun _ h9 => h9) rfl dX1_exclude_78 ?_
            refine lv_lconst (v := 1) hx hb dX1_exclude_81 (by decide) ?_
            refine lv_lsub hx hb dX1_exclude_82 ?_
            refine va_put (D := D) (ci := 1) (v := .long (n0.2.2.2.2.2 - 1)) (ty := .long) (C := RX1) (T := TX1) (N := 6) hx hb hts hi1 tyX1 tyX1_ok nmX1 hown hK hP hD hS 0 rfl rfl 5 (by decide) hk3 (fun _ h9 => h9) rfl (by decide +kernel) rfl rfl (Nat.le_of_ble_eq_true rfl) dX1_exclude_83 (fun H locs hP hD hS => ?_)
            have hP : va_P D vwCl ([(h0, .inr (1, nm_fs (n0.1, n0.2.1, (n0.2.2.1 + 1), n0.2.2.2.1, n0.2.2.2.2.1, (n0.2.2.2.2.2 - 1))))]) H := hP
            have hD : va_D A ([(h0, .inr (1, nm_fs (n0.1, n0.2.1, (n0.2.2.1 + 1), n0.2.2.2.1, n0.2.2.2.2.1, (n0.2.2.2.2.2 - 1))))]) := hD
            refine lv_iconst (v := 1) hx hb dX1_exclude_86 (by decide) ?_
            have e9 : f_X1_exclude n0 p1 = ((n0.1, n0.2.1, (n0.2.2.1 + 1), n0.2.2.2.1, n0.2.2.2.2.1, (n0.2.2.2.2.2 - 1)), 1) := (if_pos c2).trans ((if_pos c3).trans ((if_neg c11).trans ((if_neg c12).trans ((if_pos c13).trans (rfl)))))
            rw [e9]
            exact sp_zret C hAe hP hK hD hS (Or.inr rfl) dX1_exclude_87
        · refine lv_aload_n hx hb dX1_exclude_57 rfl (lv_at hl 0 rfl) ?_
          refine lv_dup hx hb dX1_exclude_58 rfl ?_
          refine va_get (D := D) (ci := 1) (v := .long n0.2.2.2.2.1) (C := RX1) (T := TX1) (N := 6) hx hb hts hi1 hown hK hP 0 rfl rfl 4 (by decide) hk2 (fun _ h9 => h9) rfl dX1_exclude_59 ?_
          refine lv_lconst (v := 1) hx hb dX1_exclude_62 (by decide) ?_
          refine lv_ladd hx hb dX1_exclude_63 ?_
          refine va_put (D := D) (ci := 1) (v := .long (n0.2.2.2.2.1 + 1)) (ty := .long) (C := RX1) (T := TX1) (N := 6) hx hb hts hi1 tyX1 tyX1_ok nmX1 hown hK hP hD hS 0 rfl rfl 4 (by decide) hk2 (fun _ h9 => h9) rfl (by decide +kernel) rfl rfl (Nat.le_of_ble_eq_true rfl) dX1_exclude_64 (fun H locs hP hD hS => ?_)
          have hP : va_P D vwCl ([(h0, .inr (1, nm_fs (n0.1, n0.2.1, (n0.2.2.1 + 1), n0.2.2.2.1, (n0.2.2.2.2.1 + 1), n0.2.2.2.2.2)))]) H := hP
          have hD : va_D A ([(h0, .inr (1, nm_fs (n0.1, n0.2.1, (n0.2.2.1 + 1), n0.2.2.2.1, (n0.2.2.2.2.1 + 1), n0.2.2.2.2.2)))]) := hD
          refine lv_aload_n hx hb dX1_exclude_67 rfl (lv_at hl 0 rfl) ?_
          refine va_get (D := D) (ci := 1) (v := .long n0.2.2.2.2.2) (C := RX1) (T := TX1) (N := 6) hx hb hts hi1 hown hK hP 0 rfl rfl 5 (by decide) hk3 (fun _ h9 => h9) rfl dX1_exclude_68 ?_
          refine lv_lload_n hx hb dX1_exclude_71 rfl (lv_at hl 1 rfl) ?_
          refine W.lcmp hx hb dX1_exclude_72 ?_
          refine lv_if_ne (tgt := 86) hx hb dX1_exclude_73 (by decide) (fun c14 => ?_) (fun c14 => ?_)
          · refine lv_iconst (v := 1) hx hb dX1_exclude_86 (by decide) ?_
            have e9 : f_X1_exclude n0 p1 = ((n0.1, n0.2.1, (n0.2.2.1 + 1), n0.2.2.2.1, (n0.2.2.2.2.1 + 1), n0.2.2.2.2.2), 1) := (if_pos c2).trans ((if_pos c3).trans ((if_neg c11).trans ((if_pos c12).trans ((if_neg c14).trans (rfl)))))
            rw [e9]
            exact sp_zret C hAe hP hK hD hS (Or.inr rfl) dX1_exclude_87
          · refine lv_aload_n hx hb dX1_exclude_76 rfl (lv_at hl 0 rfl) ?_
            refine lv_dup hx hb dX1_exclude_77 rfl ?_
            refine va_get (D := D) (ci := 1) (v := .long n0.2.2.2.2.2) (C := RX1) (T := TX1) (N := 6) hx hb hts hi1 hown hK hP 0 rfl rfl 5 (by decide) hk3 (fun _ h9 => h9) rfl dX1_exclude_78 ?_
            refine lv_lconst (v := 1) hx hb dX1_exclude_81 (by decide) ?_
            refine lv_lsub hx hb dX1_exclude_82 ?_
            refine va_put (D := D) (ci := 1) (v := .long (n0.2.2.2.2.2 - 1)) (ty := .long) (C := RX1) (T := TX1) (N := 6) hx hb hts hi1 tyX1 tyX1_ok nmX1 hown hK hP hD hS 0 rfl rfl 5 (by decide) hk3 (fun _ h9 => h9) rfl (by decide +kernel) rfl rfl (Nat.le_of_ble_eq_true rfl) dX1_exclude_83 (fun H locs hP hD hS => ?_)
            have hP : va_P D vwCl ([(h0, .inr (1, nm_fs (n0.1, n0.2.1, (n0.2.2.1 + 1), n0.2.2.2.1, (n0.2.2.2.2.1 + 1), (n0.2.2.2.2.2 - 1))))]) H := hP
            have hD : va_D A ([(h0, .inr (1, nm_fs (n0.1, n0.2.1, (n0.2.2.1 + 1), n0.2.2.2.1, (n0.2.2.2.2.1 + 1), (n0.2.2.2.2.2 - 1))))]) := hD
            refine lv_iconst (v := 1) hx hb dX1_exclude_86 (by decide) ?_
            have e9 : f_X1_exclude n0 p1 = ((n0.1, n0.2.1, (n0.2.2.1 + 1), n0.2.2.2.1, (n0.2.2.2.2.1 + 1), (n0.2.2.2.2.2 - 1)), 1) := (if_pos c2).trans ((if_pos c3).trans ((if_neg c11).trans ((if_pos c12).trans ((if_pos c14).trans (rfl)))))
            rw [e9]
            exact sp_zret C hAe hP hK hD hS (Or.inr rfl) dX1_exclude_87
      · refine lv_aload_n hx hb dX1_exclude_38 rfl (lv_at hl 0 rfl) ?_
        refine lv_dup hx hb dX1_exclude_39 rfl ?_
        refine va_get (D := D) (ci := 1) (v := .long n0.2.2.2.1) (C := RX1) (T := TX1) (N := 6) hx hb hts hi1 hown hK hP 0 rfl rfl 3 (by decide) hk1 (fun _ h9 => h9) rfl dX1_exclude_40 ?_
        refine lv_lconst (v := 1) hx hb dX1_exclude_43 (by decide) ?_
        refine lv_lsub hx hb dX1_exclude_44 ?_
        refine va_put (D := D) (ci := 1) (v := .long (n0.2.2.2.1 - 1)) (ty := .long) (C := RX1) (T := TX1) (N := 6) hx hb hts hi1 tyX1 tyX1_ok nmX1 hown hK hP hD hS 0 rfl rfl 3 (by decide) hk1 (fun _ h9 => h9) rfl (by decide +kernel) rfl rfl (Nat.le_of_ble_eq_true rfl) dX1_exclude_45 (fun H locs hP hD hS => ?_)
        have hP : va_P D vwCl ([(h0, .inr (1, nm_fs (n0.1, n0.2.1, (n0.2.2.1 + 1), (n0.2.2.2.1 - 1), n0.2.2.2.2.1, n0.2.2.2.2.2)))]) H := hP
        have hD : va_D A ([(h0, .inr (1, nm_fs (n0.1, n0.2.1, (n0.2.2.1 + 1), (n0.2.2.2.1 - 1), n0.2.2.2.2.1, n0.2.2.2.2.2)))]) := hD
        refine lv_aload_n hx hb dX1_exclude_48 rfl (lv_at hl 0 rfl) ?_
        refine va_get (D := D) (ci := 1) (v := .long n0.2.2.2.2.1) (C := RX1) (T := TX1) (N := 6) hx hb hts hi1 hown hK hP 0 rfl rfl 4 (by decide) hk2 (fun _ h9 => h9) rfl dX1_exclude_49 ?_
        refine lv_lload_n hx hb dX1_exclude_52 rfl (lv_at hl 1 rfl) ?_
        refine W.lcmp hx hb dX1_exclude_53 ?_
        refine lv_if_ne (tgt := 67) hx hb dX1_exclude_54 (by decide) (fun c15 => ?_) (fun c15 => ?_)
        · refine lv_aload_n hx hb dX1_exclude_67 rfl (lv_at hl 0 rfl) ?_
          refine va_get (D := D) (ci := 1) (v := .long n0.2.2.2.2.2) (C := RX1) (T := TX1) (N := 6) hx hb hts hi1 hown hK hP 0 rfl rfl 5 (by decide) hk3 (fun _ h9 => h9) rfl dX1_exclude_68 ?_
          refine lv_lload_n hx hb dX1_exclude_71 rfl (lv_at hl 1 rfl) ?_
          refine W.lcmp hx hb dX1_exclude_72 ?_
          refine lv_if_ne (tgt := 86) hx hb dX1_exclude_73 (by decide) (fun c16 => ?_) (fun c16 => ?_)
          · refine lv_iconst (v := 1) hx hb dX1_exclude_86 (by decide) ?_
            have e9 : f_X1_exclude n0 p1 = ((n0.1, n0.2.1, (n0.2.2.1 + 1), (n0.2.2.2.1 - 1), n0.2.2.2.2.1, n0.2.2.2.2.2), 1) := (if_pos c2).trans ((if_pos c3).trans ((if_pos c11).trans ((if_neg c15).trans ((if_neg c16).trans (rfl)))))
            rw [e9]
            exact sp_zret C hAe hP hK hD hS (Or.inr rfl) dX1_exclude_87
          · refine lv_aload_n hx hb dX1_exclude_76 rfl (lv_at hl 0 rfl) ?_
            refine lv_dup hx hb dX1_exclude_77 rfl ?_
            refine va_get (D := D) (ci := 1) (v := .long n0.2.2.2.2.2) (C := RX1) (T := TX1) (N := 6) hx hb hts hi1 hown hK hP 0 rfl rfl 5 (by decide) hk3 (fun _ h9 => h9) rfl dX1_exclude_78 ?_
            refine lv_lconst (v := 1) hx hb dX1_exclude_81 (by decide) ?_
            refine lv_lsub hx hb dX1_exclude_82 ?_
            refine va_put (D := D) (ci := 1) (v := .long (n0.2.2.2.2.2 - 1)) (ty := .long) (C := RX1) (T := TX1) (N := 6) hx hb hts hi1 tyX1 tyX1_ok nmX1 hown hK hP hD hS 0 rfl rfl 5 (by decide) hk3 (fun _ h9 => h9) rfl (by decide +kernel) rfl rfl (Nat.le_of_ble_eq_true rfl) dX1_exclude_83 (fun H locs hP hD hS => ?_)
            have hP : va_P D vwCl ([(h0, .inr (1, nm_fs (n0.1, n0.2.1, (n0.2.2.1 + 1), (n0.2.2.2.1 - 1), n0.2.2.2.2.1, (n0.2.2.2.2.2 - 1))))]) H := hP
            have hD : va_D A ([(h0, .inr (1, nm_fs (n0.1, n0.2.1, (n0.2.2.1 + 1), (n0.2.2.2.1 - 1), n0.2.2.2.2.1, (n0.2.2.2.2.2 - 1))))]) := hD
            refine lv_iconst (v := 1) hx hb dX1_exclude_86 (by decide) ?_
            have e9 : f_X1_exclude n0 p1 = ((n0.1, n0.2.1, (n0.2.2.1 + 1), (n0.2.2.2.1 - 1), n0.2.2.2.2.1, (n0.2.2.2.2.2 - 1)), 1) := (if_pos c2).trans ((if_pos c3).trans ((if_pos c11).trans ((if_neg c15).trans ((if_pos c16).trans (rfl)))))
            rw [e9]
            exact sp_zret C hAe hP hK hD hS (Or.inr rfl) dX1_exclude_87
        · refine lv_aload_n hx hb dX1_exclude_57 rfl (lv_at hl 0 rfl) ?_
          refine lv_dup hx hb dX1_exclude_58 rfl ?_
          refine va_get (D := D) (ci := 1) (v := .long n0.2.2.2.2.1) (C := RX1) (T := TX1) (N := 6) hx hb hts hi1 hown hK hP 0 rfl rfl 4 (by decide) hk2 (fun _ h9 => h9) rfl dX1_exclude_59 ?_
          refine lv_lconst (v := 1) hx hb dX1_exclude_62 (by decide) ?_
          refine lv_ladd hx hb dX1_exclude_63 ?_
          refine va_put (D := D) (ci := 1) (v := .long (n0.2.2.2.2.1 + 1)) (ty := .long) (C := RX1) (T := TX1) (N := 6) hx hb hts hi1 tyX1 tyX1_ok nmX1 hown hK hP hD hS 0 rfl rfl 4 (by decide) hk2 (fun _ h9 => h9) rfl (by decide +kernel) rfl rfl (Nat.le_of_ble_eq_true rfl) dX1_exclude_64 (fun H locs hP hD hS => ?_)
          have hP : va_P D vwCl ([(h0, .inr (1, nm_fs (n0.1, n0.2.1, (n0.2.2.1 + 1), (n0.2.2.2.1 - 1), (n0.2.2.2.2.1 + 1), n0.2.2.2.2.2)))]) H := hP
          have hD : va_D A ([(h0, .inr (1, nm_fs (n0.1, n0.2.1, (n0.2.2.1 + 1), (n0.2.2.2.1 - 1), (n0.2.2.2.2.1 + 1), n0.2.2.2.2.2)))]) := hD
          refine lv_aload_n hx hb dX1_exclude_67 rfl (lv_at hl 0 rfl) ?_
          refine va_get (D := D) (ci := 1) (v := .long n0.2.2.2.2.2) (C := RX1) (T := TX1) (N := 6) hx hb hts hi1 hown hK hP 0 rfl rfl 5 (by decide) hk3 (fun _ h9 => h9) rfl dX1_exclude_68 ?_
          refine lv_lload_n hx hb dX1_exclude_71 rfl (lv_at hl 1 rfl) ?_
          refine W.lcmp hx hb dX1_exclude_72 ?_
          refine lv_if_ne (tgt := 86) hx hb dX1_exclude_73 (by decide) (fun c17 => ?_) (fun c17 => ?_)
          · refine lv_iconst (v := 1) hx hb dX1_exclude_86 (by decide) ?_
            have e9 : f_X1_exclude n0 p1 = ((n0.1, n0.2.1, (n0.2.2.1 + 1), (n0.2.2.2.1 - 1), (n0.2.2.2.2.1 + 1), n0.2.2.2.2.2), 1) := (if_pos c2).trans ((if_pos c3).trans ((if_pos c11).trans ((if_pos c15).trans ((if_neg c17).trans (rfl)))))
            rw [e9]
            exact sp_zret C hAe hP hK hD hS (Or.inr rfl) dX1_exclude_87
          · refine lv_aload_n hx hb dX1_exclude_76 rfl (lv_at hl 0 rfl) ?_
            refine lv_dup hx hb dX1_exclude_77 rfl ?_
            refine va_get (D := D) (ci := 1) (v := .long n0.2.2.2.2.2) (C := RX1) (T := TX1) (N := 6) hx hb hts hi1 hown hK hP 0 rfl rfl 5 (by decide) hk3 (fun _ h9 => h9) rfl dX1_exclude_78 ?_
            refine lv_lconst (v := 1) hx hb dX1_exclude_81 (by decide) ?_
            refine lv_lsub hx hb dX1_exclude_82 ?_
            refine va_put (D := D) (ci := 1) (v := .long (n0.2.2.2.2.2 - 1)) (ty := .long) (C := RX1) (T := TX1) (N := 6) hx hb hts hi1 tyX1 tyX1_ok nmX1 hown hK hP hD hS 0 rfl rfl 5 (by decide) hk3 (fun _ h9 => h9) rfl (by decide +kernel) rfl rfl (Nat.le_of_ble_eq_true rfl) dX1_exclude_83 (fun H locs hP hD hS => ?_)
            have hP : va_P D vwCl ([(h0, .inr (1, nm_fs (n0.1, n0.2.1, (n0.2.2.1 + 1), (n0.2.2.2.1 - 1), (n0.2.2.2.2.1 + 1), (n0.2.2.2.2.2 - 1))))]) H := hP
            have hD : va_D A ([(h0, .inr (1, nm_fs (n0.1, n0.2.1, (n0.2.2.1 + 1), (n0.2.2.2.1 - 1), (n0.2.2.2.2.1 + 1), (n0.2.2.2.2.2 - 1))))]) := hD
            refine lv_iconst (v := 1) hx hb dX1_exclude_86 (by decide) ?_
            have e9 : f_X1_exclude n0 p1 = ((n0.1, n0.2.1, (n0.2.2.1 + 1), (n0.2.2.2.1 - 1), (n0.2.2.2.2.1 + 1), (n0.2.2.2.2.2 - 1)), 1) := (if_pos c2).trans ((if_pos c3).trans ((if_pos c11).trans ((if_pos c15).trans ((if_pos c17).trans (rfl)))))
            rw [e9]
            exact sp_zret C hAe hP hK hD hS (Or.inr rfl) dX1_exclude_87
  · refine lv_iconst (v := 0) hx hb dX1_exclude_8 (by decide) ?_
    have e9 : f_X1_exclude n0 p1 = (n0, 0) := (if_neg c2).trans (rfl)
    rw [e9]
    exact sp_zret C hAe hP hK hD hS (Or.inl rfl) dX1_exclude_9
def f_X1_isCrossed (n0 : Nm) : Int32 :=
  if (f_X0_isAbove n0.2.2.1 n0.2.2.2.1) = 0 then (if (lg_cmp n0.2.2.2.2.1 n0.2.2.2.2.2) ≤ 0 then 0
    else 1)
  else 1
set_option maxHeartbeats 4000000 in
set_option maxRecDepth 100000 in
theorem c_X1_isCrossed (l : Launch) (D : va_G) (h0 : Nat) (n0 : Nm) : sp_M l yX1_isCrossed wsX1_isCrossed ({ frames := 1, cells := 0, slots := 0, locals := 23 }) D [.ref h0] ([(h0, .inr (1, nm_fs n0))]) [] (sp_Qz D ([(h0, .inr (1, nm_fs n0))]) ([(h0, .inr (1, nm_fs n0))]) [] (f_X1_isCrossed n0)) := by
  refine sp_ofW (cc := cX1_isCrossed) (nL := 1) (ret := (some .boolean)) (own := RX1) (by decide) rfl rfl (Nat.le_of_ble_eq_true rfl) ?_
  intro p e s m below meth c A ls hAe hnm C hA hP hK hD hS hl
  have hx := C.1
  have hb := C.2.1
  have hown := C.2.2.2.2.1
  have hts := C.2.2.2.2.2.1
  have hl : lv_has ls 1 [(0, .ref h0)] := hl
  have hi1 : ∀ w ∈ u_ws RX1 TX1 6, w ∈ wsX1_isCrossed := fun w h => List.mem_cons_of_mem _ (inX1 w h)
  have hk0 := hts _ (List.mem_cons_of_mem _ wm_23)
  have hk1 := hts _ (List.mem_cons_of_mem _ wm_24)
  have hk2 := hts _ (List.mem_cons_of_mem _ wm_4)
  have hk3 := hts _ (List.mem_cons_of_mem _ wm_3)
  have hk4 := hts _ (List.mem_cons_of_mem _ wm_25)
  have hk5 := hts _ (List.mem_cons_of_mem _ wm_26)
  refine lv_aload_n hx hb dX1_isCrossed_0 rfl (lv_at hl 0 rfl) ?_
  refine va_get (D := D) (ci := 1) (v := .long n0.2.2.1) (C := RX1) (T := TX1) (N := 6) hx hb hts hi1 hown hK hP 0 rfl rfl 2 (by decide) hk0 (fun _ h9 => h9) rfl dX1_isCrossed_1 ?_
  refine lv_aload_n hx hb dX1_isCrossed_4 rfl (lv_at hl 0 rfl) ?_
  refine va_get (D := D) (ci := 1) (v := .long n0.2.2.2.1) (C := RX1) (T := TX1) (N := 6) hx hb hts hi1 hown hK hP 0 rfl rfl 3 (by decide) hk1 (fun _ h9 => h9) rfl dX1_isCrossed_5 ?_
  refine sp_callz (sp_runSN (As := [.long n0.2.2.1, .long n0.2.2.2.1]) (rest := []) C (c_X0_isAbove l D n0.2.2.1 n0.2.2.2.1) ⟨va_cnB 2 hts (gG wG_c wm_1) rfl rfl rfl (C.2.2.2.2.2.2.2.1 (RX1, 48, yX0_isAbove, "RangeDesk") (List.mem_of_getElem? (i := 3) rfl)) hk2 (by decide +kernel) ⟨Nat.le_of_ble_eq_true rfl, Nat.le_of_ble_eq_true rfl⟩, hk3, trivial⟩ hK hP hD [] (by decide) rfl [] rfl rfl hl.1 rfl (Nat.le_of_ble_eq_true rfl) dX1_isCrossed_8 ⟨Nat.le_of_ble_eq_true rfl, Nat.le_of_ble_eq_true rfl⟩) hP hD hS hA [] rfl sp_f0 (fun H locs z1 hP hD hS => ?_)
  have hP : va_P D vwCl ([(h0, .inr (1, nm_fs n0))]) H := hP
  have hD : va_D A ([(h0, .inr (1, nm_fs n0))]) := hD
  refine lv_if_ne (tgt := 26) hx hb dX1_isCrossed_11 (by decide) (fun c2 => ?_) (fun c2 => ?_)
  · refine lv_iconst (v := 1) hx hb dX1_isCrossed_26 (by decide) ?_
    refine lv_goto (tgt := 31) hx hb dX1_isCrossed_27 (by decide) ?_
    have e9 : f_X1_isCrossed n0 = 1 := (if_neg c2).trans (rfl)
    rw [e9]
    exact sp_zret C hAe hP hK hD hS (Or.inr rfl) dX1_isCrossed_31
  · refine lv_aload_n hx hb dX1_isCrossed_14 rfl (lv_at hl 0 rfl) ?_
    refine va_get (D := D) (ci := 1) (v := .long n0.2.2.2.2.1) (C := RX1) (T := TX1) (N := 6) hx hb hts hi1 hown hK hP 0 rfl rfl 4 (by decide) hk4 (fun _ h9 => h9) rfl dX1_isCrossed_15 ?_
    refine lv_aload_n hx hb dX1_isCrossed_18 rfl (lv_at hl 0 rfl) ?_
    refine va_get (D := D) (ci := 1) (v := .long n0.2.2.2.2.2) (C := RX1) (T := TX1) (N := 6) hx hb hts hi1 hown hK hP 0 rfl rfl 5 (by decide) hk5 (fun _ h9 => h9) rfl dX1_isCrossed_19 ?_
    refine W.lcmp hx hb dX1_isCrossed_22 ?_
    refine lv_if_le (tgt := 30) hx hb dX1_isCrossed_23 (by decide) (fun c3 => ?_) (fun c3 => ?_)
    · refine lv_iconst (v := 0) hx hb dX1_isCrossed_30 (by decide) ?_
      have e9 : f_X1_isCrossed n0 = 0 := (if_pos c2).trans ((if_pos c3).trans (rfl))
      rw [e9]
      exact sp_zret C hAe hP hK hD hS (Or.inl rfl) dX1_isCrossed_31
    · refine lv_iconst (v := 1) hx hb dX1_isCrossed_26 (by decide) ?_
      refine lv_goto (tgt := 31) hx hb dX1_isCrossed_27 (by decide) ?_
      have e9 : f_X1_isCrossed n0 = 1 := (if_pos c2).trans ((if_neg c3).trans (rfl))
      rw [e9]
      exact sp_zret C hAe hP hK hD hS (Or.inr rfl) dX1_isCrossed_31
def f_X1_boundByBits (n0 : Nm) : Nm :=
  (f_X1_lowerGreatest (f_X1_raiseLeast n0 n0.1) (f_X1_mayBeOne (f_X1_raiseLeast n0 n0.1)))
set_option maxHeartbeats 4000000 in
set_option maxRecDepth 100000 in
theorem c_X1_boundByBits (l : Launch) (D : va_G) (h0 : Nat) (n0 : Nm) : sp_M l yX1_boundByBits wsX1_boundByBits ({ frames := 2, cells := 0, slots := 0, locals := 45 }) D [.ref h0] ([(h0, .inr (1, nm_fs n0))]) [] (sp_Qv D ([(h0, .inr (1, nm_fs n0))]) ([(h0, .inr (1, nm_fs (f_X1_boundByBits n0)))]) []) := by
  refine sp_ofW (cc := cX1_boundByBits) (nL := 1) (ret := none) (own := RX1) (by decide) rfl rfl (Nat.le_of_ble_eq_true rfl) ?_
  intro p e s m below meth c A ls hAe hnm C hA hP hK hD hS hl
  have hx := C.1
  have hb := C.2.1
  have hown := C.2.2.2.2.1
  have hts := C.2.2.2.2.2.1
  have hl : lv_has ls 1 [(0, .ref h0)] := hl
  have hi1 : ∀ w ∈ u_ws RX1 TX1 6, w ∈ wsX1_boundByBits := fun w h => List.mem_cons_of_mem _ (inX1 w h)
  have hk0 := hts _ (List.mem_cons_of_mem _ wm_21)
  refine lv_aload_n hx hb dX1_boundByBits_0 rfl (lv_at hl 0 rfl) ?_
  refine lv_aload_n hx hb dX1_boundByBits_1 rfl (lv_at hl 0 rfl) ?_
  refine va_get (D := D) (ci := 1) (v := .long n0.1) (C := RX1) (T := TX1) (N := 6) hx hb hts hi1 hown hK hP 0 rfl rfl 0 (by decide) hk0 (fun _ h9 => h9) rfl dX1_boundByBits_2 ?_
  refine sp_callv (sp_runV (As := [.long n0.1]) (rest := []) C (c_X1_raiseLeast l D h0 n0 n0.1) (cwV 1 hts (gV wG_c wm_55 wm_56 wm_57 wm_31 wm_54) rfl rfl rfl (by decide +kernel) ⟨Nat.le_of_ble_eq_true rfl, Nat.le_of_ble_eq_true rfl⟩) hK hP hD [0] (by decide) rfl [] rfl 0 1 rfl rfl rfl rfl hl.1 rfl (Nat.le_of_ble_eq_true rfl) dX1_boundByBits_5 ⟨Nat.le_of_ble_eq_true rfl, Nat.le_of_ble_eq_true rfl⟩) hP hD hS hA [0] rfl (sp_fc sp_f0) (fun H locs hP hD hS => ?_)
  have hP : va_P D vwCl ([(h0, .inr (1, nm_fs (f_X1_raiseLeast n0 n0.1)))]) H := hP
  have hD : va_D A ([(h0, .inr (1, nm_fs (f_X1_raiseLeast n0 n0.1)))]) := hD
  refine lv_aload_n hx hb dX1_boundByBits_8 rfl (lv_at hl 0 rfl) ?_
  refine lv_aload_n hx hb dX1_boundByBits_9 rfl (lv_at hl 0 rfl) ?_
  refine sp_calll (sp_runV (As := []) (rest := [.ref h0]) C (c_X1_mayBeOne l D h0 (f_X1_raiseLeast n0 n0.1)) (cwV 0 hts (gV wG_c wm_59 wm_60 wm_61 wm_31 wm_58) rfl rfl rfl (by decide +kernel) ⟨Nat.le_of_ble_eq_true rfl, Nat.le_of_ble_eq_true rfl⟩) hK hP hD [0] (by decide) rfl [] rfl 0 1 rfl rfl rfl rfl hl.1 rfl (Nat.le_of_ble_eq_true rfl) dX1_boundByBits_10 ⟨Nat.le_of_ble_eq_true rfl, Nat.le_of_ble_eq_true rfl⟩) hP hD hS hA [0] rfl (sp_fc sp_f0) (fun H locs hP hD hS => ?_)
  have hP : va_P D vwCl ([(h0, .inr (1, nm_fs (f_X1_raiseLeast n0 n0.1)))]) H := hP
  have hD : va_D A ([(h0, .inr (1, nm_fs (f_X1_raiseLeast n0 n0.1)))]) := hD
  refine sp_callv (sp_runV (As := [.long (f_X1_mayBeOne (f_X1_raiseLeast n0 n0.1))]) (rest := []) C (c_X1_lowerGreatest l D h0 (f_X1_raiseLeast n0 n0.1) (f_X1_mayBeOne (f_X1_raiseLeast n0 n0.1))) (cwV 1 hts (gV wG_c wm_63 wm_64 wm_65 wm_31 wm_62) rfl rfl rfl (by decide +kernel) ⟨Nat.le_of_ble_eq_true rfl, Nat.le_of_ble_eq_true rfl⟩) hK hP hD [0] (by decide) rfl [] rfl 0 1 rfl rfl rfl rfl hl.1 rfl (Nat.le_of_ble_eq_true rfl) dX1_boundByBits_13 ⟨Nat.le_of_ble_eq_true rfl, Nat.le_of_ble_eq_true rfl⟩) hP hD hS hA [0] rfl (sp_fc sp_f0) (fun H locs hP hD hS => ?_)
  have hP : va_P D vwCl ([(h0, .inr (1, nm_fs (f_X1_lowerGreatest (f_X1_raiseLeast n0 n0.1) (f_X1_mayBeOne (f_X1_raiseLeast n0 n0.1)))))]) H := hP
  have hD : va_D A ([(h0, .inr (1, nm_fs (f_X1_lowerGreatest (f_X1_raiseLeast n0 n0.1) (f_X1_mayBeOne (f_X1_raiseLeast n0 n0.1)))))]) := hD
  have e9 : f_X1_boundByBits n0 = (f_X1_lowerGreatest (f_X1_raiseLeast n0 n0.1) (f_X1_mayBeOne (f_X1_raiseLeast n0 n0.1))) := rfl
  rw [e9]
  exact sp_vret C hAe hP hK hD hS dX1_boundByBits_16
def f_X1_boundSignedByUnsigned (n0 : Nm) : Nm :=
  if (lg_cmp (n0.2.2.1 ^^^ n0.2.2.2.1) 0) < 0 then n0
  else (f_X1_lowerSignedGreatest (f_X1_raiseSignedLeast n0 n0.2.2.1) ((f_X1_raiseSignedLeast n0 n0.2.2.1).2.2.2.1))
set_option maxHeartbeats 4000000 in
set_option maxRecDepth 100000 in
theorem c_X1_boundSignedByUnsigned (l : Launch) (D : va_G) (h0 : Nat) (n0 : Nm) : sp_M l yX1_boundSignedByUnsigned wsX1_boundSignedByUnsigned ({ frames := 2, cells := 0, slots := 0, locals := 38 }) D [.ref h0] ([(h0, .inr (1, nm_fs n0))]) [] (sp_Qv D ([(h0, .inr (1, nm_fs n0))]) ([(h0, .inr (1, nm_fs (f_X1_boundSignedByUnsigned n0)))]) []) := by
  refine sp_ofW (cc := cX1_boundSignedByUnsigned) (nL := 1) (ret := none) (own := RX1) (by decide) rfl rfl (Nat.le_of_ble_eq_true rfl) ?_
  intro p e s m below meth c A ls hAe hnm C hA hP hK hD hS hl
  have hx := C.1
  have hb := C.2.1
  have hown := C.2.2.2.2.1
  have hts := C.2.2.2.2.2.1
  have hl : lv_has ls 1 [(0, .ref h0)] := hl
  have hi1 : ∀ w ∈ u_ws RX1 TX1 6, w ∈ wsX1_boundSignedByUnsigned := fun w h => List.mem_cons_of_mem _ (inX1 w h)
  have hk0 := hts _ (List.mem_cons_of_mem _ wm_23)
  have hk1 := hts _ (List.mem_cons_of_mem _ wm_24)
  refine lv_aload_n hx hb dX1_boundSignedByUnsigned_0 rfl (lv_at hl 0 rfl) ?_
  refine va_get (D := D) (ci := 1) (v := .long n0.2.2.1) (C := RX1) (T := TX1) (N := 6) hx hb hts hi1 hown hK hP 0 rfl rfl 2 (by decide) hk0 (fun _ h9 => h9) rfl dX1_boundSignedByUnsigned_1 ?_
  refine lv_aload_n hx hb dX1_boundSignedByUnsigned_4 rfl (lv_at hl 0 rfl) ?_
  refine va_get (D := D) (ci := 1) (v := .long n0.2.2.2.1) (C := RX1) (T := TX1) (N := 6) hx hb hts hi1 hown hK hP 0 rfl rfl 3 (by decide) hk1 (fun _ h9 => h9) rfl dX1_boundSignedByUnsigned_5 ?_
  refine lv_lxor hx hb dX1_boundSignedByUnsigned_8 ?_
  refine lv_lconst (v := 0) hx hb dX1_boundSignedByUnsigned_9 (by decide) ?_
  refine W.lcmp hx hb dX1_boundSignedByUnsigned_10 ?_
  refine lv_if_lt (tgt := 30) hx hb dX1_boundSignedByUnsigned_11 (by decide) (fun c1 => ?_) (fun c1 => ?_)
  · have e9 : f_X1_boundSignedByUnsigned n0 = n0 := (if_pos c1).trans (rfl)
    rw [e9]
    exact sp_vret C hAe hP hK hD hS dX1_boundSignedByUnsigned_30
  · refine lv_aload_n hx hb dX1_boundSignedByUnsigned_14 rfl (lv_at hl 0 rfl) ?_
    refine lv_aload_n hx hb dX1_boundSignedByUnsigned_15 rfl (lv_at hl 0 rfl) ?_
    refine va_get (D := D) (ci := 1) (v := .long n0.2.2.1) (C := RX1) (T := TX1) (N := 6) hx hb hts hi1 hown hK hP 0 rfl rfl 2 (by decide) hk0 (fun _ h9 => h9) rfl dX1_boundSignedByUnsigned_16 ?_
    refine sp_callv (sp_runV (As := [.long n0.2.2.1]) (rest := []) C (c_X1_raiseSignedLeast l D h0 n0 n0.2.2.1) (cwV 1 hts (gV wG_c wm_67 wm_68 wm_69 wm_31 wm_66) rfl rfl rfl (by decide +kernel) ⟨Nat.le_of_ble_eq_true rfl, Nat.le_of_ble_eq_true rfl⟩) hK hP hD [0] (by decide) rfl [] rfl 0 1 rfl rfl rfl rfl hl.1 rfl (Nat.le_of_ble_eq_true rfl) dX1_boundSignedByUnsigned_19 ⟨Nat.le_of_ble_eq_true rfl, Nat.le_of_ble_eq_true rfl⟩) hP hD hS hA [0] rfl (sp_fc sp_f0) (fun H locs hP hD hS => ?_)
    have hP : va_P D vwCl ([(h0, .inr (1, nm_fs (f_X1_raiseSignedLeast n0 n0.2.2.1)))]) H := hP
    have hD : va_D A ([(h0, .inr (1, nm_fs (f_X1_raiseSignedLeast n0 n0.2.2.1)))]) := hD
    refine lv_aload_n hx hb dX1_boundSignedByUnsigned_22 rfl (lv_at hl 0 rfl) ?_
    refine lv_aload_n hx hb dX1_boundSignedByUnsigned_23 rfl (lv_at hl 0 rfl) ?_
    refine va_get (D := D) (ci := 1) (v := .long ((f_X1_raiseSignedLeast n0 n0.2.2.1).2.2.2.1)) (C := RX1) (T := TX1) (N := 6) hx hb hts hi1 hown hK hP 0 rfl rfl 3 (by decide) hk1 (fun _ h9 => h9) rfl dX1_boundSignedByUnsigned_24 ?_
    refine sp_callv (sp_runV (As := [.long ((f_X1_raiseSignedLeast n0 n0.2.2.1).2.2.2.1)]) (rest := []) C (c_X1_lowerSignedGreatest l D h0 (f_X1_raiseSignedLeast n0 n0.2.2.1) ((f_X1_raiseSignedLeast n0 n0.2.2.1).2.2.2.1)) (cwV 1 hts (gV wG_c wm_71 wm_72 wm_73 wm_31 wm_70) rfl rfl rfl (by decide +kernel) ⟨Nat.le_of_ble_eq_true rfl, Nat.le_of_ble_eq_true rfl⟩) hK hP hD [0] (by decide) rfl [] rfl 0 1 rfl rfl rfl rfl hl.1 rfl (Nat.le_of_ble_eq_true rfl) dX1_boundSignedByUnsigned_27 ⟨Nat.le_of_ble_eq_true rfl, Nat.le_of_ble_eq_true rfl⟩) hP hD hS hA [0] rfl (sp_fc sp_f0) (fun H locs hP hD hS => ?_)
    have hP : va_P D vwCl ([(h0, .inr (1, nm_fs (f_X1_lowerSignedGreatest (f_X1_raiseSignedLeast n0 n0.2.2.1) ((f_X1_raiseSignedLeast n0 n0.2.2.1).2.2.2.1))))]) H := hP
    have hD : va_D A ([(h0, .inr (1, nm_fs (f_X1_lowerSignedGreatest (f_X1_raiseSignedLeast n0 n0.2.2.1) ((f_X1_raiseSignedLeast n0 n0.2.2.1).2.2.2.1))))]) := hD
    have e9 : f_X1_boundSignedByUnsigned n0 = (f_X1_lowerSignedGreatest (f_X1_raiseSignedLeast n0 n0.2.2.1) ((f_X1_raiseSignedLeast n0 n0.2.2.1).2.2.2.1)) := (if_neg c1).trans (rfl)
    rw [e9]
    exact sp_vret C hAe hP hK hD hS dX1_boundSignedByUnsigned_30
def f_X1_boundUnsignedBySigned (n0 : Nm) : Nm :=
  if (lg_cmp (n0.2.2.2.2.1 ^^^ n0.2.2.2.2.2) 0) < 0 then n0
  else (f_X1_lowerGreatest (f_X1_raiseLeast n0 n0.2.2.2.2.1) ((f_X1_raiseLeast n0 n0.2.2.2.2.1).2.2.2.2.2))
set_option maxHeartbeats 4000000 in
set_option maxRecDepth 100000 in
theorem c_X1_boundUnsignedBySigned (l : Launch) (D : va_G) (h0 : Nat) (n0 : Nm) : sp_M l yX1_boundUnsignedBySigned wsX1_boundUnsignedBySigned ({ frames := 2, cells := 0, slots := 0, locals := 45 }) D [.ref h0] ([(h0, .inr (1, nm_fs n0))]) [] (sp_Qv D ([(h0, .inr (1, nm_fs n0))]) ([(h0, .inr (1, nm_fs (f_X1_boundUnsignedBySigned n0)))]) []) := by
  refine sp_ofW (cc := cX1_boundUnsignedBySigned) (nL := 1) (ret := none) (own := RX1) (by decide) rfl rfl (Nat.le_of_ble_eq_true rfl) ?_
  intro p e s m below meth c A ls hAe hnm C hA hP hK hD hS hl
  have hx := C.1
  have hb := C.2.1
  have hown := C.2.2.2.2.1
  have hts := C.2.2.2.2.2.1
  have hl : lv_has ls 1 [(0, .ref h0)] := hl
  have hi1 : ∀ w ∈ u_ws RX1 TX1 6, w ∈ wsX1_boundUnsignedBySigned := fun w h => List.mem_cons_of_mem _ (inX1 w h)
  have hk0 := hts _ (List.mem_cons_of_mem _ wm_25)
  have hk1 := hts _ (List.mem_cons_of_mem _ wm_26)
  refine lv_aload_n hx hb dX1_boundUnsignedBySigned_0 rfl (lv_at hl 0 rfl) ?_
  refine va_get (D := D) (ci := 1) (v := .long n0.2.2.2.2.1) (C := RX1) (T := TX1) (N := 6) hx hb hts hi1 hown hK hP 0 rfl rfl 4 (by decide) hk0 (fun _ h9 => h9) rfl dX1_boundUnsignedBySigned_1 ?_
  refine lv_aload_n hx hb dX1_boundUnsignedBySigned_4 rfl (lv_at hl 0 rfl) ?_
  refine va_get (D := D) (ci := 1) (v := .long n0.2.2.2.2.2) (C := RX1) (T := TX1) (N := 6) hx hb hts hi1 hown hK hP 0 rfl rfl 5 (by decide) hk1 (fun _ h9 => h9) rfl dX1_boundUnsignedBySigned_5 ?_
  refine lv_lxor hx hb dX1_boundUnsignedBySigned_8 ?_
  refine lv_lconst (v := 0) hx hb dX1_boundUnsignedBySigned_9 (by decide) ?_
  refine W.lcmp hx hb dX1_boundUnsignedBySigned_10 ?_
  refine lv_if_lt (tgt := 30) hx hb dX1_boundUnsignedBySigned_11 (by decide) (fun c1 => ?_) (fun c1 => ?_)
  · have e9 : f_X1_boundUnsignedBySigned n0 = n0 := (if_pos c1).trans (rfl)
    rw [e9]
    exact sp_vret C hAe hP hK hD hS dX1_boundUnsignedBySigned_30
  · refine lv_aload_n hx hb dX1_boundUnsignedBySigned_14 rfl (lv_at hl 0 rfl) ?_
    refine lv_aload_n hx hb dX1_boundUnsignedBySigned_15 rfl (lv_at hl 0 rfl) ?_
    refine va_get (D := D) (ci := 1) (v := .long n0.2.2.2.2.1) (C := RX1) (T := TX1) (N := 6) hx hb hts hi1 hown hK hP 0 rfl rfl 4 (by decide) hk0 (fun _ h9 => h9) rfl dX1_boundUnsignedBySigned_16 ?_
    refine sp_callv (sp_runV (As := [.long n0.2.2.2.2.1]) (rest := []) C (c_X1_raiseLeast l D h0 n0 n0.2.2.2.2.1) (cwV 1 hts (gV wG_c wm_55 wm_56 wm_57 wm_31 wm_54) rfl rfl rfl (by decide +kernel) ⟨Nat.le_of_ble_eq_true rfl, Nat.le_of_ble_eq_true rfl⟩) hK hP hD [0] (by decide) rfl [] rfl 0 1 rfl rfl rfl rfl hl.1 rfl (Nat.le_of_ble_eq_true rfl) dX1_boundUnsignedBySigned_19 ⟨Nat.le_of_ble_eq_true rfl, Nat.le_of_ble_eq_true rfl⟩) hP hD hS hA [0] rfl (sp_fc sp_f0) (fun H locs hP hD hS => ?_)
    have hP : va_P D vwCl ([(h0, .inr (1, nm_fs (f_X1_raiseLeast n0 n0.2.2.2.2.1)))]) H := hP
    have hD : va_D A ([(h0, .inr (1, nm_fs (f_X1_raiseLeast n0 n0.2.2.2.2.1)))]) := hD
    refine lv_aload_n hx hb dX1_boundUnsignedBySigned_22 rfl (lv_at hl 0 rfl) ?_
    refine lv_aload_n hx hb dX1_boundUnsignedBySigned_23 rfl (lv_at hl 0 rfl) ?_
    refine va_get (D := D) (ci := 1) (v := .long ((f_X1_raiseLeast n0 n0.2.2.2.2.1).2.2.2.2.2)) (C := RX1) (T := TX1) (N := 6) hx hb hts hi1 hown hK hP 0 rfl rfl 5 (by decide) hk1 (fun _ h9 => h9) rfl dX1_boundUnsignedBySigned_24 ?_
    refine sp_callv (sp_runV (As := [.long ((f_X1_raiseLeast n0 n0.2.2.2.2.1).2.2.2.2.2)]) (rest := []) C (c_X1_lowerGreatest l D h0 (f_X1_raiseLeast n0 n0.2.2.2.2.1) ((f_X1_raiseLeast n0 n0.2.2.2.2.1).2.2.2.2.2)) (cwV 1 hts (gV wG_c wm_63 wm_64 wm_65 wm_31 wm_62) rfl rfl rfl (by decide +kernel) ⟨Nat.le_of_ble_eq_true rfl, Nat.le_of_ble_eq_true rfl⟩) hK hP hD [0] (by decide) rfl [] rfl 0 1 rfl rfl rfl rfl hl.1 rfl (Nat.le_of_ble_eq_true rfl) dX1_boundUnsignedBySigned_27 ⟨Nat.le_of_ble_eq_true rfl, Nat.le_of_ble_eq_true rfl⟩) hP hD hS hA [0] rfl (sp_fc sp_f0) (fun H locs hP hD hS => ?_)
    have hP : va_P D vwCl ([(h0, .inr (1, nm_fs (f_X1_lowerGreatest (f_X1_raiseLeast n0 n0.2.2.2.2.1) ((f_X1_raiseLeast n0 n0.2.2.2.2.1).2.2.2.2.2))))]) H := hP
    have hD : va_D A ([(h0, .inr (1, nm_fs (f_X1_lowerGreatest (f_X1_raiseLeast n0 n0.2.2.2.2.1) ((f_X1_raiseLeast n0 n0.2.2.2.2.1).2.2.2.2.2))))]) := hD
    have e9 : f_X1_boundUnsignedBySigned n0 = (f_X1_lowerGreatest (f_X1_raiseLeast n0 n0.2.2.2.2.1) ((f_X1_raiseLeast n0 n0.2.2.2.2.1).2.2.2.2.2)) := (if_neg c1).trans (rfl)
    rw [e9]
    exact sp_vret C hAe hP hK hD hS dX1_boundUnsignedBySigned_30
def f_X1_learnSharedHighBits (n0 : Nm) : Nm × Int32 :=
  if (lg_cmp (n0.2.2.1 ^^^ n0.2.2.2.1) 0) = 0 then (if (lg_cmp (((n0.1 ^^^ n0.2.2.1) &&& (n0.2.1 ^^^ (-1))) &&& (0 ^^^ (-1))) 0) = 0 then ((f_X1_setBits n0 ((n0.1 &&& 0) ||| (n0.2.2.1 &&& (0 ^^^ (-1)))) (n0.2.1 &&& 0)), 1)
    else (n0, 0))
  else (let v2 : Int64 := (((-1) : Int64).toUInt64 >>> ((f_JL_numberOfLeadingZeros (n0.2.2.1 ^^^ n0.2.2.2.1)).toInt64.toUInt64 &&& Int64.toUInt64 63)).toInt64
  if (lg_cmp (((n0.1 ^^^ n0.2.2.1) &&& (n0.2.1 ^^^ (-1))) &&& (v2 ^^^ (-1))) 0) = 0 then ((f_X1_setBits n0 ((n0.1 &&& v2) ||| (n0.2.2.1 &&& (v2 ^^^ (-1)))) (n0.2.1 &&& v2)), 1)
  else (n0, 0))
set_option maxHeartbeats 4000000 in
set_option maxRecDepth 100000 in
theorem c_X1_learnSharedHighBits (l : Launch) (D : va_G) (h0 : Nat) (n0 : Nm) : sp_M l yX1_learnSharedHighBits wsX1_learnSharedHighBits ({ frames := 2, cells := 0, slots := 0, locals := 43 }) D [.ref h0] ([(h0, .inr (1, nm_fs n0))]) [] (sp_Qz D ([(h0, .inr (1, nm_fs n0))]) ([(h0, .inr (1, nm_fs ((f_X1_learnSharedHighBits n0).1)))]) [] ((f_X1_learnSharedHighBits n0).2)) := by
  refine sp_ofW (cc := cX1_learnSharedHighBits) (nL := 5) (ret := (some .boolean)) (own := RX1) (by decide) rfl rfl (Nat.le_of_ble_eq_true rfl) ?_
  intro p e s m below meth c A ls hAe hnm C hA hP hK hD hS hl
  have hx := C.1
  have hb := C.2.1
  have hown := C.2.2.2.2.1
  have hts := C.2.2.2.2.2.1
  have hl : lv_has ls 5 [(0, .ref h0)] := hl
  have hi1 : ∀ w ∈ u_ws RX1 TX1 6, w ∈ wsX1_learnSharedHighBits := fun w h => List.mem_cons_of_mem _ (inX1 w h)
  have hk0 := hts _ (List.mem_cons_of_mem _ wm_23)
  have hk1 := hts _ (List.mem_cons_of_mem _ wm_24)
  have hk2 := hts _ (List.mem_cons_of_mem _ wm_40)
  have hk3 := hts _ (List.mem_cons_of_mem _ wm_21)
  have hk4 := hts _ (List.mem_cons_of_mem _ wm_22)
  refine lv_aload_n hx hb dX1_learnSharedHighBits_0 rfl (lv_at hl 0 rfl) ?_
  refine va_get (D := D) (ci := 1) (v := .long n0.2.2.1) (C := RX1) (T := TX1) (N := 6) hx hb hts hi1 hown hK hP 0 rfl rfl 2 (by decide) hk0 (fun _ h9 => h9) rfl dX1_learnSharedHighBits_1 ?_
  refine lv_aload_n hx hb dX1_learnSharedHighBits_4 rfl (lv_at hl 0 rfl) ?_
  refine va_get (D := D) (ci := 1) (v := .long n0.2.2.2.1) (C := RX1) (T := TX1) (N := 6) hx hb hts hi1 hown hK hP 0 rfl rfl 3 (by decide) hk1 (fun _ h9 => h9) rfl dX1_learnSharedHighBits_5 ?_
  refine lv_lxor hx hb dX1_learnSharedHighBits_8 ?_
  refine lv_lstore_n (lv' := [(1, .long (n0.2.2.1 ^^^ n0.2.2.2.1)), (0, .ref h0)]) hx hb dX1_learnSharedHighBits_9 rfl hl (by decide) rfl (fun ls hl => ?_)
  refine lv_lload_n hx hb dX1_learnSharedHighBits_10 rfl (lv_at hl 0 rfl) ?_
  refine lv_lconst (v := 0) hx hb dX1_learnSharedHighBits_11 (by decide) ?_
  refine W.lcmp hx hb dX1_learnSharedHighBits_12 ?_
  refine lv_if_ne (tgt := 20) hx hb dX1_learnSharedHighBits_13 (by decide) (fun c1 => ?_) (fun c1 => ?_)
  · refine lv_ldc2 (v := (-1)) hx hb hown hk2 dX1_learnSharedHighBits_20 ?_
    refine lv_lload_n hx hb dX1_learnSharedHighBits_23 rfl (lv_at hl 0 rfl) ?_
    refine sp_calli (sp_runS (As := [.long (n0.2.2.1 ^^^ n0.2.2.2.1)]) (rest := [.long (-1)]) C (c_JL_numberOfLeadingZeros l D (n0.2.2.1 ^^^ n0.2.2.2.1)) (va_cwS 1 hts (gS wG_c wm_75 wm_76 wm_77 wm_74) rfl rfl rfl (by decide +kernel) ⟨Nat.le_of_ble_eq_true rfl, Nat.le_of_ble_eq_true rfl⟩) hK hP hD [] (by decide) rfl [] rfl rfl hl.1 rfl (Nat.le_of_ble_eq_true rfl) dX1_learnSharedHighBits_24 ⟨Nat.le_of_ble_eq_true rfl, Nat.le_of_ble_eq_true rfl⟩) hP hD hS hA [] rfl sp_f0 (fun H locs hP hD hS => ?_)
    have hP : va_P D vwCl ([(h0, .inr (1, nm_fs n0))]) H := hP
    have hD : va_D A ([(h0, .inr (1, nm_fs n0))]) := hD
    refine lv_lushr (v := (((-1) : Int64).toUInt64 >>> ((f_JL_numberOfLeadingZeros (n0.2.2.1 ^^^ n0.2.2.2.1)).toInt64.toUInt64 &&& Int64.toUInt64 63)).toInt64) hx hb dX1_learnSharedHighBits_27 rfl ?_
    refine lv_topl (fun v2 ev2 => ?_)
    refine lv_lstore_n (lv' := [(3, .long v2), (1, .long (n0.2.2.1 ^^^ n0.2.2.2.1)), (0, .ref h0)]) hx hb dX1_learnSharedHighBits_28 rfl hl (by decide) rfl (fun ls hl => ?_)
    refine lv_aload_n hx hb dX1_learnSharedHighBits_29 rfl (lv_at hl 2 rfl) ?_
    refine va_get (D := D) (ci := 1) (v := .long n0.1) (C := RX1) (T := TX1) (N := 6) hx hb hts hi1 hown hK hP 0 rfl rfl 0 (by decide) hk3 (fun _ h9 => h9) rfl dX1_learnSharedHighBits_30 ?_
    refine lv_aload_n hx hb dX1_learnSharedHighBits_33 rfl (lv_at hl 2 rfl) ?_
    refine va_get (D := D) (ci := 1) (v := .long n0.2.2.1) (C := RX1) (T := TX1) (N := 6) hx hb hts hi1 hown hK hP 0 rfl rfl 2 (by decide) hk0 (fun _ h9 => h9) rfl dX1_learnSharedHighBits_34 ?_
    refine lv_lxor hx hb dX1_learnSharedHighBits_37 ?_
    refine lv_aload_n hx hb dX1_learnSharedHighBits_38 rfl (lv_at hl 2 rfl) ?_
    refine va_get (D := D) (ci := 1) (v := .long n0.2.1) (C := RX1) (T := TX1) (N := 6) hx hb hts hi1 hown hK hP 0 rfl rfl 1 (by decide) hk4 (fun _ h9 => h9) rfl dX1_learnSharedHighBits_39 ?_
    refine lv_ldc2 (v := (-1)) hx hb hown hk2 dX1_learnSharedHighBits_42 ?_
    refine lv_lxor hx hb dX1_learnSharedHighBits_45 ?_
    refine lv_land hx hb dX1_learnSharedHighBits_46 ?_
    refine lv_lload_n hx hb dX1_learnSharedHighBits_47 rfl (lv_at hl 0 rfl) ?_
    refine lv_ldc2 (v := (-1)) hx hb hown hk2 dX1_learnSharedHighBits_48 ?_
    refine lv_lxor hx hb dX1_learnSharedHighBits_51 ?_
    refine lv_land hx hb dX1_learnSharedHighBits_52 ?_
    refine lv_lconst (v := 0) hx hb dX1_learnSharedHighBits_53 (by decide) ?_
    refine W.lcmp hx hb dX1_learnSharedHighBits_54 ?_
    refine lv_if_eq (tgt := 60) hx hb dX1_learnSharedHighBits_55 (by decide) (fun c3 => ?_) (fun c3 => ?_)
    · refine lv_aload_n hx hb dX1_learnSharedHighBits_60 rfl (lv_at hl 2 rfl) ?_
      refine lv_aload_n hx hb dX1_learnSharedHighBits_61 rfl (lv_at hl 2 rfl) ?_
      refine va_get (D := D) (ci := 1) (v := .long n0.1) (C := RX1) (T := TX1) (N := 6) hx hb hts hi1 hown hK hP 0 rfl rfl 0 (by decide) hk3 (fun _ h9 => h9) rfl dX1_learnSharedHighBits_62 ?_
      refine lv_lload_n hx hb dX1_learnSharedHighBits_65 rfl (lv_at hl 0 rfl) ?_
      refine lv_land hx hb dX1_learnSharedHighBits_66 ?_
      refine lv_aload_n hx hb dX1_learnSharedHighBits_67 rfl (lv_at hl 2 rfl) ?_
      refine va_get (D := D) (ci := 1) (v := .long n0.2.2.1) (C := RX1) (T := TX1) (N := 6) hx hb hts hi1 hown hK hP 0 rfl rfl 2 (by decide) hk0 (fun _ h9 => h9) rfl dX1_learnSharedHighBits_68 ?_
      refine lv_lload_n hx hb dX1_learnSharedHighBits_71 rfl (lv_at hl 0 rfl) ?_
      refine lv_ldc2 (v := (-1)) hx hb hown hk2 dX1_learnSharedHighBits_72 ?_
      refine lv_lxor hx hb dX1_learnSharedHighBits_75 ?_
      refine lv_land hx hb dX1_learnSharedHighBits_76 ?_
      refine lv_lor hx hb dX1_learnSharedHighBits_77 ?_
      refine lv_aload_n hx hb dX1_learnSharedHighBits_78 rfl (lv_at hl 2 rfl) ?_
      refine va_get (D := D) (ci := 1) (v := .long n0.2.1) (C := RX1) (T := TX1) (N := 6) hx hb hts hi1 hown hK hP 0 rfl rfl 1 (by decide) hk4 (fun _ h9 => h9) rfl dX1_learnSharedHighBits_79 ?_
      refine lv_lload_n hx hb dX1_learnSharedHighBits_82 rfl (lv_at hl 0 rfl) ?_
      refine lv_land hx hb dX1_learnSharedHighBits_83 ?_
      refine sp_callv (sp_runV (As := [.long ((n0.1 &&& v2) ||| (n0.2.2.1 &&& (v2 ^^^ (-1)))), .long (n0.2.1 &&& v2)]) (rest := []) C (c_X1_setBits l D h0 n0 ((n0.1 &&& v2) ||| (n0.2.2.1 &&& (v2 ^^^ (-1)))) (n0.2.1 &&& v2)) (cwV 2 hts (gV wG_c wm_28 wm_29 wm_30 wm_31 wm_27) rfl rfl rfl (by decide +kernel) ⟨Nat.le_of_ble_eq_true rfl, Nat.le_of_ble_eq_true rfl⟩) hK hP hD [0] (by decide) rfl [] rfl 0 1 rfl rfl rfl rfl hl.1 rfl (Nat.le_of_ble_eq_true rfl) dX1_learnSharedHighBits_84 ⟨Nat.le_of_ble_eq_true rfl, Nat.le_of_ble_eq_true rfl⟩) hP hD hS hA [0] rfl (sp_fc sp_f0) (fun H locs hP hD hS => ?_)
      have hP : va_P D vwCl ([(h0, .inr (1, nm_fs (f_X1_setBits n0 ((n0.1 &&& v2) ||| (n0.2.2.1 &&& (v2 ^^^ (-1)))) (n0.2.1 &&& v2))))]) H := hP
      have hD : va_D A ([(h0, .inr (1, nm_fs (f_X1_setBits n0 ((n0.1 &&& v2) ||| (n0.2.2.1 &&& (v2 ^^^ (-1)))) (n0.2.1 &&& v2))))]) := hD
      refine lv_iconst (v := 1) hx hb dX1_learnSharedHighBits_87 (by decide) ?_
      have e9 : f_X1_learnSharedHighBits n0 = ((f_X1_setBits n0 ((n0.1 &&& v2) ||| (n0.2.2.1 &&& (v2 ^^^ (-1)))) (n0.2.1 &&& v2)), 1) := by
            subst ev2
            exact (if_neg c1).trans ((if_pos c3).trans (rfl))
      rw [e9]
      exact sp_zret C hAe hP hK hD hS (Or.inr rfl) dX1_learnSharedHighBits_88
    · refine lv_iconst (v := 0) hx hb dX1_learnSharedHighBits_58 (by decide) ?_
      have e9 : f_X1_learnSharedHighBits n0 = (n0, 0) := by
            subst ev2
            exact (if_neg c1).trans ((if_neg c3).trans (rfl))
      rw [e9]
      exact sp_zret C hAe hP hK hD hS (Or.inl rfl) dX1_learnSharedHighBits_59
  · refine lv_lconst (v := 0) hx hb dX1_learnSharedHighBits_16 (by decide) ?_
    refine lv_goto (tgt := 28) hx hb dX1_learnSharedHighBits_17 (by decide) ?_
    refine lv_lstore_n (lv' := [(3, .long 0), (1, .long (n0.2.2.1 ^^^ n0.2.2.2.1)), (0, .ref h0)]) hx hb dX1_learnSharedHighBits_28 rfl hl (by decide) rfl (fun ls hl => ?_)
    refine lv_aload_n hx hb dX1_learnSharedHighBits_29 rfl (lv_at hl 2 rfl) ?_
    refine va_get (D := D) (ci := 1) (v := .long n0.1) (C := RX1) (T := TX1) (N := 6) hx hb hts hi1 hown hK hP 0 rfl rfl 0 (by decide) hk3 (fun _ h9 => h9) rfl dX1_learnSharedHighBits_30 ?_
    refine lv_aload_n hx hb dX1_learnSharedHighBits_33 rfl (lv_at hl 2 rfl) ?_
    refine va_get (D := D) (ci := 1) (v := .long n0.2.2.1) (C := RX1) (T := TX1) (N := 6) hx hb hts hi1 hown hK hP 0 rfl rfl 2 (by decide) hk0 (fun _ h9 => h9) rfl dX1_learnSharedHighBits_34 ?_
    refine lv_lxor hx hb dX1_learnSharedHighBits_37 ?_
    refine lv_aload_n hx hb dX1_learnSharedHighBits_38 rfl (lv_at hl 2 rfl) ?_
    refine va_get (D := D) (ci := 1) (v := .long n0.2.1) (C := RX1) (T := TX1) (N := 6) hx hb hts hi1 hown hK hP 0 rfl rfl 1 (by decide) hk4 (fun _ h9 => h9) rfl dX1_learnSharedHighBits_39 ?_
    refine lv_ldc2 (v := (-1)) hx hb hown hk2 dX1_learnSharedHighBits_42 ?_
    refine lv_lxor hx hb dX1_learnSharedHighBits_45 ?_
    refine lv_land hx hb dX1_learnSharedHighBits_46 ?_
    refine lv_lload_n hx hb dX1_learnSharedHighBits_47 rfl (lv_at hl 0 rfl) ?_
    refine lv_ldc2 (v := (-1)) hx hb hown hk2 dX1_learnSharedHighBits_48 ?_
    refine lv_lxor hx hb dX1_learnSharedHighBits_51 ?_
    refine lv_land hx hb dX1_learnSharedHighBits_52 ?_
    refine lv_lconst (v := 0) hx hb dX1_learnSharedHighBits_53 (by decide) ?_
    refine W.lcmp hx hb dX1_learnSharedHighBits_54 ?_
    refine lv_if_eq (tgt := 60) hx hb dX1_learnSharedHighBits_55 (by decide) (fun c4 => ?_) (fun c4 => ?_)
    · refine lv_aload_n hx hb dX1_learnSharedHighBits_60 rfl (lv_at hl 2 rfl) ?_
      refine lv_aload_n hx hb dX1_learnSharedHighBits_61 rfl (lv_at hl 2 rfl) ?_
      refine va_get (D := D) (ci := 1) (v := .long n0.1) (C := RX1) (T := TX1) (N := 6) hx hb hts hi1 hown hK hP 0 rfl rfl 0 (by decide) hk3 (fun _ h9 => h9) rfl dX1_learnSharedHighBits_62 ?_
      refine lv_lload_n hx hb dX1_learnSharedHighBits_65 rfl (lv_at hl 0 rfl) ?_
      refine lv_land hx hb dX1_learnSharedHighBits_66 ?_
      refine lv_aload_n hx hb dX1_learnSharedHighBits_67 rfl (lv_at hl 2 rfl) ?_
      refine va_get (D := D) (ci := 1) (v := .long n0.2.2.1) (C := RX1) (T := TX1) (N := 6) hx hb hts hi1 hown hK hP 0 rfl rfl 2 (by decide) hk0 (fun _ h9 => h9) rfl dX1_learnSharedHighBits_68 ?_
      refine lv_lload_n hx hb dX1_learnSharedHighBits_71 rfl (lv_at hl 0 rfl) ?_
      refine lv_ldc2 (v := (-1)) hx hb hown hk2 dX1_learnSharedHighBits_72 ?_
      refine lv_lxor hx hb dX1_learnSharedHighBits_75 ?_
      refine lv_land hx hb dX1_learnSharedHighBits_76 ?_
      refine lv_lor hx hb dX1_learnSharedHighBits_77 ?_
      refine lv_aload_n hx hb dX1_learnSharedHighBits_78 rfl (lv_at hl 2 rfl) ?_
      refine va_get (D := D) (ci := 1) (v := .long n0.2.1) (C := RX1) (T := TX1) (N := 6) hx hb hts hi1 hown hK hP 0 rfl rfl 1 (by decide) hk4 (fun _ h9 => h9) rfl dX1_learnSharedHighBits_79 ?_
      refine lv_lload_n hx hb dX1_learnSharedHighBits_82 rfl (lv_at hl 0 rfl) ?_
      refine lv_land hx hb dX1_learnSharedHighBits_83 ?_
      refine sp_callv (sp_runV (As := [.long ((n0.1 &&& 0) ||| (n0.2.2.1 &&& (0 ^^^ (-1)))), .long (n0.2.1 &&& 0)]) (rest := []) C (c_X1_setBits l D h0 n0 ((n0.1 &&& 0) ||| (n0.2.2.1 &&& (0 ^^^ (-1)))) (n0.2.1 &&& 0)) (cwV 2 hts (gV wG_c wm_28 wm_29 wm_30 wm_31 wm_27) rfl rfl rfl (by decide +kernel) ⟨Nat.le_of_ble_eq_true rfl, Nat.le_of_ble_eq_true rfl⟩) hK hP hD [0] (by decide) rfl [] rfl 0 1 rfl rfl rfl rfl hl.1 rfl (Nat.le_of_ble_eq_true rfl) dX1_learnSharedHighBits_84 ⟨Nat.le_of_ble_eq_true rfl, Nat.le_of_ble_eq_true rfl⟩) hP hD hS hA [0] rfl (sp_fc sp_f0) (fun H locs hP hD hS => ?_)
      have hP : va_P D vwCl ([(h0, .inr (1, nm_fs (f_X1_setBits n0 ((n0.1 &&& 0) ||| (n0.2.2.1 &&& (0 ^^^ (-1)))) (n0.2.1 &&& 0))))]) H := hP
      have hD : va_D A ([(h0, .inr (1, nm_fs (f_X1_setBits n0 ((n0.1 &&& 0) ||| (n0.2.2.1 &&& (0 ^^^ (-1)))) (n0.2.1 &&& 0))))]) := hD
      refine lv_iconst (v := 1) hx hb dX1_learnSharedHighBits_87 (by decide) ?_
      have e9 : f_X1_learnSharedHighBits n0 = ((f_X1_setBits n0 ((n0.1 &&& 0) ||| (n0.2.2.1 &&& (0 ^^^ (-1)))) (n0.2.1 &&& 0)), 1) := (if_pos c1).trans ((if_pos c4).trans (rfl))
      rw [e9]
      exact sp_zret C hAe hP hK hD hS (Or.inr rfl) dX1_learnSharedHighBits_88
    · refine lv_iconst (v := 0) hx hb dX1_learnSharedHighBits_58 (by decide) ?_
      have e9 : f_X1_learnSharedHighBits n0 = (n0, 0) := (if_pos c1).trans ((if_neg c4).trans (rfl))
      rw [e9]
      exact sp_zret C hAe hP hK hD hS (Or.inl rfl) dX1_learnSharedHighBits_59
set_option maxHeartbeats 4000000 in
set_option maxRecDepth 100000 in
theorem c_X1_isKnownOf_same (l : Launch) (D : va_G) (h0 : Nat) (n0 : Nm) : sp_M l yX1_isKnownOf wsX1_isKnownOf ({ frames := 1, cells := 0, slots := 0, locals := 23 }) D [.ref h0, .ref h0] ([(h0, .inr (1, nm_fs n0))]) [] (sp_Qz D ([(h0, .inr (1, nm_fs n0))]) ([(h0, .inr (1, nm_fs n0))]) [] (f_X1_isKnownOf n0 n0)) := by
  refine sp_ofW (cc := cX1_isKnownOf) (nL := 2) (ret := (some .boolean)) (own := RX1) (by decide) rfl rfl (Nat.le_of_ble_eq_true rfl) ?_
  intro p e s m below meth c A ls hAe hnm C hA hP hK hD hS hl
  have hx := C.1
  have hb := C.2.1
  have hown := C.2.2.2.2.1
  have hts := C.2.2.2.2.2.1
  have hl : lv_has ls 2 [(0, .ref h0), (1, .ref h0)] := hl
  have hi1 : ∀ w ∈ u_ws RX1 TX1 6, w ∈ wsX1_isKnownOf := fun w h => List.mem_cons_of_mem _ (inX1 w h)
  have hk0 := hts _ (List.mem_cons_of_mem _ wm_22)
  have hk1 := hts _ (List.mem_cons_of_mem _ wm_40)
  have hk2 := hts _ (List.mem_cons_of_mem _ wm_21)
  have hk3 := hts _ (List.mem_cons_of_mem _ wm_23)
  have hk4 := hts _ (List.mem_cons_of_mem _ wm_4)
  have hk5 := hts _ (List.mem_cons_of_mem _ wm_3)
  have hk6 := hts _ (List.mem_cons_of_mem _ wm_24)
  have hk7 := hts _ (List.mem_cons_of_mem _ wm_25)
  have hk8 := hts _ (List.mem_cons_of_mem _ wm_26)
  refine lv_aload_n hx hb dX1_isKnownOf_0 rfl (lv_at hl 1 rfl) ?_
  refine va_get (D := D) (ci := 1) (v := .long n0.2.1) (C := RX1) (T := TX1) (N := 6) hx hb hts hi1 hown hK hP 0 rfl rfl 1 (by decide) hk0 (fun _ h9 => h9) rfl dX1_isKnownOf_1 ?_
  refine lv_aload_n hx hb dX1_isKnownOf_4 rfl (lv_at hl 0 rfl) ?_
  refine va_get (D := D) (ci := 1) (v := .long n0.2.1) (C := RX1) (T := TX1) (N := 6) hx hb hts hi1 hown hK hP 0 rfl rfl 1 (by decide) hk0 (fun _ h9 => h9) rfl dX1_isKnownOf_5 ?_
  refine lv_ldc2 (v := (-1)) hx hb hown hk1 dX1_isKnownOf_8 ?_
  refine lv_lxor hx hb dX1_isKnownOf_11 ?_
  refine lv_land hx hb dX1_isKnownOf_12 ?_
  refine lv_lconst (v := 0) hx hb dX1_isKnownOf_13 (by decide) ?_
  refine W.lcmp hx hb dX1_isKnownOf_14 ?_
  refine lv_if_ne (tgt := 95) hx hb dX1_isKnownOf_15 (by decide) (fun c1 => ?_) (fun c1 => ?_)
  · refine lv_iconst (v := 0) hx hb dX1_isKnownOf_95 (by decide) ?_
    have e9 : f_X1_isKnownOf n0 n0 = 0 := (if_neg c1).trans (rfl)
    rw [e9]
    exact sp_zret C hAe hP hK hD hS (Or.inl rfl) dX1_isKnownOf_96
  · refine lv_aload_n hx hb dX1_isKnownOf_18 rfl (lv_at hl 1 rfl) ?_
    refine va_get (D := D) (ci := 1) (v := .long n0.1) (C := RX1) (T := TX1) (N := 6) hx hb hts hi1 hown hK hP 0 rfl rfl 0 (by decide) hk2 (fun _ h9 => h9) rfl dX1_isKnownOf_19 ?_
    refine lv_aload_n hx hb dX1_isKnownOf_22 rfl (lv_at hl 0 rfl) ?_
    refine va_get (D := D) (ci := 1) (v := .long n0.2.1) (C := RX1) (T := TX1) (N := 6) hx hb hts hi1 hown hK hP 0 rfl rfl 1 (by decide) hk0 (fun _ h9 => h9) rfl dX1_isKnownOf_23 ?_
    refine lv_ldc2 (v := (-1)) hx hb hown hk1 dX1_isKnownOf_26 ?_
    refine lv_lxor hx hb dX1_isKnownOf_29 ?_
    refine lv_land hx hb dX1_isKnownOf_30 ?_
    refine lv_aload_n hx hb dX1_isKnownOf_31 rfl (lv_at hl 0 rfl) ?_
    refine va_get (D := D) (ci := 1) (v := .long n0.1) (C := RX1) (T := TX1) (N := 6) hx hb hts hi1 hown hK hP 0 rfl rfl 0 (by decide) hk2 (fun _ h9 => h9) rfl dX1_isKnownOf_32 ?_
    refine W.lcmp hx hb dX1_isKnownOf_35 ?_
    refine lv_if_ne (tgt := 95) hx hb dX1_isKnownOf_36 (by decide) (fun c2 => ?_) (fun c2 => ?_)
    · refine lv_iconst (v := 0) hx hb dX1_isKnownOf_95 (by decide) ?_
      have e9 : f_X1_isKnownOf n0 n0 = 0 := (if_pos c1).trans ((if_neg c2).trans (rfl))
      rw [e9]
      exact sp_zret C hAe hP hK hD hS (Or.inl rfl) dX1_isKnownOf_96
    · refine lv_aload_n hx hb dX1_isKnownOf_39 rfl (lv_at hl 0 rfl) ?_
      refine va_get (D := D) (ci := 1) (v := .long n0.2.2.1) (C := RX1) (T := TX1) (N := 6) hx hb hts hi1 hown hK hP 0 rfl rfl 2 (by decide) hk3 (fun _ h9 => h9) rfl dX1_isKnownOf_40 ?_
      refine lv_aload_n hx hb dX1_isKnownOf_43 rfl (lv_at hl 1 rfl) ?_
      refine va_get (D := D) (ci := 1) (v := .long n0.2.2.1) (C := RX1) (T := TX1) (N := 6) hx hb hts hi1 hown hK hP 0 rfl rfl 2 (by decide) hk3 (fun _ h9 => h9) rfl dX1_isKnownOf_44 ?_
      refine sp_callz (sp_runSN (As := [.long n0.2.2.1, .long n0.2.2.1]) (rest := []) C (c_X0_isAbove l D n0.2.2.1 n0.2.2.1) ⟨va_cnB 2 hts (gG wG_c wm_1) rfl rfl rfl (C.2.2.2.2.2.2.2.1 (RX1, 48, yX0_isAbove, "RangeDesk") (List.mem_of_getElem? (i := 3) rfl)) hk4 (by decide +kernel) ⟨Nat.le_of_ble_eq_true rfl, Nat.le_of_ble_eq_true rfl⟩, hk5, trivial⟩ hK hP hD [] (by decide) rfl [] rfl rfl hl.1 rfl (Nat.le_of_ble_eq_true rfl) dX1_isKnownOf_47 ⟨Nat.le_of_ble_eq_true rfl, Nat.le_of_ble_eq_true rfl⟩) hP hD hS hA [] rfl sp_f0 (fun H locs z3 hP hD hS => ?_)
      have hP : va_P D vwCl ([(h0, .inr (1, nm_fs n0))]) H := hP
      have hD : va_D A ([(h0, .inr (1, nm_fs n0))]) := hD
      refine lv_if_ne (tgt := 95) hx hb dX1_isKnownOf_50 (by decide) (fun c4 => ?_) (fun c4 => ?_)
      · refine lv_iconst (v := 0) hx hb dX1_isKnownOf_95 (by decide) ?_
        have e9 : f_X1_isKnownOf n0 n0 = 0 := (if_pos c1).trans ((if_pos c2).trans ((if_neg c4).trans (rfl)))
        rw [e9]
        exact sp_zret C hAe hP hK hD hS (Or.inl rfl) dX1_isKnownOf_96
      · refine lv_aload_n hx hb dX1_isKnownOf_53 rfl (lv_at hl 1 rfl) ?_
        refine va_get (D := D) (ci := 1) (v := .long n0.2.2.2.1) (C := RX1) (T := TX1) (N := 6) hx hb hts hi1 hown hK hP 0 rfl rfl 3 (by decide) hk6 (fun _ h9 => h9) rfl dX1_isKnownOf_54 ?_
        refine lv_aload_n hx hb dX1_isKnownOf_57 rfl (lv_at hl 0 rfl) ?_
        refine va_get (D := D) (ci := 1) (v := .long n0.2.2.2.1) (C := RX1) (T := TX1) (N := 6) hx hb hts hi1 hown hK hP 0 rfl rfl 3 (by decide) hk6 (fun _ h9 => h9) rfl dX1_isKnownOf_58 ?_
        refine sp_callz (sp_runSN (As := [.long n0.2.2.2.1, .long n0.2.2.2.1]) (rest := []) C (c_X0_isAbove l D n0.2.2.2.1 n0.2.2.2.1) ⟨va_cnB 2 hts (gG wG_c wm_1) rfl rfl rfl (C.2.2.2.2.2.2.2.1 (RX1, 48, yX0_isAbove, "RangeDesk") (List.mem_of_getElem? (i := 3) rfl)) hk4 (by decide +kernel) ⟨Nat.le_of_ble_eq_true rfl, Nat.le_of_ble_eq_true rfl⟩, hk5, trivial⟩ hK hP hD [] (by decide) rfl [] rfl rfl hl.1 rfl (Nat.le_of_ble_eq_true rfl) dX1_isKnownOf_61 ⟨Nat.le_of_ble_eq_true rfl, Nat.le_of_ble_eq_true rfl⟩) hP hD hS hA [] rfl sp_f0 (fun H locs z5 hP hD hS => ?_)
        have hP : va_P D vwCl ([(h0, .inr (1, nm_fs n0))]) H := hP
        have hD : va_D A ([(h0, .inr (1, nm_fs n0))]) := hD
        refine lv_if_ne (tgt := 95) hx hb dX1_isKnownOf_64 (by decide) (fun c6 => ?_) (fun c6 => ?_)
        · refine lv_iconst (v := 0) hx hb dX1_isKnownOf_95 (by decide) ?_
          have e9 : f_X1_isKnownOf n0 n0 = 0 := (if_pos c1).trans ((if_pos c2).trans ((if_pos c4).trans ((if_neg c6).trans (rfl))))
          rw [e9]
          exact sp_zret C hAe hP hK hD hS (Or.inl rfl) dX1_isKnownOf_96
        · refine lv_aload_n hx hb dX1_isKnownOf_67 rfl (lv_at hl 0 rfl) ?_
          refine va_get (D := D) (ci := 1) (v := .long n0.2.2.2.2.1) (C := RX1) (T := TX1) (N := 6) hx hb hts hi1 hown hK hP 0 rfl rfl 4 (by decide) hk7 (fun _ h9 => h9) rfl dX1_isKnownOf_68 ?_
          refine lv_aload_n hx hb dX1_isKnownOf_71 rfl (lv_at hl 1 rfl) ?_
          refine va_get (D := D) (ci := 1) (v := .long n0.2.2.2.2.1) (C := RX1) (T := TX1) (N := 6) hx hb hts hi1 hown hK hP 0 rfl rfl 4 (by decide) hk7 (fun _ h9 => h9) rfl dX1_isKnownOf_72 ?_
          refine W.lcmp hx hb dX1_isKnownOf_75 ?_
          refine lv_if_gt (tgt := 95) hx hb dX1_isKnownOf_76 (by decide) (fun c7 => ?_) (fun c7 => ?_)
          · refine lv_iconst (v := 0) hx hb dX1_isKnownOf_95 (by decide) ?_
            have e9 : f_X1_isKnownOf n0 n0 = 0 := (if_pos c1).trans ((if_pos c2).trans ((if_pos c4).trans ((if_pos c6).trans ((if_pos c7).trans (rfl)))))
            rw [e9]
            exact sp_zret C hAe hP hK hD hS (Or.inl rfl) dX1_isKnownOf_96
          · refine lv_aload_n hx hb dX1_isKnownOf_79 rfl (lv_at hl 1 rfl) ?_
            refine va_get (D := D) (ci := 1) (v := .long n0.2.2.2.2.2) (C := RX1) (T := TX1) (N := 6) hx hb hts hi1 hown hK hP 0 rfl rfl 5 (by decide) hk8 (fun _ h9 => h9) rfl dX1_isKnownOf_80 ?_
            refine lv_aload_n hx hb dX1_isKnownOf_83 rfl (lv_at hl 0 rfl) ?_
            refine va_get (D := D) (ci := 1) (v := .long n0.2.2.2.2.2) (C := RX1) (T := TX1) (N := 6) hx hb hts hi1 hown hK hP 0 rfl rfl 5 (by decide) hk8 (fun _ h9 => h9) rfl dX1_isKnownOf_84 ?_
            refine W.lcmp hx hb dX1_isKnownOf_87 ?_
            refine lv_if_gt (tgt := 95) hx hb dX1_isKnownOf_88 (by decide) (fun c8 => ?_) (fun c8 => ?_)
            · refine lv_iconst (v := 0) hx hb dX1_isKnownOf_95 (by decide) ?_
              have e9 : f_X1_isKnownOf n0 n0 = 0 := (if_pos c1).trans ((if_pos c2).trans ((if_pos c4).trans ((if_pos c6).trans ((if_neg c7).trans ((if_pos c8).trans (rfl))))))
              rw [e9]
              exact sp_zret C hAe hP hK hD hS (Or.inl rfl) dX1_isKnownOf_96
            · refine lv_iconst (v := 1) hx hb dX1_isKnownOf_91 (by decide) ?_
              refine lv_goto (tgt := 96) hx hb dX1_isKnownOf_92 (by decide) ?_
              have e9 : f_X1_isKnownOf n0 n0 = 1 := (if_pos c1).trans ((if_pos c2).trans ((if_pos c4).trans ((if_pos c6).trans ((if_neg c7).trans ((if_neg c8).trans (rfl))))))
              rw [e9]
              exact sp_zret C hAe hP hK hD hS (Or.inr rfl) dX1_isKnownOf_96
