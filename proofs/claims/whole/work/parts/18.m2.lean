theorem wm_382 : (.fieldLink RM 9 "RangeDeskModel" "value" "[J" : Cond) ∈ wsG := wG_of 608 (by decide +kernel) (by decide +kernel)
theorem wm_383 : (.fieldLink RM 13 "RangeDeskModel" "mask" "[J" : Cond) ∈ wsG := wG_of 609 (by decide +kernel) (by decide +kernel)
theorem wm_384 : (.fieldLink RM 16 "RangeDeskModel" "least" "[J" : Cond) ∈ wsG := wG_of 610 (by decide +kernel) (by decide +kernel)
theorem wm_385 : (.fieldLink RM 19 "RangeDeskModel" "great" "[J" : Cond) ∈ wsG := wG_of 611 (by decide +kernel) (by decide +kernel)
theorem wm_386 : (.fieldLink RM 22 "RangeDeskModel" "low" "[J" : Cond) ∈ wsG := wG_of 612 (by decide +kernel) (by decide +kernel)
theorem wm_387 : (.fieldLink RM 25 "RangeDeskModel" "high" "[J" : Cond) ∈ wsG := wG_of 613 (by decide +kernel) (by decide +kernel)
theorem wm_388 : (.constantLong RM 40 9223372036854775807 : Cond) ∈ wsG := wG_of 655 (by decide +kernel) (by decide +kernel)
theorem wm_389 : (.code yM_greater cM_greater 4 (some .long) : Cond) ∈ wsG := wG_of 670 (by decide +kernel) (by decide +kernel)
theorem wm_390 : (.methodLink RM 42 yM_greater : Cond) ∈ wsG := wG_of 668 (by decide +kernel) (by decide +kernel)
theorem wm_391 : (.static yM_greater : Cond) ∈ wsG := wG_of 669 (by decide +kernel) (by decide +kernel)
theorem wm_392 : (.code yM_lesser cM_lesser 4 (some .long) : Cond) ∈ wsG := wG_of 676 (by decide +kernel) (by decide +kernel)
theorem wm_393 : (.methodLink RM 46 yM_lesser : Cond) ∈ wsG := wG_of 674 (by decide +kernel) (by decide +kernel)
theorem wm_394 : (.static yM_lesser : Cond) ∈ wsG := wG_of 675 (by decide +kernel) (by decide +kernel)
theorem wm_395 : (.code yM_isEmpty cM_isEmpty 2 (some .boolean) : Cond) ∈ wsG := wG_of 680 (by decide +kernel) (by decide +kernel)
theorem wm_396 : (.methodLink RM 49 yM_isEmpty : Cond) ∈ wsG := wG_of 677 (by decide +kernel) (by decide +kernel)
theorem wm_397 : (.instanceMethod yM_isEmpty : Cond) ∈ wsG := wG_of 679 (by decide +kernel) (by decide +kernel)
theorem wm_398 : (.selects RM yM_isEmpty yM_isEmpty : Cond) ∈ wsG := wG_of 34 (by decide +kernel) (by decide +kernel)
theorem wm_399 : (.code yM_places cM_places 9 (some .long) : Cond) ∈ wsG := wG_of 695 (by decide +kernel) (by decide +kernel)
theorem wm_400 : (.methodLink RM 53 yM_places : Cond) ∈ wsG := wG_of 693 (by decide +kernel) (by decide +kernel)
theorem wm_401 : (.static yM_places : Cond) ∈ wsG := wG_of 694 (by decide +kernel) (by decide +kernel)
theorem dM_copy_0 : decode cM_copy 0 = .ok (.aload_n 0, 1) := by decide +kernel
theorem dM_copy_1 : decode cM_copy 1 = .ok (.getfield 9, 3) := by decide +kernel
theorem dM_copy_4 : decode cM_copy 4 = .ok (.iload_n 2, 1) := by decide +kernel
theorem dM_copy_5 : decode cM_copy 5 = .ok (.aload_n 0, 1) := by decide +kernel
theorem dM_copy_6 : decode cM_copy 6 = .ok (.getfield 9, 3) := by decide +kernel
theorem dM_copy_9 : decode cM_copy 9 = .ok (.iload_n 1, 1) := by decide +kernel
theorem dM_copy_10 : decode cM_copy 10 = .ok (.laload, 1) := by decide +kernel
theorem dM_copy_11 : decode cM_copy 11 = .ok (.lastore, 1) := by decide +kernel
theorem dM_copy_12 : decode cM_copy 12 = .ok (.aload_n 0, 1) := by decide +kernel
theorem dM_copy_13 : decode cM_copy 13 = .ok (.getfield 13, 3) := by decide +kernel
theorem dM_copy_16 : decode cM_copy 16 = .ok (.iload_n 2, 1) := by decide +kernel
theorem dM_copy_17 : decode cM_copy 17 = .ok (.aload_n 0, 1) := by decide +kernel
theorem dM_copy_18 : decode cM_copy 18 = .ok (.getfield 13, 3) := by decide +kernel
theorem dM_copy_21 : decode cM_copy 21 = .ok (.iload_n 1, 1) := by decide +kernel
theorem dM_copy_22 : decode cM_copy 22 = .ok (.laload, 1) := by decide +kernel
theorem dM_copy_23 : decode cM_copy 23 = .ok (.lastore, 1) := by decide +kernel
theorem dM_copy_24 : decode cM_copy 24 = .ok (.aload_n 0, 1) := by decide +kernel
theorem dM_copy_25 : decode cM_copy 25 = .ok (.getfield 16, 3) := by decide +kernel
theorem dM_copy_28 : decode cM_copy 28 = .ok (.iload_n 2, 1) := by decide +kernel
theorem dM_copy_29 : decode cM_copy 29 = .ok (.aload_n 0, 1) := by decide +kernel
theorem dM_copy_30 : decode cM_copy 30 = .ok (.getfield 16, 3) := by decide +kernel
theorem dM_copy_33 : decode cM_copy 33 = .ok (.iload_n 1, 1) := by decide +kernel
theorem dM_copy_34 : decode cM_copy 34 = .ok (.laload, 1) := by decide +kernel
theorem dM_copy_35 : decode cM_copy 35 = .ok (.lastore, 1) := by decide +kernel
theorem dM_copy_36 : decode cM_copy 36 = .ok (.aload_n 0, 1) := by decide +kernel
theorem dM_copy_37 : decode cM_copy 37 = .ok (.getfield 19, 3) := by decide +kernel
theorem dM_copy_40 : decode cM_copy 40 = .ok (.iload_n 2, 1) := by decide +kernel
theorem dM_copy_41 : decode cM_copy 41 = .ok (.aload_n 0, 1) := by decide +kernel
theorem dM_copy_42 : decode cM_copy 42 = .ok (.getfield 19, 3) := by decide +kernel
theorem dM_copy_45 : decode cM_copy 45 = .ok (.iload_n 1, 1) := by decide +kernel
theorem dM_copy_46 : decode cM_copy 46 = .ok (.laload, 1) := by decide +kernel
theorem dM_copy_47 : decode cM_copy 47 = .ok (.lastore, 1) := by decide +kernel
theorem dM_copy_48 : decode cM_copy 48 = .ok (.aload_n 0, 1) := by decide +kernel
theorem dM_copy_49 : decode cM_copy 49 = .ok (.getfield 22, 3) := by decide +kernel
theorem dM_copy_52 : decode cM_copy 52 = .ok (.iload_n 2, 1) := by decide +kernel
theorem dM_copy_53 : decode cM_copy 53 = .ok (.aload_n 0, 1) := by decide +kernel
theorem dM_copy_54 : decode cM_copy 54 = .ok (.getfield 22, 3) := by decide +kernel
theorem dM_copy_57 : decode cM_copy 57 = .ok (.iload_n 1, 1) := by decide +kernel
theorem dM_copy_58 : decode cM_copy 58 = .ok (.laload, 1) := by decide +kernel
theorem dM_copy_59 : decode cM_copy 59 = .ok (.lastore, 1) := by decide +kernel
theorem dM_copy_60 : decode cM_copy 60 = .ok (.aload_n 0, 1) := by decide +kernel
theorem dM_copy_61 : decode cM_copy 61 = .ok (.getfield 25, 3) := by decide +kernel
theorem dM_copy_64 : decode cM_copy 64 = .ok (.iload_n 2, 1) := by decide +kernel
theorem dM_copy_65 : decode cM_copy 65 = .ok (.aload_n 0, 1) := by decide +kernel
theorem dM_copy_66 : decode cM_copy 66 = .ok (.getfield 25, 3) := by decide +kernel
theorem dM_copy_69 : decode cM_copy 69 = .ok (.iload_n 1, 1) := by decide +kernel
theorem dM_copy_70 : decode cM_copy 70 = .ok (.laload, 1) := by decide +kernel
theorem dM_copy_71 : decode cM_copy 71 = .ok (.lastore, 1) := by decide +kernel
theorem dM_copy_72 : decode cM_copy 72 = .ok (.return_, 1) := by decide +kernel
theorem dM_setAny_0 : decode cM_setAny 0 = .ok (.aload_n 0, 1) := by decide +kernel
theorem dM_setAny_1 : decode cM_setAny 1 = .ok (.getfield 9, 3) := by decide +kernel
theorem dM_setAny_4 : decode cM_setAny 4 = .ok (.iload_n 1, 1) := by decide +kernel
theorem dM_setAny_5 : decode cM_setAny 5 = .ok (.lconst 0, 1) := by decide +kernel
theorem dM_setAny_6 : decode cM_setAny 6 = .ok (.lastore, 1) := by decide +kernel
theorem dM_setAny_7 : decode cM_setAny 7 = .ok (.aload_n 0, 1) := by decide +kernel
theorem dM_setAny_8 : decode cM_setAny 8 = .ok (.getfield 13, 3) := by decide +kernel
theorem dM_setAny_11 : decode cM_setAny 11 = .ok (.iload_n 1, 1) := by decide +kernel
theorem dM_setAny_12 : decode cM_setAny 12 = .ok (.ldc2_w 38, 3) := by decide +kernel
theorem dM_setAny_15 : decode cM_setAny 15 = .ok (.lastore, 1) := by decide +kernel
theorem dM_setAny_16 : decode cM_setAny 16 = .ok (.aload_n 0, 1) := by decide +kernel
theorem dM_setAny_17 : decode cM_setAny 17 = .ok (.getfield 16, 3) := by decide +kernel
theorem dM_setAny_20 : decode cM_setAny 20 = .ok (.iload_n 1, 1) := by decide +kernel
theorem dM_setAny_21 : decode cM_setAny 21 = .ok (.lconst 0, 1) := by decide +kernel
theorem dM_setAny_22 : decode cM_setAny 22 = .ok (.lastore, 1) := by decide +kernel
theorem dM_setAny_23 : decode cM_setAny 23 = .ok (.aload_n 0, 1) := by decide +kernel
theorem dM_setAny_24 : decode cM_setAny 24 = .ok (.getfield 19, 3) := by decide +kernel
theorem dM_setAny_27 : decode cM_setAny 27 = .ok (.iload_n 1, 1) := by decide +kernel
theorem dM_setAny_28 : decode cM_setAny 28 = .ok (.ldc2_w 38, 3) := by decide +kernel
theorem dM_setAny_31 : decode cM_setAny 31 = .ok (.lastore, 1) := by decide +kernel
theorem dM_setAny_32 : decode cM_setAny 32 = .ok (.aload_n 0, 1) := by decide +kernel
theorem dM_setAny_33 : decode cM_setAny 33 = .ok (.getfield 22, 3) := by decide +kernel
theorem dM_setAny_36 : decode cM_setAny 36 = .ok (.iload_n 1, 1) := by decide +kernel
theorem dM_setAny_37 : decode cM_setAny 37 = .ok (.ldc2_w 32, 3) := by decide +kernel
theorem dM_setAny_40 : decode cM_setAny 40 = .ok (.lastore, 1) := by decide +kernel
theorem dM_setAny_41 : decode cM_setAny 41 = .ok (.aload_n 0, 1) := by decide +kernel
theorem dM_setAny_42 : decode cM_setAny 42 = .ok (.getfield 25, 3) := by decide +kernel
theorem dM_setAny_45 : decode cM_setAny 45 = .ok (.iload_n 1, 1) := by decide +kernel
theorem dM_setAny_46 : decode cM_setAny 46 = .ok (.ldc2_w 40, 3) := by decide +kernel
theorem dM_setAny_49 : decode cM_setAny 49 = .ok (.lastore, 1) := by decide +kernel
theorem dM_setAny_50 : decode cM_setAny 50 = .ok (.return_, 1) := by decide +kernel
theorem dM_setExact_0 : decode cM_setExact 0 = .ok (.aload_n 0, 1) := by decide +kernel
theorem dM_setExact_1 : decode cM_setExact 1 = .ok (.getfield 9, 3) := by decide +kernel
theorem dM_setExact_4 : decode cM_setExact 4 = .ok (.iload_n 1, 1) := by decide +kernel
theorem dM_setExact_5 : decode cM_setExact 5 = .ok (.lload_n 2, 1) := by decide +kernel
theorem dM_setExact_6 : decode cM_setExact 6 = .ok (.lastore, 1) := by decide +kernel
theorem dM_setExact_7 : decode cM_setExact 7 = .ok (.aload_n 0, 1) := by decide +kernel
theorem dM_setExact_8 : decode cM_setExact 8 = .ok (.getfield 13, 3) := by decide +kernel
theorem dM_setExact_11 : decode cM_setExact 11 = .ok (.iload_n 1, 1) := by decide +kernel
theorem dM_setExact_12 : decode cM_setExact 12 = .ok (.lconst 0, 1) := by decide +kernel
theorem dM_setExact_13 : decode cM_setExact 13 = .ok (.lastore, 1) := by decide +kernel
theorem dM_setExact_14 : decode cM_setExact 14 = .ok (.aload_n 0, 1) := by decide +kernel
theorem dM_setExact_15 : decode cM_setExact 15 = .ok (.getfield 16, 3) := by decide +kernel
theorem dM_setExact_18 : decode cM_setExact 18 = .ok (.iload_n 1, 1) := by decide +kernel
theorem dM_setExact_19 : decode cM_setExact 19 = .ok (.lload_n 2, 1) := by decide +kernel
theorem dM_setExact_20 : decode cM_setExact 20 = .ok (.lastore, 1) := by decide +kernel
theorem dM_setExact_21 : decode cM_setExact 21 = .ok (.aload_n 0, 1) := by decide +kernel
theorem dM_setExact_22 : decode cM_setExact 22 = .ok (.getfield 19, 3) := by decide +kernel
theorem dM_setExact_25 : decode cM_setExact 25 = .ok (.iload_n 1, 1) := by decide +kernel
theorem dM_setExact_26 : decode cM_setExact 26 = .ok (.lload_n 2, 1) := by decide +kernel
theorem dM_setExact_27 : decode cM_setExact 27 = .ok (.lastore, 1) := by decide +kernel
theorem dM_setExact_28 : decode cM_setExact 28 = .ok (.aload_n 0, 1) := by decide +kernel
theorem dM_setExact_29 : decode cM_setExact 29 = .ok (.getfield 22, 3) := by decide +kernel
theorem dM_setExact_32 : decode cM_setExact 32 = .ok (.iload_n 1, 1) := by decide +kernel
theorem dM_setExact_33 : decode cM_setExact 33 = .ok (.lload_n 2, 1) := by decide +kernel
theorem dM_setExact_34 : decode cM_setExact 34 = .ok (.lastore, 1) := by decide +kernel
theorem dM_setExact_35 : decode cM_setExact 35 = .ok (.aload_n 0, 1) := by decide +kernel
theorem dM_setExact_36 : decode cM_setExact 36 = .ok (.getfield 25, 3) := by decide +kernel
theorem dM_setExact_39 : decode cM_setExact 39 = .ok (.iload_n 1, 1) := by decide +kernel
theorem dM_setExact_40 : decode cM_setExact 40 = .ok (.lload_n 2, 1) := by decide +kernel
theorem dM_setExact_41 : decode cM_setExact 41 = .ok (.lastore, 1) := by decide +kernel
theorem dM_setExact_42 : decode cM_setExact 42 = .ok (.return_, 1) := by decide +kernel
theorem dM_isExact_0 : decode cM_isExact 0 = .ok (.aload_n 0, 1) := by decide +kernel
theorem dM_isExact_1 : decode cM_isExact 1 = .ok (.getfield 13, 3) := by decide +kernel
theorem dM_isExact_4 : decode cM_isExact 4 = .ok (.iload_n 1, 1) := by decide +kernel
theorem dM_isExact_5 : decode cM_isExact 5 = .ok (.laload, 1) := by decide +kernel
theorem dM_isExact_6 : decode cM_isExact 6 = .ok (.lconst 0, 1) := by decide +kernel
theorem dM_isExact_7 : decode cM_isExact 7 = .ok (.lcmp, 1) := by decide +kernel
theorem dM_isExact_8 : decode cM_isExact 8 = .ok (.ifCond .ne 7, 3) := by decide +kernel
theorem dM_isExact_11 : decode cM_isExact 11 = .ok (.iconst 1, 1) := by decide +kernel
theorem dM_isExact_12 : decode cM_isExact 12 = .ok (.goto 4, 3) := by decide +kernel
theorem dM_isExact_15 : decode cM_isExact 15 = .ok (.iconst 0, 1) := by decide +kernel
theorem dM_isExact_16 : decode cM_isExact 16 = .ok (.ireturn, 1) := by decide +kernel
theorem dM_isEmpty_0 : decode cM_isEmpty 0 = .ok (.aload_n 0, 1) := by decide +kernel
theorem dM_isEmpty_1 : decode cM_isEmpty 1 = .ok (.getfield 19, 3) := by decide +kernel
theorem dM_isEmpty_4 : decode cM_isEmpty 4 = .ok (.iload_n 1, 1) := by decide +kernel
theorem dM_isEmpty_5 : decode cM_isEmpty 5 = .ok (.laload, 1) := by decide +kernel
theorem dM_isEmpty_6 : decode cM_isEmpty 6 = .ok (.aload_n 0, 1) := by decide +kernel
theorem dM_isEmpty_7 : decode cM_isEmpty 7 = .ok (.getfield 16, 3) := by decide +kernel
theorem dM_isEmpty_10 : decode cM_isEmpty 10 = .ok (.iload_n 1, 1) := by decide +kernel
theorem dM_isEmpty_11 : decode cM_isEmpty 11 = .ok (.laload, 1) := by decide +kernel
theorem dM_isEmpty_12 : decode cM_isEmpty 12 = .ok (.invokestatic 34, 3) := by decide +kernel
theorem dM_isEmpty_15 : decode cM_isEmpty 15 = .ok (.ifCond .ne 19, 3) := by decide +kernel
theorem dM_isEmpty_18 : decode cM_isEmpty 18 = .ok (.aload_n 0, 1) := by decide +kernel
theorem dM_isEmpty_19 : decode cM_isEmpty 19 = .ok (.getfield 22, 3) := by decide +kernel
theorem dM_isEmpty_22 : decode cM_isEmpty 22 = .ok (.iload_n 1, 1) := by decide +kernel
theorem dM_isEmpty_23 : decode cM_isEmpty 23 = .ok (.laload, 1) := by decide +kernel
theorem dM_isEmpty_24 : decode cM_isEmpty 24 = .ok (.aload_n 0, 1) := by decide +kernel
theorem dM_isEmpty_25 : decode cM_isEmpty 25 = .ok (.getfield 25, 3) := by decide +kernel
theorem dM_isEmpty_28 : decode cM_isEmpty 28 = .ok (.iload_n 1, 1) := by decide +kernel
theorem dM_isEmpty_29 : decode cM_isEmpty 29 = .ok (.laload, 1) := by decide +kernel
theorem dM_isEmpty_30 : decode cM_isEmpty 30 = .ok (.lcmp, 1) := by decide +kernel
theorem dM_isEmpty_31 : decode cM_isEmpty 31 = .ok (.ifCond .le 7, 3) := by decide +kernel
theorem dM_isEmpty_34 : decode cM_isEmpty 34 = .ok (.iconst 1, 1) := by decide +kernel
theorem dM_isEmpty_35 : decode cM_isEmpty 35 = .ok (.goto 4, 3) := by decide +kernel
theorem dM_isEmpty_38 : decode cM_isEmpty 38 = .ok (.iconst 0, 1) := by decide +kernel
theorem dM_isEmpty_39 : decode cM_isEmpty 39 = .ok (.ireturn, 1) := by decide +kernel
theorem dM_byBits_0 : decode cM_byBits 0 = .ok (.aload_n 0, 1) := by decide +kernel
theorem dM_byBits_1 : decode cM_byBits 1 = .ok (.getfield 16, 3) := by decide +kernel
theorem dM_byBits_4 : decode cM_byBits 4 = .ok (.iload_n 1, 1) := by decide +kernel
theorem dM_byBits_5 : decode cM_byBits 5 = .ok (.aload_n 0, 1) := by decide +kernel
theorem dM_byBits_6 : decode cM_byBits 6 = .ok (.getfield 16, 3) := by decide +kernel
theorem dM_byBits_9 : decode cM_byBits 9 = .ok (.iload_n 1, 1) := by decide +kernel
theorem dM_byBits_10 : decode cM_byBits 10 = .ok (.laload, 1) := by decide +kernel
theorem dM_byBits_11 : decode cM_byBits 11 = .ok (.aload_n 0, 1) := by decide +kernel
theorem dM_byBits_12 : decode cM_byBits 12 = .ok (.getfield 9, 3) := by decide +kernel
theorem dM_byBits_15 : decode cM_byBits 15 = .ok (.iload_n 1, 1) := by decide +kernel
theorem dM_byBits_16 : decode cM_byBits 16 = .ok (.laload, 1) := by decide +kernel
theorem dM_byBits_17 : decode cM_byBits 17 = .ok (.invokestatic 42, 3) := by decide +kernel
theorem dM_byBits_20 : decode cM_byBits 20 = .ok (.lastore, 1) := by decide +kernel
theorem dM_byBits_21 : decode cM_byBits 21 = .ok (.aload_n 0, 1) := by decide +kernel
theorem dM_byBits_22 : decode cM_byBits 22 = .ok (.getfield 19, 3) := by decide +kernel
theorem dM_byBits_25 : decode cM_byBits 25 = .ok (.iload_n 1, 1) := by decide +kernel
theorem dM_byBits_26 : decode cM_byBits 26 = .ok (.aload_n 0, 1) := by decide +kernel
theorem dM_byBits_27 : decode cM_byBits 27 = .ok (.getfield 19, 3) := by decide +kernel
theorem dM_byBits_30 : decode cM_byBits 30 = .ok (.iload_n 1, 1) := by decide +kernel
theorem dM_byBits_31 : decode cM_byBits 31 = .ok (.laload, 1) := by decide +kernel
theorem dM_byBits_32 : decode cM_byBits 32 = .ok (.aload_n 0, 1) := by decide +kernel
theorem dM_byBits_33 : decode cM_byBits 33 = .ok (.getfield 9, 3) := by decide +kernel
theorem dM_byBits_36 : decode cM_byBits 36 = .ok (.iload_n 1, 1) := by decide +kernel
theorem dM_byBits_37 : decode cM_byBits 37 = .ok (.laload, 1) := by decide +kernel
theorem dM_byBits_38 : decode cM_byBits 38 = .ok (.aload_n 0, 1) := by decide +kernel
theorem dM_byBits_39 : decode cM_byBits 39 = .ok (.getfield 13, 3) := by decide +kernel
theorem dM_byBits_42 : decode cM_byBits 42 = .ok (.iload_n 1, 1) := by decide +kernel
theorem dM_byBits_43 : decode cM_byBits 43 = .ok (.laload, 1) := by decide +kernel
theorem dM_byBits_44 : decode cM_byBits 44 = .ok (.lor, 1) := by decide +kernel
theorem dM_byBits_45 : decode cM_byBits 45 = .ok (.invokestatic 46, 3) := by decide +kernel
theorem dM_byBits_48 : decode cM_byBits 48 = .ok (.lastore, 1) := by decide +kernel
theorem dM_byBits_49 : decode cM_byBits 49 = .ok (.aload_n 0, 1) := by decide +kernel
theorem dM_byBits_50 : decode cM_byBits 50 = .ok (.iload_n 1, 1) := by decide +kernel
theorem dM_byBits_51 : decode cM_byBits 51 = .ok (.invokevirtual 49, 3) := by decide +kernel
theorem dM_byBits_54 : decode cM_byBits 54 = .ok (.ifCond .ne 7, 3) := by decide +kernel
theorem dM_byBits_57 : decode cM_byBits 57 = .ok (.iconst 1, 1) := by decide +kernel
theorem dM_byBits_58 : decode cM_byBits 58 = .ok (.goto 4, 3) := by decide +kernel
theorem dM_byBits_61 : decode cM_byBits 61 = .ok (.iconst 0, 1) := by decide +kernel
theorem dM_byBits_62 : decode cM_byBits 62 = .ok (.ireturn, 1) := by decide +kernel
theorem dM_toSigned_0 : decode cM_toSigned 0 = .ok (.aload_n 0, 1) := by decide +kernel
theorem dM_toSigned_1 : decode cM_toSigned 1 = .ok (.getfield 16, 3) := by decide +kernel
theorem dM_toSigned_4 : decode cM_toSigned 4 = .ok (.iload_n 1, 1) := by decide +kernel
theorem dM_toSigned_5 : decode cM_toSigned 5 = .ok (.laload, 1) := by decide +kernel
theorem dM_toSigned_6 : decode cM_toSigned 6 = .ok (.lconst 0, 1) := by decide +kernel
theorem dM_toSigned_7 : decode cM_toSigned 7 = .ok (.lcmp, 1) := by decide +kernel
theorem dM_toSigned_8 : decode cM_toSigned 8 = .ok (.ifCond .ge 7, 3) := by decide +kernel
theorem dM_toSigned_11 : decode cM_toSigned 11 = .ok (.iconst 1, 1) := by decide +kernel
theorem dM_toSigned_12 : decode cM_toSigned 12 = .ok (.goto 4, 3) := by decide +kernel
theorem dM_toSigned_15 : decode cM_toSigned 15 = .ok (.iconst 0, 1) := by decide +kernel
theorem dM_toSigned_16 : decode cM_toSigned 16 = .ok (.aload_n 0, 1) := by decide +kernel
theorem dM_toSigned_17 : decode cM_toSigned 17 = .ok (.getfield 19, 3) := by decide +kernel
theorem dM_toSigned_20 : decode cM_toSigned 20 = .ok (.iload_n 1, 1) := by decide +kernel
theorem dM_toSigned_21 : decode cM_toSigned 21 = .ok (.laload, 1) := by decide +kernel
theorem dM_toSigned_22 : decode cM_toSigned 22 = .ok (.lconst 0, 1) := by decide +kernel
theorem dM_toSigned_23 : decode cM_toSigned 23 = .ok (.lcmp, 1) := by decide +kernel
theorem dM_toSigned_24 : decode cM_toSigned 24 = .ok (.ifCond .ge 7, 3) := by decide +kernel
theorem dM_toSigned_27 : decode cM_toSigned 27 = .ok (.iconst 1, 1) := by decide +kernel
theorem dM_toSigned_28 : decode cM_toSigned 28 = .ok (.goto 4, 3) := by decide +kernel
theorem dM_toSigned_31 : decode cM_toSigned 31 = .ok (.iconst 0, 1) := by decide +kernel
theorem dM_toSigned_32 : decode cM_toSigned 32 = .ok (.if_icmp .ne 77, 3) := by decide +kernel
theorem dM_toSigned_35 : decode cM_toSigned 35 = .ok (.aload_n 0, 1) := by decide +kernel
theorem dM_toSigned_36 : decode cM_toSigned 36 = .ok (.getfield 22, 3) := by decide +kernel
theorem dM_toSigned_39 : decode cM_toSigned 39 = .ok (.iload_n 1, 1) := by decide +kernel
theorem dM_toSigned_40 : decode cM_toSigned 40 = .ok (.aload_n 0, 1) := by decide +kernel
theorem dM_toSigned_41 : decode cM_toSigned 41 = .ok (.getfield 22, 3) := by decide +kernel
theorem dM_toSigned_44 : decode cM_toSigned 44 = .ok (.iload_n 1, 1) := by decide +kernel
theorem dM_toSigned_45 : decode cM_toSigned 45 = .ok (.laload, 1) := by decide +kernel
theorem dM_toSigned_46 : decode cM_toSigned 46 = .ok (.aload_n 0, 1) := by decide +kernel
theorem dM_toSigned_47 : decode cM_toSigned 47 = .ok (.getfield 16, 3) := by decide +kernel
theorem dM_toSigned_50 : decode cM_toSigned 50 = .ok (.iload_n 1, 1) := by decide +kernel
theorem dM_toSigned_51 : decode cM_toSigned 51 = .ok (.laload, 1) := by decide +kernel
theorem dM_toSigned_52 : decode cM_toSigned 52 = .ok (.lcmp, 1) := by decide +kernel
theorem dM_toSigned_53 : decode cM_toSigned 53 = .ok (.ifCond .le 12, 3) := by decide +kernel
theorem dM_toSigned_56 : decode cM_toSigned 56 = .ok (.aload_n 0, 1) := by decide +kernel
theorem dM_toSigned_57 : decode cM_toSigned 57 = .ok (.getfield 22, 3) := by decide +kernel
theorem dM_toSigned_60 : decode cM_toSigned 60 = .ok (.iload_n 1, 1) := by decide +kernel
theorem dM_toSigned_61 : decode cM_toSigned 61 = .ok (.laload, 1) := by decide +kernel
theorem dM_toSigned_62 : decode cM_toSigned 62 = .ok (.goto 9, 3) := by decide +kernel
theorem dM_toSigned_65 : decode cM_toSigned 65 = .ok (.aload_n 0, 1) := by decide +kernel
theorem dM_toSigned_66 : decode cM_toSigned 66 = .ok (.getfield 16, 3) := by decide +kernel
theorem dM_toSigned_69 : decode cM_toSigned 69 = .ok (.iload_n 1, 1) := by decide +kernel
theorem dM_toSigned_70 : decode cM_toSigned 70 = .ok (.laload, 1) := by decide +kernel
theorem dM_toSigned_71 : decode cM_toSigned 71 = .ok (.lastore, 1) := by decide +kernel
theorem dM_toSigned_72 : decode cM_toSigned 72 = .ok (.aload_n 0, 1) := by decide +kernel
theorem dM_toSigned_73 : decode cM_toSigned 73 = .ok (.getfield 25, 3) := by decide +kernel
theorem dM_toSigned_76 : decode cM_toSigned 76 = .ok (.iload_n 1, 1) := by decide +kernel
theorem dM_toSigned_77 : decode cM_toSigned 77 = .ok (.aload_n 0, 1) := by decide +kernel
theorem dM_toSigned_78 : decode cM_toSigned 78 = .ok (.getfield 25, 3) := by decide +kernel
theorem dM_toSigned_81 : decode cM_toSigned 81 = .ok (.iload_n 1, 1) := by decide +kernel
theorem dM_toSigned_82 : decode cM_toSigned 82 = .ok (.laload, 1) := by decide +kernel
theorem dM_toSigned_83 : decode cM_toSigned 83 = .ok (.aload_n 0, 1) := by decide +kernel
theorem dM_toSigned_84 : decode cM_toSigned 84 = .ok (.getfield 19, 3) := by decide +kernel
theorem dM_toSigned_87 : decode cM_toSigned 87 = .ok (.iload_n 1, 1) := by decide +kernel
theorem dM_toSigned_88 : decode cM_toSigned 88 = .ok (.laload, 1) := by decide +kernel
theorem dM_toSigned_89 : decode cM_toSigned 89 = .ok (.lcmp, 1) := by decide +kernel
theorem dM_toSigned_90 : decode cM_toSigned 90 = .ok (.ifCond .ge 12, 3) := by decide +kernel
theorem dM_toSigned_93 : decode cM_toSigned 93 = .ok (.aload_n 0, 1) := by decide +kernel
theorem dM_toSigned_94 : decode cM_toSigned 94 = .ok (.getfield 25, 3) := by decide +kernel
theorem dM_toSigned_97 : decode cM_toSigned 97 = .ok (.iload_n 1, 1) := by decide +kernel
theorem dM_toSigned_98 : decode cM_toSigned 98 = .ok (.laload, 1) := by decide +kernel
theorem dM_toSigned_99 : decode cM_toSigned 99 = .ok (.goto 9, 3) := by decide +kernel
theorem dM_toSigned_102 : decode cM_toSigned 102 = .ok (.aload_n 0, 1) := by decide +kernel
theorem dM_toSigned_103 : decode cM_toSigned 103 = .ok (.getfield 19, 3) := by decide +kernel
theorem dM_toSigned_106 : decode cM_toSigned 106 = .ok (.iload_n 1, 1) := by decide +kernel
theorem dM_toSigned_107 : decode cM_toSigned 107 = .ok (.laload, 1) := by decide +kernel
theorem dM_toSigned_108 : decode cM_toSigned 108 = .ok (.lastore, 1) := by decide +kernel
theorem dM_toSigned_109 : decode cM_toSigned 109 = .ok (.aload_n 0, 1) := by decide +kernel
theorem dM_toSigned_110 : decode cM_toSigned 110 = .ok (.iload_n 1, 1) := by decide +kernel
theorem dM_toSigned_111 : decode cM_toSigned 111 = .ok (.invokevirtual 49, 3) := by decide +kernel
theorem dM_toSigned_114 : decode cM_toSigned 114 = .ok (.ifCond .ne 7, 3) := by decide +kernel
theorem dM_toSigned_117 : decode cM_toSigned 117 = .ok (.iconst 1, 1) := by decide +kernel
theorem dM_toSigned_118 : decode cM_toSigned 118 = .ok (.goto 4, 3) := by decide +kernel
theorem dM_toSigned_121 : decode cM_toSigned 121 = .ok (.iconst 0, 1) := by decide +kernel
theorem dM_toSigned_122 : decode cM_toSigned 122 = .ok (.ireturn, 1) := by decide +kernel
theorem dM_toUnsigned_0 : decode cM_toUnsigned 0 = .ok (.aload_n 0, 1) := by decide +kernel
theorem dM_toUnsigned_1 : decode cM_toUnsigned 1 = .ok (.getfield 22, 3) := by decide +kernel
theorem dM_toUnsigned_4 : decode cM_toUnsigned 4 = .ok (.iload_n 1, 1) := by decide +kernel
theorem dM_toUnsigned_5 : decode cM_toUnsigned 5 = .ok (.laload, 1) := by decide +kernel
theorem dM_toUnsigned_6 : decode cM_toUnsigned 6 = .ok (.lconst 0, 1) := by decide +kernel
theorem dM_toUnsigned_7 : decode cM_toUnsigned 7 = .ok (.lcmp, 1) := by decide +kernel
theorem dM_toUnsigned_8 : decode cM_toUnsigned 8 = .ok (.ifCond .ge 7, 3) := by decide +kernel
theorem dM_toUnsigned_11 : decode cM_toUnsigned 11 = .ok (.iconst 1, 1) := by decide +kernel
theorem dM_toUnsigned_12 : decode cM_toUnsigned 12 = .ok (.goto 4, 3) := by decide +kernel
theorem dM_toUnsigned_15 : decode cM_toUnsigned 15 = .ok (.iconst 0, 1) := by decide +kernel
theorem dM_toUnsigned_16 : decode cM_toUnsigned 16 = .ok (.aload_n 0, 1) := by decide +kernel
theorem dM_toUnsigned_17 : decode cM_toUnsigned 17 = .ok (.getfield 25, 3) := by decide +kernel
theorem dM_toUnsigned_20 : decode cM_toUnsigned 20 = .ok (.iload_n 1, 1) := by decide +kernel
theorem dM_toUnsigned_21 : decode cM_toUnsigned 21 = .ok (.laload, 1) := by decide +kernel
theorem dM_toUnsigned_22 : decode cM_toUnsigned 22 = .ok (.lconst 0, 1) := by decide +kernel
theorem dM_toUnsigned_23 : decode cM_toUnsigned 23 = .ok (.lcmp, 1) := by decide +kernel
theorem dM_toUnsigned_24 : decode cM_toUnsigned 24 = .ok (.ifCond .ge 7, 3) := by decide +kernel
theorem dM_toUnsigned_27 : decode cM_toUnsigned 27 = .ok (.iconst 1, 1) := by decide +kernel
theorem dM_toUnsigned_28 : decode cM_toUnsigned 28 = .ok (.goto 4, 3) := by decide +kernel
theorem dM_toUnsigned_31 : decode cM_toUnsigned 31 = .ok (.iconst 0, 1) := by decide +kernel
theorem dM_toUnsigned_32 : decode cM_toUnsigned 32 = .ok (.if_icmp .ne 45, 3) := by decide +kernel
theorem dM_toUnsigned_35 : decode cM_toUnsigned 35 = .ok (.aload_n 0, 1) := by decide +kernel
theorem dM_toUnsigned_36 : decode cM_toUnsigned 36 = .ok (.getfield 16, 3) := by decide +kernel
theorem dM_toUnsigned_39 : decode cM_toUnsigned 39 = .ok (.iload_n 1, 1) := by decide +kernel
theorem dM_toUnsigned_40 : decode cM_toUnsigned 40 = .ok (.aload_n 0, 1) := by decide +kernel
theorem dM_toUnsigned_41 : decode cM_toUnsigned 41 = .ok (.getfield 16, 3) := by decide +kernel
theorem dM_toUnsigned_44 : decode cM_toUnsigned 44 = .ok (.iload_n 1, 1) := by decide +kernel
theorem dM_toUnsigned_45 : decode cM_toUnsigned 45 = .ok (.laload, 1) := by decide +kernel
theorem dM_toUnsigned_46 : decode cM_toUnsigned 46 = .ok (.aload_n 0, 1) := by decide +kernel
theorem dM_toUnsigned_47 : decode cM_toUnsigned 47 = .ok (.getfield 22, 3) := by decide +kernel
theorem dM_toUnsigned_50 : decode cM_toUnsigned 50 = .ok (.iload_n 1, 1) := by decide +kernel
theorem dM_toUnsigned_51 : decode cM_toUnsigned 51 = .ok (.laload, 1) := by decide +kernel
theorem dM_toUnsigned_52 : decode cM_toUnsigned 52 = .ok (.invokestatic 42, 3) := by decide +kernel
theorem dM_toUnsigned_55 : decode cM_toUnsigned 55 = .ok (.lastore, 1) := by decide +kernel
theorem dM_toUnsigned_56 : decode cM_toUnsigned 56 = .ok (.aload_n 0, 1) := by decide +kernel
theorem dM_toUnsigned_57 : decode cM_toUnsigned 57 = .ok (.getfield 19, 3) := by decide +kernel
theorem dM_toUnsigned_60 : decode cM_toUnsigned 60 = .ok (.iload_n 1, 1) := by decide +kernel
theorem dM_toUnsigned_61 : decode cM_toUnsigned 61 = .ok (.aload_n 0, 1) := by decide +kernel
theorem dM_toUnsigned_62 : decode cM_toUnsigned 62 = .ok (.getfield 19, 3) := by decide +kernel
theorem dM_toUnsigned_65 : decode cM_toUnsigned 65 = .ok (.iload_n 1, 1) := by decide +kernel
theorem dM_toUnsigned_66 : decode cM_toUnsigned 66 = .ok (.laload, 1) := by decide +kernel
theorem dM_toUnsigned_67 : decode cM_toUnsigned 67 = .ok (.aload_n 0, 1) := by decide +kernel
theorem dM_toUnsigned_68 : decode cM_toUnsigned 68 = .ok (.getfield 25, 3) := by decide +kernel
theorem dM_toUnsigned_71 : decode cM_toUnsigned 71 = .ok (.iload_n 1, 1) := by decide +kernel
theorem dM_toUnsigned_72 : decode cM_toUnsigned 72 = .ok (.laload, 1) := by decide +kernel
theorem dM_toUnsigned_73 : decode cM_toUnsigned 73 = .ok (.invokestatic 46, 3) := by decide +kernel
theorem dM_toUnsigned_76 : decode cM_toUnsigned 76 = .ok (.lastore, 1) := by decide +kernel
theorem dM_toUnsigned_77 : decode cM_toUnsigned 77 = .ok (.aload_n 0, 1) := by decide +kernel
theorem dM_toUnsigned_78 : decode cM_toUnsigned 78 = .ok (.iload_n 1, 1) := by decide +kernel
theorem dM_toUnsigned_79 : decode cM_toUnsigned 79 = .ok (.invokevirtual 49, 3) := by decide +kernel
theorem dM_toUnsigned_82 : decode cM_toUnsigned 82 = .ok (.ifCond .ne 7, 3) := by decide +kernel
theorem dM_toUnsigned_85 : decode cM_toUnsigned 85 = .ok (.iconst 1, 1) := by decide +kernel
theorem dM_toUnsigned_86 : decode cM_toUnsigned 86 = .ok (.goto 4, 3) := by decide +kernel
theorem dM_toUnsigned_89 : decode cM_toUnsigned 89 = .ok (.iconst 0, 1) := by decide +kernel
theorem dM_toUnsigned_90 : decode cM_toUnsigned 90 = .ok (.ireturn, 1) := by decide +kernel
theorem dM_toBits_0 : decode cM_toBits 0 = .ok (.aload_n 0, 1) := by decide +kernel
theorem dM_toBits_1 : decode cM_toBits 1 = .ok (.getfield 16, 3) := by decide +kernel
theorem dM_toBits_4 : decode cM_toBits 4 = .ok (.iload_n 1, 1) := by decide +kernel
theorem dM_toBits_5 : decode cM_toBits 5 = .ok (.laload, 1) := by decide +kernel
theorem dM_toBits_6 : decode cM_toBits 6 = .ok (.aload_n 0, 1) := by decide +kernel
theorem dM_toBits_7 : decode cM_toBits 7 = .ok (.getfield 19, 3) := by decide +kernel
theorem dM_toBits_10 : decode cM_toBits 10 = .ok (.iload_n 1, 1) := by decide +kernel
theorem dM_toBits_11 : decode cM_toBits 11 = .ok (.laload, 1) := by decide +kernel
theorem dM_toBits_12 : decode cM_toBits 12 = .ok (.invokestatic 53, 3) := by decide +kernel
theorem dM_toBits_15 : decode cM_toBits 15 = .ok (.lstore_n 2, 1) := by decide +kernel
theorem dM_toBits_16 : decode cM_toBits 16 = .ok (.aload_n 0, 1) := by decide +kernel
theorem dM_toBits_17 : decode cM_toBits 17 = .ok (.getfield 9, 3) := by decide +kernel
theorem dM_toBits_20 : decode cM_toBits 20 = .ok (.iload_n 1, 1) := by decide +kernel
theorem dM_toBits_21 : decode cM_toBits 21 = .ok (.laload, 1) := by decide +kernel
theorem dM_toBits_22 : decode cM_toBits 22 = .ok (.aload_n 0, 1) := by decide +kernel
theorem dM_toBits_23 : decode cM_toBits 23 = .ok (.getfield 16, 3) := by decide +kernel
theorem dM_toBits_26 : decode cM_toBits 26 = .ok (.iload_n 1, 1) := by decide +kernel
theorem dM_toBits_27 : decode cM_toBits 27 = .ok (.laload, 1) := by decide +kernel
theorem dM_toBits_28 : decode cM_toBits 28 = .ok (.lxor, 1) := by decide +kernel
theorem dM_toBits_29 : decode cM_toBits 29 = .ok (.aload_n 0, 1) := by decide +kernel
theorem dM_toBits_30 : decode cM_toBits 30 = .ok (.getfield 13, 3) := by decide +kernel
theorem dM_toBits_33 : decode cM_toBits 33 = .ok (.iload_n 1, 1) := by decide +kernel
theorem dM_toBits_34 : decode cM_toBits 34 = .ok (.laload, 1) := by decide +kernel
theorem dM_toBits_35 : decode cM_toBits 35 = .ok (.ldc2_w 38, 3) := by decide +kernel
theorem dM_toBits_38 : decode cM_toBits 38 = .ok (.lxor, 1) := by decide +kernel
theorem dM_toBits_39 : decode cM_toBits 39 = .ok (.land, 1) := by decide +kernel
theorem dM_toBits_40 : decode cM_toBits 40 = .ok (.lload_n 2, 1) := by decide +kernel
theorem dM_toBits_41 : decode cM_toBits 41 = .ok (.ldc2_w 38, 3) := by decide +kernel
theorem dM_toBits_44 : decode cM_toBits 44 = .ok (.lxor, 1) := by decide +kernel
theorem dM_toBits_45 : decode cM_toBits 45 = .ok (.land, 1) := by decide +kernel
theorem dM_toBits_46 : decode cM_toBits 46 = .ok (.lconst 0, 1) := by decide +kernel
theorem dM_toBits_47 : decode cM_toBits 47 = .ok (.lcmp, 1) := by decide +kernel
theorem dM_toBits_48 : decode cM_toBits 48 = .ok (.ifCond .eq 5, 3) := by decide +kernel
theorem dM_toBits_51 : decode cM_toBits 51 = .ok (.iconst 0, 1) := by decide +kernel
theorem dM_toBits_52 : decode cM_toBits 52 = .ok (.ireturn, 1) := by decide +kernel
theorem dM_toBits_53 : decode cM_toBits 53 = .ok (.aload_n 0, 1) := by decide +kernel
theorem dM_toBits_54 : decode cM_toBits 54 = .ok (.getfield 9, 3) := by decide +kernel
theorem dM_toBits_57 : decode cM_toBits 57 = .ok (.iload_n 1, 1) := by decide +kernel
theorem dM_toBits_58 : decode cM_toBits 58 = .ok (.aload_n 0, 1) := by decide +kernel
theorem dM_toBits_59 : decode cM_toBits 59 = .ok (.getfield 9, 3) := by decide +kernel
theorem dM_toBits_62 : decode cM_toBits 62 = .ok (.iload_n 1, 1) := by decide +kernel
theorem dM_toBits_63 : decode cM_toBits 63 = .ok (.laload, 1) := by decide +kernel
theorem dM_toBits_64 : decode cM_toBits 64 = .ok (.lload_n 2, 1) := by decide +kernel
theorem dM_toBits_65 : decode cM_toBits 65 = .ok (.land, 1) := by decide +kernel
theorem dM_toBits_66 : decode cM_toBits 66 = .ok (.aload_n 0, 1) := by decide +kernel
theorem dM_toBits_67 : decode cM_toBits 67 = .ok (.getfield 16, 3) := by decide +kernel
theorem dM_toBits_70 : decode cM_toBits 70 = .ok (.iload_n 1, 1) := by decide +kernel
theorem dM_toBits_71 : decode cM_toBits 71 = .ok (.laload, 1) := by decide +kernel
theorem dM_toBits_72 : decode cM_toBits 72 = .ok (.lload_n 2, 1) := by decide +kernel
theorem dM_toBits_73 : decode cM_toBits 73 = .ok (.ldc2_w 38, 3) := by decide +kernel
theorem dM_toBits_76 : decode cM_toBits 76 = .ok (.lxor, 1) := by decide +kernel
theorem dM_toBits_77 : decode cM_toBits 77 = .ok (.land, 1) := by decide +kernel
theorem dM_toBits_78 : decode cM_toBits 78 = .ok (.lor, 1) := by decide +kernel
theorem dM_toBits_79 : decode cM_toBits 79 = .ok (.lastore, 1) := by decide +kernel
theorem dM_toBits_80 : decode cM_toBits 80 = .ok (.aload_n 0, 1) := by decide +kernel
theorem dM_toBits_81 : decode cM_toBits 81 = .ok (.getfield 13, 3) := by decide +kernel
theorem dM_toBits_84 : decode cM_toBits 84 = .ok (.iload_n 1, 1) := by decide +kernel
theorem dM_toBits_85 : decode cM_toBits 85 = .ok (.aload_n 0, 1) := by decide +kernel
theorem dM_toBits_86 : decode cM_toBits 86 = .ok (.getfield 13, 3) := by decide +kernel
theorem dM_toBits_89 : decode cM_toBits 89 = .ok (.iload_n 1, 1) := by decide +kernel
theorem dM_toBits_90 : decode cM_toBits 90 = .ok (.laload, 1) := by decide +kernel
theorem dM_toBits_91 : decode cM_toBits 91 = .ok (.lload_n 2, 1) := by decide +kernel
theorem dM_toBits_92 : decode cM_toBits 92 = .ok (.land, 1) := by decide +kernel
theorem dM_toBits_93 : decode cM_toBits 93 = .ok (.lastore, 1) := by decide +kernel
theorem dM_toBits_94 : decode cM_toBits 94 = .ok (.aload_n 0, 1) := by decide +kernel
theorem dM_toBits_95 : decode cM_toBits 95 = .ok (.iload_n 1, 1) := by decide +kernel
theorem dM_toBits_96 : decode cM_toBits 96 = .ok (.invokevirtual 49, 3) := by decide +kernel
theorem dM_toBits_99 : decode cM_toBits 99 = .ok (.ifCond .ne 7, 3) := by decide +kernel
theorem dM_toBits_102 : decode cM_toBits 102 = .ok (.iconst 1, 1) := by decide +kernel
theorem dM_toBits_103 : decode cM_toBits 103 = .ok (.goto 4, 3) := by decide +kernel
theorem dM_toBits_106 : decode cM_toBits 106 = .ok (.iconst 0, 1) := by decide +kernel
theorem dM_toBits_107 : decode cM_toBits 107 = .ok (.ireturn, 1) := by decide +kernel
def f_M_copy (st : Md) (p1 : Int32) (p2 : Int32) : Md :=
  (vp_updL st.1 p2.toNatClampNeg (st.1 p1.toNatClampNeg), vp_updL st.2.1 p2.toNatClampNeg (st.2.1 p1.toNatClampNeg), vp_updL st.2.2.1 p2.toNatClampNeg (st.2.2.1 p1.toNatClampNeg), vp_updL st.2.2.2.1 p2.toNatClampNeg (st.2.2.2.1 p1.toNatClampNeg), vp_updL st.2.2.2.2.1 p2.toNatClampNeg (st.2.2.2.2.1 p1.toNatClampNeg), vp_updL st.2.2.2.2.2 p2.toNatClampNeg (st.2.2.2.2.2 p1.toNatClampNeg))
set_option maxHeartbeats 4000000 in
set_option maxRecDepth 100000 in
theorem c_M_copy (l : Launch) (D : va_G) (h0 : Nat) (a1 : Nat) (a2 : Nat) (a3 : Nat) (a4 : Nat) (a5 : Nat) (a6 : Nat) (cj1 cj2 cj3 cj4 cj5 cj6 : ClassId) (th : Int32) (st : Md) (p1 : Int32) (p2 : Int32) (hq1 : vp_in p1 19) (hq2 : vp_in p2 19) : sp_M l yM_copy wsM_copy ({ frames := 0, cells := 0, slots := 0, locals := 0 }) D [.ref h0, .int p1, .int p2] ([(h0, .inr (4, [.int th, .ref a1, .ref a2, .ref a3, .ref a4, .ref a5, .ref a6])), (a1, .inl (cj1, 19, .inr (.inl st.1))), (a2, .inl (cj2, 19, .inr (.inl st.2.1))), (a3, .inl (cj3, 19, .inr (.inl st.2.2.1))), (a4, .inl (cj4, 19, .inr (.inl st.2.2.2.1))), (a5, .inl (cj5, 19, .inr (.inl st.2.2.2.2.1))), (a6, .inl (cj6, 19, .inr (.inl st.2.2.2.2.2)))]) [(cj1, .long), (cj2, .long), (cj3, .long), (cj4, .long), (cj5, .long), (cj6, .long)] (sp_Qv D ([(h0, .inr (4, [.int th, .ref a1, .ref a2, .ref a3, .ref a4, .ref a5, .ref a6])), (a1, .inl (cj1, 19, .inr (.inl st.1))), (a2, .inl (cj2, 19, .inr (.inl st.2.1))), (a3, .inl (cj3, 19, .inr (.inl st.2.2.1))), (a4, .inl (cj4, 19, .inr (.inl st.2.2.2.1))), (a5, .inl (cj5, 19, .inr (.inl st.2.2.2.2.1))), (a6, .inl (cj6, 19, .inr (.inl st.2.2.2.2.2)))]) ([(h0, .inr (4, [.int th, .ref a1, .ref a2, .ref a3, .ref a4, .ref a5, .ref a6])), (a1, .inl (cj1, 19, .inr (.inl ((f_M_copy st p1 p2).1)))), (a2, .inl (cj2, 19, .inr (.inl ((f_M_copy st p1 p2).2.1)))), (a3, .inl (cj3, 19, .inr (.inl ((f_M_copy st p1 p2).2.2.1)))), (a4, .inl (cj4, 19, .inr (.inl ((f_M_copy st p1 p2).2.2.2.1)))), (a5, .inl (cj5, 19, .inr (.inl ((f_M_copy st p1 p2).2.2.2.2.1)))), (a6, .inl (cj6, 19, .inr (.inl ((f_M_copy st p1 p2).2.2.2.2.2))))]) [(cj1, .long), (cj2, .long), (cj3, .long), (cj4, .long), (cj5, .long), (cj6, .long)]) := by
  refine sp_ofW (cc := cM_copy) (nL := 3) (ret := none) (own := RM) (by decide) rfl rfl (Nat.le_of_ble_eq_true rfl) ?_
  intro p e s m below meth c A ls hAe hnm C hA hP hK hD hS hl
  have hx := C.1
  have hb := C.2.1
  have hown := C.2.2.2.2.1
  have hts := C.2.2.2.2.2.1
  have hl : lv_has ls 3 [(0, .ref h0), (1, .int p1), (2, .int p2)] := hl
  have hi4 : ∀ w ∈ u_ws RM TM 7, w ∈ wsM_copy := fun w h => List.mem_cons_of_mem _ (inM w h)
  have hk0 := hts _ (List.mem_cons_of_mem _ wm_382)
  have hk1 := hts _ (List.mem_cons_of_mem _ wm_383)
  have hk2 := hts _ (List.mem_cons_of_mem _ wm_384)
  have hk3 := hts _ (List.mem_cons_of_mem _ wm_385)
  have hk4 := hts _ (List.mem_cons_of_mem _ wm_386)
  have hk5 := hts _ (List.mem_cons_of_mem _ wm_387)
  refine lv_aload_n hx hb dM_copy_0 rfl (lv_at hl 0 rfl) ?_
  refine va_get (D := D) (ci := 4) (v := .ref a1) (C := RM) (T := TM) (N := 7) hx hb hts hi4 hown hK hP 0 rfl rfl 1 (by decide) hk0 (fun _ h9 => h9) rfl dM_copy_1 ?_
  refine lv_iload_n hx hb dM_copy_4 rfl (lv_at hl 2 rfl) ?_
  refine lv_aload_n hx hb dM_copy_5 rfl (lv_at hl 0 rfl) ?_
  refine va_get (D := D) (ci := 4) (v := .ref a1) (C := RM) (T := TM) (N := 7) hx hb hts hi4 hown hK hP 0 rfl rfl 1 (by decide) hk0 (fun _ h9 => h9) rfl dM_copy_6 ?_
  refine lv_iload_n hx hb dM_copy_9 rfl (lv_at hl 1 rfl) ?_
  refine va_lald hx hb hK hP 1 0 rfl rfl hq1 dM_copy_10 ?_
  refine va_last hx hb hK hP hD hS 1 0 rfl rfl hq2 dM_copy_11 (fun H locs hP hD hS => ?_)
  have hP : va_P D vwCl ([(h0, .inr (4, [.int th, .ref a1, .ref a2, .ref a3, .ref a4, .ref a5, .ref a6])), (a1, .inl (cj1, 19, .inr (.inl (vp_updL st.1 p2.toNatClampNeg (st.1 p1.toNatClampNeg))))), (a2, .inl (cj2, 19, .inr (.inl st.2.1))), (a3, .inl (cj3, 19, .inr (.inl st.2.2.1))), (a4, .inl (cj4, 19, .inr (.inl st.2.2.2.1))), (a5, .inl (cj5, 19, .inr (.inl st.2.2.2.2.1))), (a6, .inl (cj6, 19, .inr (.inl st.2.2.2.2.2)))]) H := hP
  have hD : va_D A ([(h0, .inr (4, [.int th, .ref a1, .ref a2, .ref a3, .ref a4, .ref a5, .ref a6])), (a1, .inl (cj1, 19, .inr (.inl (vp_updL st.1 p2.toNatClampNeg (st.1 p1.toNatClampNeg))))), (a2, .inl (cj2, 19, .inr (.inl st.2.1))), (a3, .inl (cj3, 19, .inr (.inl st.2.2.1))), (a4, .inl (cj4, 19, .inr (.inl st.2.2.2.1))), (a5, .inl (cj5, 19, .inr (.inl st.2.2.2.2.1))), (a6, .inl (cj6, 19, .inr (.inl st.2.2.2.2.2)))]) := hD
  refine lv_aload_n hx hb dM_copy_12 rfl (lv_at hl 0 rfl) ?_
  refine va_get (D := D) (ci := 4) (v := .ref a2) (C := RM) (T := TM) (N := 7) hx hb hts hi4 hown hK hP 0 rfl rfl 2 (by decide) hk1 (fun _ h9 => h9) rfl dM_copy_13 ?_
  refine lv_iload_n hx hb dM_copy_16 rfl (lv_at hl 2 rfl) ?_
  refine lv_aload_n hx hb dM_copy_17 rfl (lv_at hl 0 rfl) ?_
  refine va_get (D := D) (ci := 4) (v := .ref a2) (C := RM) (T := TM) (N := 7) hx hb hts hi4 hown hK hP 0 rfl rfl 2 (by decide) hk1 (fun _ h9 => h9) rfl dM_copy_18 ?_
  refine lv_iload_n hx hb dM_copy_21 rfl (lv_at hl 1 rfl) ?_
  refine va_lald hx hb hK hP 2 1 rfl rfl hq1 dM_copy_22 ?_
  refine va_last hx hb hK hP hD hS 2 1 rfl rfl hq2 dM_copy_23 (fun H locs hP hD hS => ?_)
  have hP : va_P D vwCl ([(h0, .inr (4, [.int th, .ref a1, .ref a2, .ref a3, .ref a4, .ref a5, .ref a6])), (a1, .inl (cj1, 19, .inr (.inl (vp_updL st.1 p2.toNatClampNeg (st.1 p1.toNatClampNeg))))), (a2, .inl (cj2, 19, .inr (.inl (vp_updL st.2.1 p2.toNatClampNeg (st.2.1 p1.toNatClampNeg))))), (a3, .inl (cj3, 19, .inr (.inl st.2.2.1))), (a4, .inl (cj4, 19, .inr (.inl st.2.2.2.1))), (a5, .inl (cj5, 19, .inr (.inl st.2.2.2.2.1))), (a6, .inl (cj6, 19, .inr (.inl st.2.2.2.2.2)))]) H := hP
  have hD : va_D A ([(h0, .inr (4, [.int th, .ref a1, .ref a2, .ref a3, .ref a4, .ref a5, .ref a6])), (a1, .inl (cj1, 19, .inr (.inl (vp_updL st.1 p2.toNatClampNeg (st.1 p1.toNatClampNeg))))), (a2, .inl (cj2, 19, .inr (.inl (vp_updL st.2.1 p2.toNatClampNeg (st.2.1 p1.toNatClampNeg))))), (a3, .inl (cj3, 19, .inr (.inl st.2.2.1))), (a4, .inl (cj4, 19, .inr (.inl st.2.2.2.1))), (a5, .inl (cj5, 19, .inr (.inl st.2.2.2.2.1))), (a6, .inl (cj6, 19, .inr (.inl st.2.2.2.2.2)))]) := hD
  refine lv_aload_n hx hb dM_copy_24 rfl (lv_at hl 0 rfl) ?_
  refine va_get (D := D) (ci := 4) (v := .ref a3) (C := RM) (T := TM) (N := 7) hx hb hts hi4 hown hK hP 0 rfl rfl 3 (by decide) hk2 (fun _ h9 => h9) rfl dM_copy_25 ?_
  refine lv_iload_n hx hb dM_copy_28 rfl (lv_at hl 2 rfl) ?_
  refine lv_aload_n hx hb dM_copy_29 rfl (lv_at hl 0 rfl) ?_
  refine va_get (D := D) (ci := 4) (v := .ref a3) (C := RM) (T := TM) (N := 7) hx hb hts hi4 hown hK hP 0 rfl rfl 3 (by decide) hk2 (fun _ h9 => h9) rfl dM_copy_30 ?_
  refine lv_iload_n hx hb dM_copy_33 rfl (lv_at hl 1 rfl) ?_
  refine va_lald hx hb hK hP 3 2 rfl rfl hq1 dM_copy_34 ?_
  refine va_last hx hb hK hP hD hS 3 2 rfl rfl hq2 dM_copy_35 (fun H locs hP hD hS => ?_)
  have hP : va_P D vwCl ([(h0, .inr (4, [.int th, .ref a1, .ref a2, .ref a3, .ref a4, .ref a5, .ref a6])), (a1, .inl (cj1, 19, .inr (.inl (vp_updL st.1 p2.toNatClampNeg (st.1 p1.toNatClampNeg))))), (a2, .inl (cj2, 19, .inr (.inl (vp_updL st.2.1 p2.toNatClampNeg (st.2.1 p1.toNatClampNeg))))), (a3, .inl (cj3, 19, .inr (.inl (vp_updL st.2.2.1 p2.toNatClampNeg (st.2.2.1 p1.toNatClampNeg))))), (a4, .inl (cj4, 19, .inr (.inl st.2.2.2.1))), (a5, .inl (cj5, 19, .inr (.inl st.2.2.2.2.1))), (a6, .inl (cj6, 19, .inr (.inl st.2.2.2.2.2)))]) H := hP
  have hD : va_D A ([(h0, .inr (4, [.int th, .ref a1, .ref a2, .ref a3, .ref a4, .ref a5, .ref a6])), (a1, .inl (cj1, 19, .inr (.inl (vp_updL st.1 p2.toNatClampNeg (st.1 p1.toNatClampNeg))))), (a2, .inl (cj2, 19, .inr (.inl (vp_updL st.2.1 p2.toNatClampNeg (st.2.1 p1.toNatClampNeg))))), (a3, .inl (cj3, 19, .inr (.inl (vp_updL st.2.2.1 p2.toNatClampNeg (st.2.2.1 p1.toNatClampNeg))))), (a4, .inl (cj4, 19, .inr (.inl st.2.2.2.1))), (a5, .inl (cj5, 19, .inr (.inl st.2.2.2.2.1))), (a6, .inl (cj6, 19, .inr (.inl st.2.2.2.2.2)))]) := hD
  refine lv_aload_n hx hb dM_copy_36 rfl (lv_at hl 0 rfl) ?_
  refine va_get (D := D) (ci := 4) (v := .ref a4) (C := RM) (T := TM) (N := 7) hx hb hts hi4 hown hK hP 0 rfl rfl 4 (by decide) hk3 (fun _ h9 => h9) rfl dM_copy_37 ?_
  refine lv_iload_n hx hb dM_copy_40 rfl (lv_at hl 2 rfl) ?_
  refine lv_aload_n hx hb dM_copy_41 rfl (lv_at hl 0 rfl) ?_
  refine va_get (D := D) (ci := 4) (v := .ref a4) (C := RM) (T := TM) (N := 7) hx hb hts hi4 hown hK hP 0 rfl rfl 4 (by decide) hk3 (fun _ h9 => h9) rfl dM_copy_42 ?_
  refine lv_iload_n hx hb dM_copy_45 rfl (lv_at hl 1 rfl) ?_
  refine va_lald hx hb hK hP 4 3 rfl rfl hq1 dM_copy_46 ?_
  refine va_last hx hb hK hP hD hS 4 3 rfl rfl hq2 dM_copy_47 (fun H locs hP hD hS => ?_)
  have hP : va_P D vwCl ([(h0, .inr (4, [.int th, .ref a1, .ref a2, .ref a3, .ref a4, .ref a5, .ref a6])), (a1, .inl (cj1, 19, .inr (.inl (vp_updL st.1 p2.toNatClampNeg (st.1 p1.toNatClampNeg))))), (a2, .inl (cj2, 19, .inr (.inl (vp_updL st.2.1 p2.toNatClampNeg (st.2.1 p1.toNatClampNeg))))), (a3, .inl (cj3, 19, .inr (.inl (vp_updL st.2.2.1 p2.toNatClampNeg (st.2.2.1 p1.toNatClampNeg))))), (a4, .inl (cj4, 19, .inr (.inl (vp_updL st.2.2.2.1 p2.toNatClampNeg (st.2.2.2.1 p1.toNatClampNeg))))), (a5, .inl (cj5, 19, .inr (.inl st.2.2.2.2.1))), (a6, .inl (cj6, 19, .inr (.inl st.2.2.2.2.2)))]) H := hP
  have hD : va_D A ([(h0, .inr (4, [.int th, .ref a1, .ref a2, .ref a3, .ref a4, .ref a5, .ref a6])), (a1, .inl (cj1, 19, .inr (.inl (vp_updL st.1 p2.toNatClampNeg (st.1 p1.toNatClampNeg))))), (a2, .inl (cj2, 19, .inr (.inl (vp_updL st.2.1 p2.toNatClampNeg (st.2.1 p1.toNatClampNeg))))), (a3, .inl (cj3, 19, .inr (.inl (vp_updL st.2.2.1 p2.toNatClampNeg (st.2.2.1 p1.toNatClampNeg))))), (a4, .inl (cj4, 19, .inr (.inl (vp_updL st.2.2.2.1 p2.toNatClampNeg (st.2.2.2.1 p1.toNatClampNeg))))), (a5, .inl (cj5, 19, .inr (.inl st.2.2.2.2.1))), (a6, .inl (cj6, 19, .inr (.inl st.2.2.2.2.2)))]) := hD
  refine lv_aload_n hx hb dM_copy_48 rfl (lv_at hl 0 rfl) ?_
  refine va_get (D := D) (ci := 4) (v := .ref a5) (C := RM) (T := TM) (N := 7) hx hb hts hi4 hown hK hP 0 rfl rfl 5 (by decide) hk4 (fun _ h9 => h9) rfl dM_copy_49 ?_
  refine lv_iload_n hx hb dM_copy_52 rfl (lv_at hl 2 rfl) ?_
  refine lv_aload_n hx hb dM_copy_53 rfl (lv_at hl 0 rfl) ?_
  refine va_get (D := D) (ci := 4) (v := .ref a5) (C := RM) (T := TM) (N := 7) hx hb hts hi4 hown hK hP 0 rfl rfl 5 (by decide) hk4 (fun _ h9 => h9) rfl dM_copy_54 ?_
  refine lv_iload_n hx hb dM_copy_57 rfl (lv_at hl 1 rfl) ?_
  refine va_lald hx hb hK hP 5 4 rfl rfl hq1 dM_copy_58 ?_
  refine va_last hx hb hK hP hD hS 5 4 rfl rfl hq2 dM_copy_59 (fun H locs hP hD hS => ?_)
  have hP : va_P D vwCl ([(h0, .inr (4, [.int th, .ref a1, .ref a2, .ref a3, .ref a4, .ref a5, .ref a6])), (a1, .inl (cj1, 19, .inr (.inl (vp_updL st.1 p2.toNatClampNeg (st.1 p1.toNatClampNeg))))), (a2, .inl (cj2, 19, .inr (.inl (vp_updL st.2.1 p2.toNatClampNeg (st.2.1 p1.toNatClampNeg))))), (a3, .inl (cj3, 19, .inr (.inl (vp_updL st.2.2.1 p2.toNatClampNeg (st.2.2.1 p1.toNatClampNeg))))), (a4, .inl (cj4, 19, .inr (.inl (vp_updL st.2.2.2.1 p2.toNatClampNeg (st.2.2.2.1 p1.toNatClampNeg))))), (a5, .inl (cj5, 19, .inr (.inl (vp_updL st.2.2.2.2.1 p2.toNatClampNeg (st.2.2.2.2.1 p1.toNatClampNeg))))), (a6, .inl (cj6, 19, .inr (.inl st.2.2.2.2.2)))]) H := hP
  have hD : va_D A ([(h0, .inr (4, [.int th, .ref a1, .ref a2, .ref a3, .ref a4, .ref a5, .ref a6])), (a1, .inl (cj1, 19, .inr (.inl (vp_updL st.1 p2.toNatClampNeg (st.1 p1.toNatClampNeg))))), (a2, .inl (cj2, 19, .inr (.inl (vp_updL st.2.1 p2.toNatClampNeg (st.2.1 p1.toNatClampNeg))))), (a3, .inl (cj3, 19, .inr (.inl (vp_updL st.2.2.1 p2.toNatClampNeg (st.2.2.1 p1.toNatClampNeg))))), (a4, .inl (cj4, 19, .inr (.inl (vp_updL st.2.2.2.1 p2.toNatClampNeg (st.2.2.2.1 p1.toNatClampNeg))))), (a5, .inl (cj5, 19, .inr (.inl (vp_updL st.2.2.2.2.1 p2.toNatClampNeg (st.2.2.2.2.1 p1.toNatClampNeg))))), (a6, .inl (cj6, 19, .inr (.inl st.2.2.2.2.2)))]) := hD
  refine lv_aload_n hx hb dM_copy_60 rfl (lv_at hl 0 rfl) ?_
  refine va_get (D := D) (ci := 4) (v := .ref a6) (C := RM) (T := TM) (N := 7) hx hb hts hi4 hown hK hP 0 rfl rfl 6 (by decide) hk5 (fun _ h9 => h9) rfl dM_copy_61 ?_
  refine lv_iload_n hx hb dM_copy_64 rfl (lv_at hl 2 rfl) ?_
  refine lv_aload_n hx hb dM_copy_65 rfl (lv_at hl 0 rfl) ?_
  refine va_get (D := D) (ci := 4) (v := .ref a6) (C := RM) (T := TM) (N := 7) hx hb hts hi4 hown hK hP 0 rfl rfl 6 (by decide) hk5 (fun _ h9 => h9) rfl dM_copy_66 ?_
  refine lv_iload_n hx hb dM_copy_69 rfl (lv_at hl 1 rfl) ?_
  refine va_lald hx hb hK hP 6 5 rfl rfl hq1 dM_copy_70 ?_
  refine va_last hx hb hK hP hD hS 6 5 rfl rfl hq2 dM_copy_71 (fun H locs hP hD hS => ?_)
  have hP : va_P D vwCl ([(h0, .inr (4, [.int th, .ref a1, .ref a2, .ref a3, .ref a4, .ref a5, .ref a6])), (a1, .inl (cj1, 19, .inr (.inl (vp_updL st.1 p2.toNatClampNeg (st.1 p1.toNatClampNeg))))), (a2, .inl (cj2, 19, .inr (.inl (vp_updL st.2.1 p2.toNatClampNeg (st.2.1 p1.toNatClampNeg))))), (a3, .inl (cj3, 19, .inr (.inl (vp_updL st.2.2.1 p2.toNatClampNeg (st.2.2.1 p1.toNatClampNeg))))), (a4, .inl (cj4, 19, .inr (.inl (vp_updL st.2.2.2.1 p2.toNatClampNeg (st.2.2.2.1 p1.toNatClampNeg))))), (a5, .inl (cj5, 19, .inr (.inl (vp_updL st.2.2.2.2.1 p2.toNatClampNeg (st.2.2.2.2.1 p1.toNatClampNeg))))), (a6, .inl (cj6, 19, .inr (.inl (vp_updL st.2.2.2.2.2 p2.toNatClampNeg (st.2.2.2.2.2 p1.toNatClampNeg)))))]) H := hP
  have hD : va_D A ([(h0, .inr (4, [.int th, .ref a1, .ref a2, .ref a3, .ref a4, .ref a5, .ref a6])), (a1, .inl (cj1, 19, .inr (.inl (vp_updL st.1 p2.toNatClampNeg (st.1 p1.toNatClampNeg))))), (a2, .inl (cj2, 19, .inr (.inl (vp_updL st.2.1 p2.toNatClampNeg (st.2.1 p1.toNatClampNeg))))), (a3, .inl (cj3, 19, .inr (.inl (vp_updL st.2.2.1 p2.toNatClampNeg (st.2.2.1 p1.toNatClampNeg))))), (a4, .inl (cj4, 19, .inr (.inl (vp_updL st.2.2.2.1 p2.toNatClampNeg (st.2.2.2.1 p1.toNatClampNeg))))), (a5, .inl (cj5, 19, .inr (.inl (vp_updL st.2.2.2.2.1 p2.toNatClampNeg (st.2.2.2.2.1 p1.toNatClampNeg))))), (a6, .inl (cj6, 19, .inr (.inl (vp_updL st.2.2.2.2.2 p2.toNatClampNeg (st.2.2.2.2.2 p1.toNatClampNeg)))))]) := hD
  have e9 : f_M_copy st p1 p2 = (vp_updL st.1 p2.toNatClampNeg (st.1 p1.toNatClampNeg), vp_updL st.2.1 p2.toNatClampNeg (st.2.1 p1.toNatClampNeg), vp_updL st.2.2.1 p2.toNatClampNeg (st.2.2.1 p1.toNatClampNeg), vp_updL st.2.2.2.1 p2.toNatClampNeg (st.2.2.2.1 p1.toNatClampNeg), vp_updL st.2.2.2.2.1 p2.toNatClampNeg (st.2.2.2.2.1 p1.toNatClampNeg), vp_updL st.2.2.2.2.2 p2.toNatClampNeg (st.2.2.2.2.2 p1.toNatClampNeg)) := rfl
  rw [e9]
  exact sp_vret C hAe hP hK hD hS dM_copy_72
def f_M_setAny (st : Md) (p1 : Int32) : Md :=
  (vp_updL st.1 p1.toNatClampNeg 0, vp_updL st.2.1 p1.toNatClampNeg (-1), vp_updL st.2.2.1 p1.toNatClampNeg 0, vp_updL st.2.2.2.1 p1.toNatClampNeg (-1), vp_updL st.2.2.2.2.1 p1.toNatClampNeg (-9223372036854775808), vp_updL st.2.2.2.2.2 p1.toNatClampNeg 9223372036854775807)
set_option maxHeartbeats 4000000 in
set_option maxRecDepth 100000 in
theorem c_M_setAny (l : Launch) (D : va_G) (h0 : Nat) (a1 : Nat) (a2 : Nat) (a3 : Nat) (a4 : Nat) (a5 : Nat) (a6 : Nat) (cj1 cj2 cj3 cj4 cj5 cj6 : ClassId) (th : Int32) (st : Md) (p1 : Int32) (hq1 : vp_in p1 19) : sp_M l yM_setAny wsM_setAny ({ frames := 0, cells := 0, slots := 0, locals := 0 }) D [.ref h0, .int p1] ([(h0, .inr (4, [.int th, .ref a1, .ref a2, .ref a3, .ref a4, .ref a5, .ref a6])), (a1, .inl (cj1, 19, .inr (.inl st.1))), (a2, .inl (cj2, 19, .inr (.inl st.2.1))), (a3, .inl (cj3, 19, .inr (.inl st.2.2.1))), (a4, .inl (cj4, 19, .inr (.inl st.2.2.2.1))), (a5, .inl (cj5, 19, .inr (.inl st.2.2.2.2.1))), (a6, .inl (cj6, 19, .inr (.inl st.2.2.2.2.2)))]) [(cj1, .long), (cj2, .long), (cj3, .long), (cj4, .long), (cj5, .long), (cj6, .long)] (sp_Qv D ([(h0, .inr (4, [.int th, .ref a1, .ref a2, .ref a3, .ref a4, .ref a5, .ref a6])), (a1, .inl (cj1, 19, .inr (.inl st.1))), (a2, .inl (cj2, 19, .inr (.inl st.2.1))), (a3, .inl (cj3, 19, .inr (.inl st.2.2.1))), (a4, .inl (cj4, 19, .inr (.inl st.2.2.2.1))), (a5, .inl (cj5, 19, .inr (.inl st.2.2.2.2.1))), (a6, .inl (cj6, 19, .inr (.inl st.2.2.2.2.2)))]) ([(h0, .inr (4, [.int th, .ref a1, .ref a2, .ref a3, .ref a4, .ref a5, .ref a6])), (a1, .inl (cj1, 19, .inr (.inl ((f_M_setAny st p1).1)))), (a2, .inl (cj2, 19, .inr (.inl ((f_M_setAny st p1).2.1)))), (a3, .inl (cj3, 19, .inr (.inl ((f_M_setAny st p1).2.2.1)))), (a4, .inl (cj4, 19, .inr (.inl ((f_M_setAny st p1).2.2.2.1)))), (a5, .inl (cj5, 19, .inr (.inl ((f_M_setAny st p1).2.2.2.2.1)))), (a6, .inl (cj6, 19, .inr (.inl ((f_M_setAny st p1).2.2.2.2.2))))]) [(cj1, .long), (cj2, .long), (cj3, .long), (cj4, .long), (cj5, .long), (cj6, .long)]) := by
  refine sp_ofW (cc := cM_setAny) (nL := 2) (ret := none) (own := RM) (by decide) rfl rfl (Nat.le_of_ble_eq_true rfl) ?_
  intro p e s m below meth c A ls hAe hnm C hA hP hK hD hS hl
  have hx := C.1
  have hb := C.2.1
  have hown := C.2.2.2.2.1
  have hts := C.2.2.2.2.2.1
  have hl : lv_has ls 2 [(0, .ref h0), (1, .int p1)] := hl
  have hi4 : ∀ w ∈ u_ws RM TM 7, w ∈ wsM_setAny := fun w h => List.mem_cons_of_mem _ (inM w h)
  have hk0 := hts _ (List.mem_cons_of_mem _ wm_382)
  have hk1 := hts _ (List.mem_cons_of_mem _ wm_383)
  have hk2 := hts _ (List.mem_cons_of_mem _ wm_381)
  have hk3 := hts _ (List.mem_cons_of_mem _ wm_384)
  have hk4 := hts _ (List.mem_cons_of_mem _ wm_385)
  have hk5 := hts _ (List.mem_cons_of_mem _ wm_386)
  have hk6 := hts _ (List.mem_cons_of_mem _ wm_374)
  have hk7 := hts _ (List.mem_cons_of_mem _ wm_387)
  have hk8 := hts _ (List.mem_cons_of_mem _ wm_388)
  refine lv_aload_n hx hb dM_setAny_0 rfl (lv_at hl 0 rfl) ?_
  refine va_get (D := D) (ci := 4) (v := .ref a1) (C := RM) (T := TM) (N := 7) hx hb hts hi4 hown hK hP 0 rfl rfl 1 (by decide) hk0 (fun _ h9 => h9) rfl dM_setAny_1 ?_
  refine lv_iload_n hx hb dM_setAny_4 rfl (lv_at hl 1 rfl) ?_
  refine lv_lconst (v := 0) hx hb dM_setAny_5 (by decide) ?_
  refine va_last hx hb hK hP hD hS 1 0 rfl rfl hq1 dM_setAny_6 (fun H locs hP hD hS => ?_)
  have hP : va_P D vwCl ([(h0, .inr (4, [.int th, .ref a1, .ref a2, .ref a3, .ref a4, .ref a5, .ref a6])), (a1, .inl (cj1, 19, .inr (.inl (vp_updL st.1 p1.toNatClampNeg 0)))), (a2, .inl (cj2, 19, .inr (.inl st.2.1))), (a3, .inl (cj3, 19, .inr (.inl st.2.2.1))), (a4, .inl (cj4, 19, .inr (.inl st.2.2.2.1))), (a5, .inl (cj5, 19, .inr (.inl st.2.2.2.2.1))), (a6, .inl (cj6, 19, .inr (.inl st.2.2.2.2.2)))]) H := hP
  have hD : va_D A ([(h0, .inr (4, [.int th, .ref a1, .ref a2, .ref a3, .ref a4, .ref a5, .ref a6])), (a1, .inl (cj1, 19, .inr (.inl (vp_updL st.1 p1.toNatClampNeg 0)))), (a2, .inl (cj2, 19, .inr (.inl st.2.1))), (a3, .inl (cj3, 19, .inr (.inl st.2.2.1))), (a4, .inl (cj4, 19, .inr (.inl st.2.2.2.1))), (a5, .inl (cj5, 19, .inr (.inl st.2.2.2.2.1))), (a6, .inl (cj6, 19, .inr (.inl st.2.2.2.2.2)))]) := hD
  refine lv_aload_n hx hb dM_setAny_7 rfl (lv_at hl 0 rfl) ?_
  refine va_get (D := D) (ci := 4) (v := .ref a2) (C := RM) (T := TM) (N := 7) hx hb hts hi4 hown hK hP 0 rfl rfl 2 (by decide) hk1 (fun _ h9 => h9) rfl dM_setAny_8 ?_
  refine lv_iload_n hx hb dM_setAny_11 rfl (lv_at hl 1 rfl) ?_
  refine lv_ldc2 (v := (-1)) hx hb hown hk2 dM_setAny_12 ?_
  refine va_last hx hb hK hP hD hS 2 1 rfl rfl hq1 dM_setAny_15 (fun H locs hP hD hS => ?_)
  have hP : va_P D vwCl ([(h0, .inr (4, [.int th, .ref a1, .ref a2, .ref a3, .ref a4, .ref a5, .ref a6])), (a1, .inl (cj1, 19, .inr (.inl (vp_updL st.1 p1.toNatClampNeg 0)))), (a2, .inl (cj2, 19, .inr (.inl (vp_updL st.2.1 p1.toNatClampNeg (-1))))), (a3, .inl (cj3, 19, .inr (.inl st.2.2.1))), (a4, .inl (cj4, 19, .inr (.inl st.2.2.2.1))), (a5, .inl (cj5, 19, .inr (.inl st.2.2.2.2.1))), (a6, .inl (cj6, 19, .inr (.inl st.2.2.2.2.2)))]) H := hP
  have hD : va_D A ([(h0, .inr (4, [.int th, .ref a1, .ref a2, .ref a3, .ref a4, .ref a5, .ref a6])), (a1, .inl (cj1, 19, .inr (.inl (vp_updL st.1 p1.toNatClampNeg 0)))), (a2, .inl (cj2, 19, .inr (.inl (vp_updL st.2.1 p1.toNatClampNeg (-1))))), (a3, .inl (cj3, 19, .inr (.inl st.2.2.1))), (a4, .inl (cj4, 19, .inr (.inl st.2.2.2.1))), (a5, .inl (cj5, 19, .inr (.inl st.2.2.2.2.1))), (a6, .inl (cj6, 19, .inr (.inl st.2.2.2.2.2)))]) := hD
  refine lv_aload_n hx hb dM_setAny_16 rfl (lv_at hl 0 rfl) ?_
  refine va_get (D := D) (ci := 4) (v := .ref a3) (C := RM) (T := TM) (N := 7) hx hb hts hi4 hown hK hP 0 rfl rfl 3 (by decide) hk3 (fun _ h9 => h9) rfl dM_setAny_17 ?_
  refine lv_iload_n hx hb dM_setAny_20 rfl (lv_at hl 1 rfl) ?_
  refine lv_lconst (v := 0) hx hb dM_setAny_21 (by decide) ?_
  refine va_last hx hb hK hP hD hS 3 2 rfl rfl hq1 dM_setAny_22 (fun H locs hP hD hS => ?_)
  have hP : va_P D vwCl ([(h0, .inr (4, [.int th, .ref a1, .ref a2, .ref a3, .ref a4, .ref a5, .ref a6])), (a1, .inl (cj1, 19, .inr (.inl (vp_updL st.1 p1.toNatClampNeg 0)))), (a2, .inl (cj2, 19, .inr (.inl (vp_updL st.2.1 p1.toNatClampNeg (-1))))), (a3, .inl (cj3, 19, .inr (.inl (vp_updL st.2.2.1 p1.toNatClampNeg 0)))), (a4, .inl (cj4, 19, .inr (.inl st.2.2.2.1))), (a5, .inl (cj5, 19, .inr (.inl st.2.2.2.2.1))), (a6, .inl (cj6, 19, .inr (.inl st.2.2.2.2.2)))]) H := hP
  have hD : va_D A ([(h0, .inr (4, [.int th, .ref a1, .ref a2, .ref a3, .ref a4, .ref a5, .ref a6])), (a1, .inl (cj1, 19, .inr (.inl (vp_updL st.1 p1.toNatClampNeg 0)))), (a2, .inl (cj2, 19, .inr (.inl (vp_updL st.2.1 p1.toNatClampNeg (-1))))), (a3, .inl (cj3, 19, .inr (.inl (vp_updL st.2.2.1 p1.toNatClampNeg 0)))), (a4, .inl (cj4, 19, .inr (.inl st.2.2.2.1))), (a5, .inl (cj5, 19, .inr (.inl st.2.2.2.2.1))), (a6, .inl (cj6, 19, .inr (.inl st.2.2.2.2.2)))]) := hD
  refine lv_aload_n hx hb dM_setAny_23 rfl (lv_at hl 0 rfl) ?_
  refine va_get (D := D) (ci := 4) (v := .ref a4) (C := RM) (T := TM) (N := 7) hx hb hts hi4 hown hK hP 0 rfl rfl 4 (by decide) hk4 (fun _ h9 => h9) rfl dM_setAny_24 ?_
  refine lv_iload_n hx hb dM_setAny_27 rfl (lv_at hl 1 rfl) ?_
  refine lv_ldc2 (v := (-1)) hx hb hown hk2 dM_setAny_28 ?_
  refine va_last hx hb hK hP hD hS 4 3 rfl rfl hq1 dM_setAny_31 (fun H locs hP hD hS => ?_)
  have hP : va_P D vwCl ([(h0, .inr (4, [.int th, .ref a1, .ref a2, .ref a3, .ref a4, .ref a5, .ref a6])), (a1, .inl (cj1, 19, .inr (.inl (vp_updL st.1 p1.toNatClampNeg 0)))), (a2, .inl (cj2, 19, .inr (.inl (vp_updL st.2.1 p1.toNatClampNeg (-1))))), (a3, .inl (cj3, 19, .inr (.inl (vp_updL st.2.2.1 p1.toNatClampNeg 0)))), (a4, .inl (cj4, 19, .inr (.inl (vp_updL st.2.2.2.1 p1.toNatClampNeg (-1))))), (a5, .inl (cj5, 19, .inr (.inl st.2.2.2.2.1))), (a6, .inl (cj6, 19, .inr (.inl st.2.2.2.2.2)))]) H := hP
  have hD : va_D A ([(h0, .inr (4, [.int th, .ref a1, .ref a2, .ref a3, .ref a4, .ref a5, .ref a6])), (a1, .inl (cj1, 19, .inr (.inl (vp_updL st.1 p1.toNatClampNeg 0)))), (a2, .inl (cj2, 19, .inr (.inl (vp_updL st.2.1 p1.toNatClampNeg (-1))))), (a3, .inl (cj3, 19, .inr (.inl (vp_updL st.2.2.1 p1.toNatClampNeg 0)))), (a4, .inl (cj4, 19, .inr (.inl (vp_updL st.2.2.2.1 p1.toNatClampNeg (-1))))), (a5, .inl (cj5, 19, .inr (.inl st.2.2.2.2.1))), (a6, .inl (cj6, 19, .inr (.inl st.2.2.2.2.2)))]) := hD
  refine lv_aload_n hx hb dM_setAny_32 rfl (lv_at hl 0 rfl) ?_
  refine va_get (D := D) (ci := 4) (v := .ref a5) (C := RM) (T := TM) (N := 7) hx hb hts hi4 hown hK hP 0 rfl rfl 5 (by decide) hk5 (fun _ h9 => h9) rfl dM_setAny_33 ?_
  refine lv_iload_n hx hb dM_setAny_36 rfl (lv_at hl 1 rfl) ?_
  refine lv_ldc2 (v := (-9223372036854775808)) hx hb hown hk6 dM_setAny_37 ?_
  refine va_last hx hb hK hP hD hS 5 4 rfl rfl hq1 dM_setAny_40 (fun H locs hP hD hS => ?_)
  have hP : va_P D vwCl ([(h0, .inr (4, [.int th, .ref a1, .ref a2, .ref a3, .ref a4, .ref a5, .ref a6])), (a1, .inl (cj1, 19, .inr (.inl (vp_updL st.1 p1.toNatClampNeg 0)))), (a2, .inl (cj2, 19, .inr (.inl (vp_updL st.2.1 p1.toNatClampNeg (-1))))), (a3, .inl (cj3, 19, .inr (.inl (vp_updL st.2.2.1 p1.toNatClampNeg 0)))), (a4, .inl (cj4, 19, .inr (.inl (vp_updL st.2.2.2.1 p1.toNatClampNeg (-1))))), (a5, .inl (cj5, 19, .inr (.inl (vp_updL st.2.2.2.2.1 p1.toNatClampNeg (-9223372036854775808))))), (a6, .inl (cj6, 19, .inr (.inl st.2.2.2.2.2)))]) H := hP
  have hD : va_D A ([(h0, .inr (4, [.int th, .ref a1, .ref a2, .ref a3, .ref a4, .ref a5, .ref a6])), (a1, .inl (cj1, 19, .inr (.inl (vp_updL st.1 p1.toNatClampNeg 0)))), (a2, .inl (cj2, 19, .inr (.inl (vp_updL st.2.1 p1.toNatClampNeg (-1))))), (a3, .inl (cj3, 19, .inr (.inl (vp_updL st.2.2.1 p1.toNatClampNeg 0)))), (a4, .inl (cj4, 19, .inr (.inl (vp_updL st.2.2.2.1 p1.toNatClampNeg (-1))))), (a5, .inl (cj5, 19, .inr (.inl (vp_updL st.2.2.2.2.1 p1.toNatClampNeg (-9223372036854775808))))), (a6, .inl (cj6, 19, .inr (.inl st.2.2.2.2.2)))]) := hD
  refine lv_aload_n hx hb dM_setAny_41 rfl (lv_at hl 0 rfl) ?_
  refine va_get (D := D) (ci := 4) (v := .ref a6) (C := RM) (T := TM) (N := 7) hx hb hts hi4 hown hK hP 0 rfl rfl 6 (by decide) hk7 (fun _ h9 => h9) rfl dM_setAny_42 ?_
  refine lv_iload_n hx hb dM_setAny_45 rfl (lv_at hl 1 rfl) ?_
  refine lv_ldc2 (v := 9223372036854775807) hx hb hown hk8 dM_setAny_46 ?_
  refine va_last hx hb hK hP hD hS 6 5 rfl rfl hq1 dM_setAny_49 (fun H locs hP hD hS => ?_)
  have hP : va_P D vwCl ([(h0, .inr (4, [.int th, .ref a1, .ref a2, .ref a3, .ref a4, .ref a5, .ref a6])), (a1, .inl (cj1, 19, .inr (.inl (vp_updL st.1 p1.toNatClampNeg 0)))), (a2, .inl (cj2, 19, .inr (.inl (vp_updL st.2.1 p1.toNatClampNeg (-1))))), (a3, .inl (cj3, 19, .inr (.inl (vp_updL st.2.2.1 p1.toNatClampNeg 0)))), (a4, .inl (cj4, 19, .inr (.inl (vp_updL st.2.2.2.1 p1.toNatClampNeg (-1))))), (a5, .inl (cj5, 19, .inr (.inl (vp_updL st.2.2.2.2.1 p1.toNatClampNeg (-9223372036854775808))))), (a6, .inl (cj6, 19, .inr (.inl (vp_updL st.2.2.2.2.2 p1.toNatClampNeg 9223372036854775807))))]) H := hP
  have hD : va_D A ([(h0, .inr (4, [.int th, .ref a1, .ref a2, .ref a3, .ref a4, .ref a5, .ref a6])), (a1, .inl (cj1, 19, .inr (.inl (vp_updL st.1 p1.toNatClampNeg 0)))), (a2, .inl (cj2, 19, .inr (.inl (vp_updL st.2.1 p1.toNatClampNeg (-1))))), (a3, .inl (cj3, 19, .inr (.inl (vp_updL st.2.2.1 p1.toNatClampNeg 0)))), (a4, .inl (cj4, 19, .inr (.inl (vp_updL st.2.2.2.1 p1.toNatClampNeg (-1))))), (a5, .inl (cj5, 19, .inr (.inl (vp_updL st.2.2.2.2.1 p1.toNatClampNeg (-9223372036854775808))))), (a6, .inl (cj6, 19, .inr (.inl (vp_updL st.2.2.2.2.2 p1.toNatClampNeg 9223372036854775807))))]) := hD
  have e9 : f_M_setAny st p1 = (vp_updL st.1 p1.toNatClampNeg 0, vp_updL st.2.1 p1.toNatClampNeg (-1), vp_updL st.2.2.1 p1.toNatClampNeg 0, vp_updL st.2.2.2.1 p1.toNatClampNeg (-1), vp_updL st.2.2.2.2.1 p1.toNatClampNeg (-9223372036854775808), vp_updL st.2.2.2.2.2 p1.toNatClampNeg 9223372036854775807) := rfl
  rw [e9]
  exact sp_vret C hAe hP hK hD hS dM_setAny_50
def f_M_setExact (st : Md) (p1 : Int32) (p2 : Int64) : Md :=
  (vp_updL st.1 p1.toNatClampNeg p2, vp_updL st.2.1 p1.toNatClampNeg 0, vp_updL st.2.2.1 p1.toNatClampNeg p2, vp_updL st.2.2.2.1 p1.toNatClampNeg p2, vp_updL st.2.2.2.2.1 p1.toNatClampNeg p2, vp_updL st.2.2.2.2.2 p1.toNatClampNeg p2)
set_option maxHeartbeats 4000000 in
set_option maxRecDepth 100000 in
theorem c_M_setExact (l : Launch) (D : va_G) (h0 : Nat) (a1 : Nat) (a2 : Nat) (a3 : Nat) (a4 : Nat) (a5 : Nat) (a6 : Nat) (cj1 cj2 cj3 cj4 cj5 cj6 : ClassId) (th : Int32) (st : Md) (p1 : Int32) (p2 : Int64) (hq1 : vp_in p1 19) : sp_M l yM_setExact wsM_setExact ({ frames := 0, cells := 0, slots := 0, locals := 0 }) D [.ref h0, .int p1, .long p2] ([(h0, .inr (4, [.int th, .ref a1, .ref a2, .ref a3, .ref a4, .ref a5, .ref a6])), (a1, .inl (cj1, 19, .inr (.inl st.1))), (a2, .inl (cj2, 19, .inr (.inl st.2.1))), (a3, .inl (cj3, 19, .inr (.inl st.2.2.1))), (a4, .inl (cj4, 19, .inr (.inl st.2.2.2.1))), (a5, .inl (cj5, 19, .inr (.inl st.2.2.2.2.1))), (a6, .inl (cj6, 19, .inr (.inl st.2.2.2.2.2)))]) [(cj1, .long), (cj2, .long), (cj3, .long), (cj4, .long), (cj5, .long), (cj6, .long)] (sp_Qv D ([(h0, .inr (4, [.int th, .ref a1, .ref a2, .ref a3, .ref a4, .ref a5, .ref a6])), (a1, .inl (cj1, 19, .inr (.inl st.1))), (a2, .inl (cj2, 19, .inr (.inl st.2.1))), (a3, .inl (cj3, 19, .inr (.inl st.2.2.1))), (a4, .inl (cj4, 19, .inr (.inl st.2.2.2.1))), (a5, .inl (cj5, 19, .inr (.inl st.2.2.2.2.1))), (a6, .inl (cj6, 19, .inr (.inl st.2.2.2.2.2)))]) ([(h0, .inr (4, [.int th, .ref a1, .ref a2, .ref a3, .ref a4, .ref a5, .ref a6])), (a1, .inl (cj1, 19, .inr (.inl ((f_M_setExact st p1 p2).1)))), (a2, .inl (cj2, 19, .inr (.inl ((f_M_setExact st p1 p2).2.1)))), (a3, .inl (cj3, 19, .inr (.inl ((f_M_setExact st p1 p2).2.2.1)))), (a4, .inl (cj4, 19, .inr (.inl ((f_M_setExact st p1 p2).2.2.2.1)))), (a5, .inl (cj5, 19, .inr (.inl ((f_M_setExact st p1 p2).2.2.2.2.1)))), (a6, .inl (cj6, 19, .inr (.inl ((f_M_setExact st p1 p2).2.2.2.2.2))))]) [(cj1, .long), (cj2, .long), (cj3, .long), (cj4, .long), (cj5, .long), (cj6, .long)]) := by
  refine sp_ofW (cc := cM_setExact) (nL := 4) (ret := none) (own := RM) (by decide) rfl rfl (Nat.le_of_ble_eq_true rfl) ?_
  intro p e s m below meth c A ls hAe hnm C hA hP hK hD hS hl
  have hx := C.1
  have hb := C.2.1
  have hown := C.2.2.2.2.1
  have hts := C.2.2.2.2.2.1
  have hl : lv_has ls 4 [(0, .ref h0), (1, .int p1), (2, .long p2)] := hl
  have hi4 : ∀ w ∈ u_ws RM TM 7, w ∈ wsM_setExact := fun w h => List.mem_cons_of_mem _ (inM w h)
  have hk0 := hts _ (List.mem_cons_of_mem _ wm_382)
  have hk1 := hts _ (List.mem_cons_of_mem _ wm_383)
  have hk2 := hts _ (List.mem_cons_of_mem _ wm_384)
  have hk3 := hts _ (List.mem_cons_of_mem _ wm_385)
  have hk4 := hts _ (List.mem_cons_of_mem _ wm_386)
  have hk5 := hts _ (List.mem_cons_of_mem _ wm_387)
  refine lv_aload_n hx hb dM_setExact_0 rfl (lv_at hl 0 rfl) ?_
  refine va_get (D := D) (ci := 4) (v := .ref a1) (C := RM) (T := TM) (N := 7) hx hb hts hi4 hown hK hP 0 rfl rfl 1 (by decide) hk0 (fun _ h9 => h9) rfl dM_setExact_1 ?_
  refine lv_iload_n hx hb dM_setExact_4 rfl (lv_at hl 1 rfl) ?_
  refine lv_lload_n hx hb dM_setExact_5 rfl (lv_at hl 2 rfl) ?_
  refine va_last hx hb hK hP hD hS 1 0 rfl rfl hq1 dM_setExact_6 (fun H locs hP hD hS => ?_)
  have hP : va_P D vwCl ([(h0, .inr (4, [.int th, .ref a1, .ref a2, .ref a3, .ref a4, .ref a5, .ref a6])), (a1, .inl (cj1, 19, .inr (.inl (vp_updL st.1 p1.toNatClampNeg p2)))), (a2, .inl (cj2, 19, .inr (.inl st.2.1))), (a3, .inl (cj3, 19, .inr (.inl st.2.2.1))), (a4, .inl (cj4, 19, .inr (.inl st.2.2.2.1))), (a5, .inl (cj5, 19, .inr (.inl st.2.2.2.2.1))), (a6, .inl (cj6, 19, .inr (.inl st.2.2.2.2.2)))]) H := hP
  have hD : va_D A ([(h0, .inr (4, [.int th, .ref a1, .ref a2, .ref a3, .ref a4, .ref a5, .ref a6])), (a1, .inl (cj1, 19, .inr (.inl (vp_updL st.1 p1.toNatClampNeg p2)))), (a2, .inl (cj2, 19, .inr (.inl st.2.1))), (a3, .inl (cj3, 19, .inr (.inl st.2.2.1))), (a4, .inl (cj4, 19, .inr (.inl st.2.2.2.1))), (a5, .inl (cj5, 19, .inr (.inl st.2.2.2.2.1))), (a6, .inl (cj6, 19, .inr (.inl st.2.2.2.2.2)))]) := hD
  refine lv_aload_n hx hb dM_setExact_7 rfl (lv_at hl 0 rfl) ?_
  refine va_get (D := D) (ci := 4) (v := .ref a2) (C := RM) (T := TM) (N := 7) hx hb hts hi4 hown hK hP 0 rfl rfl 2 (by decide) hk1 (fun _ h9 => h9) rfl dM_setExact_8 ?_
  refine lv_iload_n hx hb dM_setExact_11 rfl (lv_at hl 1 rfl) ?_
  refine lv_lconst (v := 0) hx hb dM_setExact_12 (by decide) ?_
  refine va_last hx hb hK hP hD hS 2 1 rfl rfl hq1 dM_setExact_13 (fun H locs hP hD hS => ?_)
  have hP : va_P D vwCl ([(h0, .inr (4, [.int th, .ref a1, .ref a2, .ref a3, .ref a4, .ref a5, .ref a6])), (a1, .inl (cj1, 19, .inr (.inl (vp_updL st.1 p1.toNatClampNeg p2)))), (a2, .inl (cj2, 19, .inr (.inl (vp_updL st.2.1 p1.toNatClampNeg 0)))), (a3, .inl (cj3, 19, .inr (.inl st.2.2.1))), (a4, .inl (cj4, 19, .inr (.inl st.2.2.2.1))), (a5, .inl (cj5, 19, .inr (.inl st.2.2.2.2.1))), (a6, .inl (cj6, 19, .inr (.inl st.2.2.2.2.2)))]) H := hP
  have hD : va_D A ([(h0, .inr (4, [.int th, .ref a1, .ref a2, .ref a3, .ref a4, .ref a5, .ref a6])), (a1, .inl (cj1, 19, .inr (.inl (vp_updL st.1 p1.toNatClampNeg p2)))), (a2, .inl (cj2, 19, .inr (.inl (vp_updL st.2.1 p1.toNatClampNeg 0)))), (a3, .inl (cj3, 19, .inr (.inl st.2.2.1))), (a4, .inl (cj4, 19, .inr (.inl st.2.2.2.1))), (a5, .inl (cj5, 19, .inr (.inl st.2.2.2.2.1))), (a6, .inl (cj6, 19, .inr (.inl st.2.2.2.2.2)))]) := hD
  refine lv_aload_n hx hb dM_setExact_14 rfl (lv_at hl 0 rfl) ?_
  refine va_get (D := D) (ci := 4) (v := .ref a3) (C := RM) (T := TM) (N := 7) hx hb hts hi4 hown hK hP 0 rfl rfl 3 (by decide) hk2 (fun _ h9 => h9) rfl dM_setExact_15 ?_
  refine lv_iload_n hx hb dM_setExact_18 rfl (lv_at hl 1 rfl) ?_
  refine lv_lload_n hx hb dM_setExact_19 rfl (lv_at hl 2 rfl) ?_
  refine va_last hx hb hK hP hD hS 3 2 rfl rfl hq1 dM_setExact_20 (fun H locs hP hD hS => ?_)
  have hP : va_P D vwCl ([(h0, .inr (4, [.int th, .ref a1, .ref a2, .ref a3, .ref a4, .ref a5, .ref a6])), (a1, .inl (cj1, 19, .inr (.inl (vp_updL st.1 p1.toNatClampNeg p2)))), (a2, .inl (cj2, 19, .inr (.inl (vp_updL st.2.1 p1.toNatClampNeg 0)))), (a3, .inl (cj3, 19, .inr (.inl (vp_updL st.2.2.1 p1.toNatClampNeg p2)))), (a4, .inl (cj4, 19, .inr (.inl st.2.2.2.1))), (a5, .inl (cj5, 19, .inr (.inl st.2.2.2.2.1))), (a6, .inl (cj6, 19, .inr (.inl st.2.2.2.2.2)))]) H := hP
  have hD : va_D A ([(h0, .inr (4, [.int th, .ref a1, .ref a2, .ref a3, .ref a4, .ref a5, .ref a6])), (a1, .inl (cj1, 19, .inr (.inl (vp_updL st.1 p1.toNatClampNeg p2)))), (a2, .inl (cj2, 19, .inr (.inl (vp_updL st.2.1 p1.toNatClampNeg 0)))), (a3, .inl (cj3, 19, .inr (.inl (vp_updL st.2.2.1 p1.toNatClampNeg p2)))), (a4, .inl (cj4, 19, .inr (.inl st.2.2.2.1))), (a5, .inl (cj5, 19, .inr (.inl st.2.2.2.2.1))), (a6, .inl (cj6, 19, .inr (.inl st.2.2.2.2.2)))]) := hD
  refine lv_aload_n hx hb dM_setExact_21 rfl (lv_at hl 0 rfl) ?_
  refine va_get (D := D) (ci := 4) (v := .ref a4) (C := RM) (T := TM) (N := 7) hx hb hts hi4 hown hK hP 0 rfl rfl 4 (by decide) hk3 (fun _ h9 => h9) rfl dM_setExact_22 ?_
  refine lv_iload_n hx hb dM_setExact_25 rfl (lv_at hl 1 rfl) ?_
  refine lv_lload_n hx hb dM_setExact_26 rfl (lv_at hl 2 rfl) ?_
  refine va_last hx hb hK hP hD hS 4 3 rfl rfl hq1 dM_setExact_27 (fun H locs hP hD hS => ?_)
  have hP : va_P D vwCl ([(h0, .inr (4, [.int th, .ref a1, .ref a2, .ref a3, .ref a4, .ref a5, .ref a6])), (a1, .inl (cj1, 19, .inr (.inl (vp_updL st.1 p1.toNatClampNeg p2)))), (a2, .inl (cj2, 19, .inr (.inl (vp_updL st.2.1 p1.toNatClampNeg 0)))), (a3, .inl (cj3, 19, .inr (.inl (vp_updL st.2.2.1 p1.toNatClampNeg p2)))), (a4, .inl (cj4, 19, .inr (.inl (vp_updL st.2.2.2.1 p1.toNatClampNeg p2)))), (a5, .inl (cj5, 19, .inr (.inl st.2.2.2.2.1))), (a6, .inl (cj6, 19, .inr (.inl st.2.2.2.2.2)))]) H := hP
  have hD : va_D A ([(h0, .inr (4, [.int th, .ref a1, .ref a2, .ref a3, .ref a4, .ref a5, .ref a6])), (a1, .inl (cj1, 19, .inr (.inl (vp_updL st.1 p1.toNatClampNeg p2)))), (a2, .inl (cj2, 19, .inr (.inl (vp_updL st.2.1 p1.toNatClampNeg 0)))), (a3, .inl (cj3, 19, .inr (.inl (vp_updL st.2.2.1 p1.toNatClampNeg p2)))), (a4, .inl (cj4, 19, .inr (.inl (vp_updL st.2.2.2.1 p1.toNatClampNeg p2)))), (a5, .inl (cj5, 19, .inr (.inl st.2.2.2.2.1))), (a6, .inl (cj6, 19, .inr (.inl st.2.2.2.2.2)))]) := hD
  refine lv_aload_n hx hb dM_setExact_28 rfl (lv_at hl 0 rfl) ?_
  refine va_get (D := D) (ci := 4) (v := .ref a5) (C := RM) (T := TM) (N := 7) hx hb hts hi4 hown hK hP 0 rfl rfl 5 (by decide) hk4 (fun _ h9 => h9) rfl dM_setExact_29 ?_
  refine lv_iload_n hx hb dM_setExact_32 rfl (lv_at hl 1 rfl) ?_
  refine lv_lload_n hx hb dM_setExact_33 rfl (lv_at hl 2 rfl) ?_
  refine va_last hx hb hK hP hD hS 5 4 rfl rfl hq1 dM_setExact_34 (fun H locs hP hD hS => ?_)
  have hP : va_P D vwCl ([(h0, .inr (4, [.int th, .ref a1, .ref a2, .ref a3, .ref a4, .ref a5, .ref a6])), (a1, .inl (cj1, 19, .inr (.inl (vp_updL st.1 p1.toNatClampNeg p2)))), (a2, .inl (cj2, 19, .inr (.inl (vp_updL st.2.1 p1.toNatClampNeg 0)))), (a3, .inl (cj3, 19, .inr (.inl (vp_updL st.2.2.1 p1.toNatClampNeg p2)))), (a4, .inl (cj4, 19, .inr (.inl (vp_updL st.2.2.2.1 p1.toNatClampNeg p2)))), (a5, .inl (cj5, 19, .inr (.inl (vp_updL st.2.2.2.2.1 p1.toNatClampNeg p2)))), (a6, .inl (cj6, 19, .inr (.inl st.2.2.2.2.2)))]) H := hP
  have hD : va_D A ([(h0, .inr (4, [.int th, .ref a1, .ref a2, .ref a3, .ref a4, .ref a5, .ref a6])), (a1, .inl (cj1, 19, .inr (.inl (vp_updL st.1 p1.toNatClampNeg p2)))), (a2, .inl (cj2, 19, .inr (.inl (vp_updL st.2.1 p1.toNatClampNeg 0)))), (a3, .inl (cj3, 19, .inr (.inl (vp_updL st.2.2.1 p1.toNatClampNeg p2)))), (a4, .inl (cj4, 19, .inr (.inl (vp_updL st.2.2.2.1 p1.toNatClampNeg p2)))), (a5, .inl (cj5, 19, .inr (.inl (vp_updL st.2.2.2.2.1 p1.toNatClampNeg p2)))), (a6, .inl (cj6, 19, .inr (.inl st.2.2.2.2.2)))]) := hD
  refine lv_aload_n hx hb dM_setExact_35 rfl (lv_at hl 0 rfl) ?_
  refine va_get (D := D) (ci := 4) (v := .ref a6) (C := RM) (T := TM) (N := 7) hx hb hts hi4 hown hK hP 0 rfl rfl 6 (by decide) hk5 (fun _ h9 => h9) rfl dM_setExact_36 ?_
  refine lv_iload_n hx hb dM_setExact_39 rfl (lv_at hl 1 rfl) ?_
  refine lv_lload_n hx hb dM_setExact_40 rfl (lv_at hl 2 rfl) ?_
  refine va_last hx hb hK hP hD hS 6 5 rfl rfl hq1 dM_setExact_41 (fun H locs hP hD hS => ?_)
  have hP : va_P D vwCl ([(h0, .inr (4, [.int th, .ref a1, .ref a2, .ref a3, .ref a4, .ref a5, .ref a6])), (a1, .inl (cj1, 19, .inr (.inl (vp_updL st.1 p1.toNatClampNeg p2)))), (a2, .inl (cj2, 19, .inr (.inl (vp_updL st.2.1 p1.toNatClampNeg 0)))), (a3, .inl (cj3, 19, .inr (.inl (vp_updL st.2.2.1 p1.toNatClampNeg p2)))), (a4, .inl (cj4, 19, .inr (.inl (vp_updL st.2.2.2.1 p1.toNatClampNeg p2)))), (a5, .inl (cj5, 19, .inr (.inl (vp_updL st.2.2.2.2.1 p1.toNatClampNeg p2)))), (a6, .inl (cj6, 19, .inr (.inl (vp_updL st.2.2.2.2.2 p1.toNatClampNeg p2))))]) H := hP
  have hD : va_D A ([(h0, .inr (4, [.int th, .ref a1, .ref a2, .ref a3, .ref a4, .ref a5, .ref a6])), (a1, .inl (cj1, 19, .inr (.inl (vp_updL st.1 p1.toNatClampNeg p2)))), (a2, .inl (cj2, 19, .inr (.inl (vp_updL st.2.1 p1.toNatClampNeg 0)))), (a3, .inl (cj3, 19, .inr (.inl (vp_updL st.2.2.1 p1.toNatClampNeg p2)))), (a4, .inl (cj4, 19, .inr (.inl (vp_updL st.2.2.2.1 p1.toNatClampNeg p2)))), (a5, .inl (cj5, 19, .inr (.inl (vp_updL st.2.2.2.2.1 p1.toNatClampNeg p2)))), (a6, .inl (cj6, 19, .inr (.inl (vp_updL st.2.2.2.2.2 p1.toNatClampNeg p2))))]) := hD
  have e9 : f_M_setExact st p1 p2 = (vp_updL st.1 p1.toNatClampNeg p2, vp_updL st.2.1 p1.toNatClampNeg 0, vp_updL st.2.2.1 p1.toNatClampNeg p2, vp_updL st.2.2.2.1 p1.toNatClampNeg p2, vp_updL st.2.2.2.2.1 p1.toNatClampNeg p2, vp_updL st.2.2.2.2.2 p1.toNatClampNeg p2) := rfl
  rw [e9]
  exact sp_vret C hAe hP hK hD hS dM_setExact_42
def f_M_isExact (st : Md) (p1 : Int32) : Int32 :=
  if (lg_cmp (st.2.1 p1.toNatClampNeg) 0) = 0 then 1
  else 0
set_option maxHeartbeats 4000000 in
set_option maxRecDepth 100000 in
theorem c_M_isExact (l : Launch) (D : va_G) (h0 : Nat) (a1 : Nat) (a2 : Nat) (a3 : Nat) (a4 : Nat) (a5 : Nat) (a6 : Nat) (cj1 cj2 cj3 cj4 cj5 cj6 : ClassId) (th : Int32) (st : Md) (p1 : Int32) (hq1 : vp_in p1 19) : sp_M l yM_isExact wsM_isExact ({ frames := 0, cells := 0, slots := 0, locals := 0 }) D [.ref h0, .int p1] ([(h0, .inr (4, [.int th, .ref a1, .ref a2, .ref a3, .ref a4, .ref a5, .ref a6])), (a1, .inl (cj1, 19, .inr (.inl st.1))), (a2, .inl (cj2, 19, .inr (.inl st.2.1))), (a3, .inl (cj3, 19, .inr (.inl st.2.2.1))), (a4, .inl (cj4, 19, .inr (.inl st.2.2.2.1))), (a5, .inl (cj5, 19, .inr (.inl st.2.2.2.2.1))), (a6, .inl (cj6, 19, .inr (.inl st.2.2.2.2.2)))]) [(cj1, .long), (cj2, .long), (cj3, .long), (cj4, .long), (cj5, .long), (cj6, .long)] (sp_Qz D ([(h0, .inr (4, [.int th, .ref a1, .ref a2, .ref a3, .ref a4, .ref a5, .ref a6])), (a1, .inl (cj1, 19, .inr (.inl st.1))), (a2, .inl (cj2, 19, .inr (.inl st.2.1))), (a3, .inl (cj3, 19, .inr (.inl st.2.2.1))), (a4, .inl (cj4, 19, .inr (.inl st.2.2.2.1))), (a5, .inl (cj5, 19, .inr (.inl st.2.2.2.2.1))), (a6, .inl (cj6, 19, .inr (.inl st.2.2.2.2.2)))]) ([(h0, .inr (4, [.int th, .ref a1, .ref a2, .ref a3, .ref a4, .ref a5, .ref a6])), (a1, .inl (cj1, 19, .inr (.inl st.1))), (a2, .inl (cj2, 19, .inr (.inl st.2.1))), (a3, .inl (cj3, 19, .inr (.inl st.2.2.1))), (a4, .inl (cj4, 19, .inr (.inl st.2.2.2.1))), (a5, .inl (cj5, 19, .inr (.inl st.2.2.2.2.1))), (a6, .inl (cj6, 19, .inr (.inl st.2.2.2.2.2)))]) [(cj1, .long), (cj2, .long), (cj3, .long), (cj4, .long), (cj5, .long), (cj6, .long)] (f_M_isExact st p1)) := by
  refine sp_ofW (cc := cM_isExact) (nL := 2) (ret := (some .boolean)) (own := RM) (by decide) rfl rfl (Nat.le_of_ble_eq_true rfl) ?_
  intro p e s m below meth c A ls hAe hnm C hA hP hK hD hS hl
  have hx := C.1
  have hb := C.2.1
  have hown := C.2.2.2.2.1
  have hts := C.2.2.2.2.2.1
  have hl : lv_has ls 2 [(0, .ref h0), (1, .int p1)] := hl
  have hi4 : ∀ w ∈ u_ws RM TM 7, w ∈ wsM_isExact := fun w h => List.mem_cons_of_mem _ (inM w h)
  have hk0 := hts _ (List.mem_cons_of_mem _ wm_383)
  refine lv_aload_n hx hb dM_isExact_0 rfl (lv_at hl 0 rfl) ?_
  refine va_get (D := D) (ci := 4) (v := .ref a2) (C := RM) (T := TM) (N := 7) hx hb hts hi4 hown hK hP 0 rfl rfl 2 (by decide) hk0 (fun _ h9 => h9) rfl dM_isExact_1 ?_
  refine lv_iload_n hx hb dM_isExact_4 rfl (lv_at hl 1 rfl) ?_
  refine va_lald hx hb hK hP 2 1 rfl rfl hq1 dM_isExact_5 ?_
  refine lv_lconst (v := 0) hx hb dM_isExact_6 (by decide) ?_
  refine W.lcmp hx hb dM_isExact_7 ?_
  refine lv_if_ne (tgt := 15) hx hb dM_isExact_8 (by decide) (fun c1 => ?_) (fun c1 => ?_)
  · refine lv_iconst (v := 0) hx hb dM_isExact_15 (by decide) ?_
    have e9 : f_M_isExact st p1 = 0 := (if_neg c1).trans (rfl)
    rw [e9]
    exact sp_zret C hAe hP hK hD hS (Or.inl rfl) dM_isExact_16
  · refine lv_iconst (v := 1) hx hb dM_isExact_11 (by decide) ?_
    refine lv_goto (tgt := 16) hx hb dM_isExact_12 (by decide) ?_
    have e9 : f_M_isExact st p1 = 1 := (if_pos c1).trans (rfl)
    rw [e9]
    exact sp_zret C hAe hP hK hD hS (Or.inr rfl) dM_isExact_16
def f_M_isEmpty (st : Md) (p1 : Int32) : Int32 :=
  if (f_M_below (st.2.2.2.1 p1.toNatClampNeg) (st.2.2.1 p1.toNatClampNeg)) = 0 then (if (lg_cmp (st.2.2.2.2.1 p1.toNatClampNeg) (st.2.2.2.2.2 p1.toNatClampNeg)) ≤ 0 then 0
    else 1)
  else 1
set_option maxHeartbeats 4000000 in
set_option maxRecDepth 100000 in
theorem c_M_isEmpty (l : Launch) (D : va_G) (h0 : Nat) (a1 : Nat) (a2 : Nat) (a3 : Nat) (a4 : Nat) (a5 : Nat) (a6 : Nat) (cj1 cj2 cj3 cj4 cj5 cj6 : ClassId) (th : Int32) (st : Md) (p1 : Int32) (hq1 : vp_in p1 19) : sp_M l yM_isEmpty wsM_isEmpty ({ frames := 1, cells := 0, slots := 0, locals := 23 }) D [.ref h0, .int p1] ([(h0, .inr (4, [.int th, .ref a1, .ref a2, .ref a3, .ref a4, .ref a5, .ref a6])), (a1, .inl (cj1, 19, .inr (.inl st.1))), (a2, .inl (cj2, 19, .inr (.inl st.2.1))), (a3, .inl (cj3, 19, .inr (.inl st.2.2.1))), (a4, .inl (cj4, 19, .inr (.inl st.2.2.2.1))), (a5, .inl (cj5, 19, .inr (.inl st.2.2.2.2.1))), (a6, .inl (cj6, 19, .inr (.inl st.2.2.2.2.2)))]) [(cj1, .long), (cj2, .long), (cj3, .long), (cj4, .long), (cj5, .long), (cj6, .long)] (sp_Qz D ([(h0, .inr (4, [.int th, .ref a1, .ref a2, .ref a3, .ref a4, .ref a5, .ref a6])), (a1, .inl (cj1, 19, .inr (.inl st.1))), (a2, .inl (cj2, 19, .inr (.inl st.2.1))), (a3, .inl (cj3, 19, .inr (.inl st.2.2.1))), (a4, .inl (cj4, 19, .inr (.inl st.2.2.2.1))), (a5, .inl (cj5, 19, .inr (.inl st.2.2.2.2.1))), (a6, .inl (cj6, 19, .inr (.inl st.2.2.2.2.2)))]) ([(h0, .inr (4, [.int th, .ref a1, .ref a2, .ref a3, .ref a4, .ref a5, .ref a6])), (a1, .inl (cj1, 19, .inr (.inl st.1))), (a2, .inl (cj2, 19, .inr (.inl st.2.1))), (a3, .inl (cj3, 19, .inr (.inl st.2.2.1))), (a4, .inl (cj4, 19, .inr (.inl st.2.2.2.1))), (a5, .inl (cj5, 19, .inr (.inl st.2.2.2.2.1))), (a6, .inl (cj6, 19, .inr (.inl st.2.2.2.2.2)))]) [(cj1, .long), (cj2, .long), (cj3, .long), (cj4, .long), (cj5, .long), (cj6, .long)] (f_M_isEmpty st p1)) := by
  refine sp_ofW (cc := cM_isEmpty) (nL := 2) (ret := (some .boolean)) (own := RM) (by decide) rfl rfl (Nat.le_of_ble_eq_true rfl) ?_
  intro p e s m below meth c A ls hAe hnm C hA hP hK hD hS hl
  have hx := C.1
  have hb := C.2.1
  have hown := C.2.2.2.2.1
  have hts := C.2.2.2.2.2.1
  have hl : lv_has ls 2 [(0, .ref h0), (1, .int p1)] := hl
  have hi4 : ∀ w ∈ u_ws RM TM 7, w ∈ wsM_isEmpty := fun w h => List.mem_cons_of_mem _ (inM w h)
  have hk0 := hts _ (List.mem_cons_of_mem _ wm_385)
  have hk1 := hts _ (List.mem_cons_of_mem _ wm_384)
  have hk2 := hts _ (List.mem_cons_of_mem _ wm_386)
  have hk3 := hts _ (List.mem_cons_of_mem _ wm_387)
  refine lv_aload_n hx hb dM_isEmpty_0 rfl (lv_at hl 0 rfl) ?_
  refine va_get (D := D) (ci := 4) (v := .ref a4) (C := RM) (T := TM) (N := 7) hx hb hts hi4 hown hK hP 0 rfl rfl 4 (by decide) hk0 (fun _ h9 => h9) rfl dM_isEmpty_1 ?_
  refine lv_iload_n hx hb dM_isEmpty_4 rfl (lv_at hl 1 rfl) ?_
  refine va_lald hx hb hK hP 4 3 rfl rfl hq1 dM_isEmpty_5 ?_
  refine lv_aload_n hx hb dM_isEmpty_6 rfl (lv_at hl 0 rfl) ?_
  refine va_get (D := D) (ci := 4) (v := .ref a3) (C := RM) (T := TM) (N := 7) hx hb hts hi4 hown hK hP 0 rfl rfl 3 (by decide) hk1 (fun _ h9 => h9) rfl dM_isEmpty_7 ?_
  refine lv_iload_n hx hb dM_isEmpty_10 rfl (lv_at hl 1 rfl) ?_
  refine va_lald hx hb hK hP 3 2 rfl rfl hq1 dM_isEmpty_11 ?_
  refine sp_callz (sp_runS (As := [.long (st.2.2.2.1 p1.toNatClampNeg), .long (st.2.2.1 p1.toNatClampNeg)]) (rest := []) C (c_M_below l D (st.2.2.2.1 p1.toNatClampNeg) (st.2.2.1 p1.toNatClampNeg)) (va_cwS 2 hts (gS wG_c wm_376 wm_377 wm_378 wm_375) rfl rfl rfl (by decide +kernel) ⟨Nat.le_of_ble_eq_true rfl, Nat.le_of_ble_eq_true rfl⟩) hK hP hD [] (by decide) rfl [] rfl rfl hl.1 rfl (Nat.le_of_ble_eq_true rfl) dM_isEmpty_12 ⟨Nat.le_of_ble_eq_true rfl, Nat.le_of_ble_eq_true rfl⟩) hP hD hS hA [] rfl sp_f0 (fun H locs z1 hP hD hS => ?_)
  have hP : va_P D vwCl ([(h0, .inr (4, [.int th, .ref a1, .ref a2, .ref a3, .ref a4, .ref a5, .ref a6])), (a1, .inl (cj1, 19, .inr (.inl st.1))), (a2, .inl (cj2, 19, .inr (.inl st.2.1))), (a3, .inl (cj3, 19, .inr (.inl st.2.2.1))), (a4, .inl (cj4, 19, .inr (.inl st.2.2.2.1))), (a5, .inl (cj5, 19, .inr (.inl st.2.2.2.2.1))), (a6, .inl (cj6, 19, .inr (.inl st.2.2.2.2.2)))]) H := hP
  have hD : va_D A ([(h0, .inr (4, [.int th, .ref a1, .ref a2, .ref a3, .ref a4, .ref a5, .ref a6])), (a1, .inl (cj1, 19, .inr (.inl st.1))), (a2, .inl (cj2, 19, .inr (.inl st.2.1))), (a3, .inl (cj3, 19, .inr (.inl st.2.2.1))), (a4, .inl (cj4, 19, .inr (.inl st.2.2.2.1))), (a5, .inl (cj5, 19, .inr (.inl st.2.2.2.2.1))), (a6, .inl (cj6, 19, .inr (.inl st.2.2.2.2.2)))]) := hD
  refine lv_if_ne (tgt := 34) hx hb dM_isEmpty_15 (by decide) (fun c2 => ?_) (fun c2 => ?_)
  · refine lv_iconst (v := 1) hx hb dM_isEmpty_34 (by decide) ?_
    refine lv_goto (tgt := 39) hx hb dM_isEmpty_35 (by decide) ?_
    have e9 : f_M_isEmpty st p1 = 1 := (if_neg c2).trans (rfl)
    rw [e9]
    exact sp_zret C hAe hP hK hD hS (Or.inr rfl) dM_isEmpty_39
  · refine lv_aload_n hx hb dM_isEmpty_18 rfl (lv_at hl 0 rfl) ?_
    refine va_get (D := D) (ci := 4) (v := .ref a5) (C := RM) (T := TM) (N := 7) hx hb hts hi4 hown hK hP 0 rfl rfl 5 (by decide) hk2 (fun _ h9 => h9) rfl dM_isEmpty_19 ?_
    refine lv_iload_n hx hb dM_isEmpty_22 rfl (lv_at hl 1 rfl) ?_
    refine va_lald hx hb hK hP 5 4 rfl rfl hq1 dM_isEmpty_23 ?_
    refine lv_aload_n hx hb dM_isEmpty_24 rfl (lv_at hl 0 rfl) ?_
    refine va_get (D := D) (ci := 4) (v := .ref a6) (C := RM) (T := TM) (N := 7) hx hb hts hi4 hown hK hP 0 rfl rfl 6 (by decide) hk3 (fun _ h9 => h9) rfl dM_isEmpty_25 ?_
    refine lv_iload_n hx hb dM_isEmpty_28 rfl (lv_at hl 1 rfl) ?_
    refine va_lald hx hb hK hP 6 5 rfl rfl hq1 dM_isEmpty_29 ?_
    refine W.lcmp hx hb dM_isEmpty_30 ?_
    refine lv_if_le (tgt := 38) hx hb dM_isEmpty_31 (by decide) (fun c3 => ?_) (fun c3 => ?_)
    · refine lv_iconst (v := 0) hx hb dM_isEmpty_38 (by decide) ?_
      have e9 : f_M_isEmpty st p1 = 0 := (if_pos c2).trans ((if_pos c3).trans (rfl))
      rw [e9]
      exact sp_zret C hAe hP hK hD hS (Or.inl rfl) dM_isEmpty_39
    · refine lv_iconst (v := 1) hx hb dM_isEmpty_34 (by decide) ?_
      refine lv_goto (tgt := 39) hx hb dM_isEmpty_35 (by decide) ?_
      have e9 : f_M_isEmpty st p1 = 1 := (if_pos c2).trans ((if_neg c3).trans (rfl))
      rw [e9]
      exact sp_zret C hAe hP hK hD hS (Or.inr rfl) dM_isEmpty_39
def f_M_byBits (st : Md) (p1 : Int32) : Md × Int32 :=
  if (f_M_isEmpty (st.1, st.2.1, vp_updL st.2.2.1 p1.toNatClampNeg (f_M_greater (st.2.2.1 p1.toNatClampNeg) (st.1 p1.toNatClampNeg)), vp_updL st.2.2.2.1 p1.toNatClampNeg (f_M_lesser (st.2.2.2.1 p1.toNatClampNeg) ((st.1 p1.toNatClampNeg) ||| (st.2.1 p1.toNatClampNeg))), st.2.2.2.2.1, st.2.2.2.2.2) p1) = 0 then ((st.1, st.2.1, vp_updL st.2.2.1 p1.toNatClampNeg (f_M_greater (st.2.2.1 p1.toNatClampNeg) (st.1 p1.toNatClampNeg)), vp_updL st.2.2.2.1 p1.toNatClampNeg (f_M_lesser (st.2.2.2.1 p1.toNatClampNeg) ((st.1 p1.toNatClampNeg) ||| (st.2.1 p1.toNatClampNeg))), st.2.2.2.2.1, st.2.2.2.2.2), 1)
  else ((st.1, st.2.1, vp_updL st.2.2.1 p1.toNatClampNeg (f_M_greater (st.2.2.1 p1.toNatClampNeg) (st.1 p1.toNatClampNeg)), vp_updL st.2.2.2.1 p1.toNatClampNeg (f_M_lesser (st.2.2.2.1 p1.toNatClampNeg) ((st.1 p1.toNatClampNeg) ||| (st.2.1 p1.toNatClampNeg))), st.2.2.2.2.1, st.2.2.2.2.2), 0)
set_option maxHeartbeats 4000000 in
set_option maxRecDepth 100000 in
theorem c_M_byBits (l : Launch) (D : va_G) (h0 : Nat) (a1 : Nat) (a2 : Nat) (a3 : Nat) (a4 : Nat) (a5 : Nat) (a6 : Nat) (cj1 cj2 cj3 cj4 cj5 cj6 : ClassId) (th : Int32) (st : Md) (p1 : Int32) (hq1 : vp_in p1 19) : sp_M l yM_byBits wsM_byBits ({ frames := 2, cells := 0, slots := 0, locals := 46 }) D [.ref h0, .int p1] ([(h0, .inr (4, [.int th, .ref a1, .ref a2, .ref a3, .ref a4, .ref a5, .ref a6])), (a1, .inl (cj1, 19, .inr (.inl st.1))), (a2, .inl (cj2, 19, .inr (.inl st.2.1))), (a3, .inl (cj3, 19, .inr (.inl st.2.2.1))), (a4, .inl (cj4, 19, .inr (.inl st.2.2.2.1))), (a5, .inl (cj5, 19, .inr (.inl st.2.2.2.2.1))), (a6, .inl (cj6, 19, .inr (.inl st.2.2.2.2.2)))]) [(cj1, .long), (cj2, .long), (cj3, .long), (cj4, .long), (cj5, .long), (cj6, .long)] (sp_Qz D ([(h0, .inr (4, [.int th, .ref a1, .ref a2, .ref a3, .ref a4, .ref a5, .ref a6])), (a1, .inl (cj1, 19, .inr (.inl st.1))), (a2, .inl (cj2, 19, .inr (.inl st.2.1))), (a3, .inl (cj3, 19, .inr (.inl st.2.2.1))), (a4, .inl (cj4, 19, .inr (.inl st.2.2.2.1))), (a5, .inl (cj5, 19, .inr (.inl st.2.2.2.2.1))), (a6, .inl (cj6, 19, .inr (.inl st.2.2.2.2.2)))]) ([(h0, .inr (4, [.int th, .ref a1, .ref a2, .ref a3, .ref a4, .ref a5, .ref a6])), (a1, .inl (cj1, 19, .inr (.inl (((f_M_byBits st p1).1).1)))), (a2, .inl (cj2, 19, .inr (.inl (((f_M_byBits st p1).1).2.1)))), (a3, .inl (cj3, 19, .inr (.inl (((f_M_byBits st p1).1).2.2.1)))), (a4, .inl (cj4, 19, .inr (.inl (((f_M_byBits st p1).1).2.2.2.1)))), (a5, .inl (cj5, 19, .inr (.inl (((f_M_byBits st p1).1).2.2.2.2.1)))), (a6, .inl (cj6, 19, .inr (.inl (((f_M_byBits st p1).1).2.2.2.2.2))))]) [(cj1, .long), (cj2, .long), (cj3, .long), (cj4, .long), (cj5, .long), (cj6, .long)] ((f_M_byBits st p1).2)) := by
  refine sp_ofW (cc := cM_byBits) (nL := 2) (ret := (some .boolean)) (own := RM) (by decide) rfl rfl (Nat.le_of_ble_eq_true rfl) ?_
  intro p e s m below meth c A ls hAe hnm C hA hP hK hD hS hl
  have hx := C.1
  have hb := C.2.1
  have hown := C.2.2.2.2.1
  have hts := C.2.2.2.2.2.1
  have hl : lv_has ls 2 [(0, .ref h0), (1, .int p1)] := hl
  have hi4 : ∀ w ∈ u_ws RM TM 7, w ∈ wsM_byBits := fun w h => List.mem_cons_of_mem _ (inM w h)
  have hk0 := hts _ (List.mem_cons_of_mem _ wm_384)
  have hk1 := hts _ (List.mem_cons_of_mem _ wm_382)
  have hk2 := hts _ (List.mem_cons_of_mem _ wm_385)
  have hk3 := hts _ (List.mem_cons_of_mem _ wm_383)
  refine lv_aload_n hx hb dM_byBits_0 rfl (lv_at hl 0 rfl) ?_
  refine va_get (D := D) (ci := 4) (v := .ref a3) (C := RM) (T := TM) (N := 7) hx hb hts hi4 hown hK hP 0 rfl rfl 3 (by decide) hk0 (fun _ h9 => h9) rfl dM_byBits_1 ?_
  refine lv_iload_n hx hb dM_byBits_4 rfl (lv_at hl 1 rfl) ?_
  refine lv_aload_n hx hb dM_byBits_5 rfl (lv_at hl 0 rfl) ?_
  refine va_get (D := D) (ci := 4) (v := .ref a3) (C := RM) (T := TM) (N := 7) hx hb hts hi4 hown hK hP 0 rfl rfl 3 (by decide) hk0 (fun _ h9 => h9) rfl dM_byBits_6 ?_
  refine lv_iload_n hx hb dM_byBits_9 rfl (lv_at hl 1 rfl) ?_
  refine va_lald hx hb hK hP 3 2 rfl rfl hq1 dM_byBits_10 ?_
  refine lv_aload_n hx hb dM_byBits_11 rfl (lv_at hl 0 rfl) ?_
  refine va_get (D := D) (ci := 4) (v := .ref a1) (C := RM) (T := TM) (N := 7) hx hb hts hi4 hown hK hP 0 rfl rfl 1 (by decide) hk1 (fun _ h9 => h9) rfl dM_byBits_12 ?_
  refine lv_iload_n hx hb dM_byBits_15 rfl (lv_at hl 1 rfl) ?_
  refine va_lald hx hb hK hP 1 0 rfl rfl hq1 dM_byBits_16 ?_
  refine sp_calll (sp_runS (As := [.long (st.2.2.1 p1.toNatClampNeg), .long (st.1 p1.toNatClampNeg)]) (rest := [.int p1, .ref a3]) C (c_M_greater l D (st.2.2.1 p1.toNatClampNeg) (st.1 p1.toNatClampNeg)) (va_cwS 2 hts (gS wG_c wm_390 wm_391 wm_378 wm_389) rfl rfl rfl (by decide +kernel) ⟨Nat.le_of_ble_eq_true rfl, Nat.le_of_ble_eq_true rfl⟩) hK hP hD [] (by decide) rfl [] rfl rfl hl.1 rfl (Nat.le_of_ble_eq_true rfl) dM_byBits_17 ⟨Nat.le_of_ble_eq_true rfl, Nat.le_of_ble_eq_true rfl⟩) hP hD hS hA [] rfl sp_f0 (fun H locs hP hD hS => ?_)
  have hP : va_P D vwCl ([(h0, .inr (4, [.int th, .ref a1, .ref a2, .ref a3, .ref a4, .ref a5, .ref a6])), (a1, .inl (cj1, 19, .inr (.inl st.1))), (a2, .inl (cj2, 19, .inr (.inl st.2.1))), (a3, .inl (cj3, 19, .inr (.inl st.2.2.1))), (a4, .inl (cj4, 19, .inr (.inl st.2.2.2.1))), (a5, .inl (cj5, 19, .inr (.inl st.2.2.2.2.1))), (a6, .inl (cj6, 19, .inr (.inl st.2.2.2.2.2)))]) H := hP
  have hD : va_D A ([(h0, .inr (4, [.int th, .ref a1, .ref a2, .ref a3, .ref a4, .ref a5, .ref a6])), (a1, .inl (cj1, 19, .inr (.inl st.1))), (a2, .inl (cj2, 19, .inr (.inl st.2.1))), (a3, .inl (cj3, 19, .inr (.inl st.2.2.1))), (a4, .inl (cj4, 19, .inr (.inl st.2.2.2.1))), (a5, .inl (cj5, 19, .inr (.inl st.2.2.2.2.1))), (a6, .inl (cj6, 19, .inr (.inl st.2.2.2.2.2)))]) := hD
  refine va_last hx hb hK hP hD hS 3 2 rfl rfl hq1 dM_byBits_20 (fun H locs hP hD hS => ?_)
  have hP : va_P D vwCl ([(h0, .inr (4, [.int th, .ref a1, .ref a2, .ref a3, .ref a4, .ref a5, .ref a6])), (a1, .inl (cj1, 19, .inr (.inl st.1))), (a2, .inl (cj2, 19, .inr (.inl st.2.1))), (a3, .inl (cj3, 19, .inr (.inl (vp_updL st.2.2.1 p1.toNatClampNeg (f_M_greater (st.2.2.1 p1.toNatClampNeg) (st.1 p1.toNatClampNeg)))))), (a4, .inl (cj4, 19, .inr (.inl st.2.2.2.1))), (a5, .inl (cj5, 19, .inr (.inl st.2.2.2.2.1))), (a6, .inl (cj6, 19, .inr (.inl st.2.2.2.2.2)))]) H := hP
  have hD : va_D A ([(h0, .inr (4, [.int th, .ref a1, .ref a2, .ref a3, .ref a4, .ref a5, .ref a6])), (a1, .inl (cj1, 19, .inr (.inl st.1))), (a2, .inl (cj2, 19, .inr (.inl st.2.1))), (a3, .inl (cj3, 19, .inr (.inl (vp_updL st.2.2.1 p1.toNatClampNeg (f_M_greater (st.2.2.1 p1.toNatClampNeg) (st.1 p1.toNatClampNeg)))))), (a4, .inl (cj4, 19, .inr (.inl st.2.2.2.1))), (a5, .inl (cj5, 19, .inr (.inl st.2.2.2.2.1))), (a6, .inl (cj6, 19, .inr (.inl st.2.2.2.2.2)))]) := hD
  refine lv_aload_n hx hb dM_byBits_21 rfl (lv_at hl 0 rfl) ?_
  refine va_get (D := D) (ci := 4) (v := .ref a4) (C := RM) (T := TM) (N := 7) hx hb hts hi4 hown hK hP 0 rfl rfl 4 (by decide) hk2 (fun _ h9 => h9) rfl dM_byBits_22 ?_
  refine lv_iload_n hx hb dM_byBits_25 rfl (lv_at hl 1 rfl) ?_
  refine lv_aload_n hx hb dM_byBits_26 rfl (lv_at hl 0 rfl) ?_
  refine va_get (D := D) (ci := 4) (v := .ref a4) (C := RM) (T := TM) (N := 7) hx hb hts hi4 hown hK hP 0 rfl rfl 4 (by decide) hk2 (fun _ h9 => h9) rfl dM_byBits_27 ?_
  refine lv_iload_n hx hb dM_byBits_30 rfl (lv_at hl 1 rfl) ?_
  refine va_lald hx hb hK hP 4 3 rfl rfl hq1 dM_byBits_31 ?_
  refine lv_aload_n hx hb dM_byBits_32 rfl (lv_at hl 0 rfl) ?_
  refine va_get (D := D) (ci := 4) (v := .ref a1) (C := RM) (T := TM) (N := 7) hx hb hts hi4 hown hK hP 0 rfl rfl 1 (by decide) hk1 (fun _ h9 => h9) rfl dM_byBits_33 ?_
  refine lv_iload_n hx hb dM_byBits_36 rfl (lv_at hl 1 rfl) ?_
  refine va_lald hx hb hK hP 1 0 rfl rfl hq1 dM_byBits_37 ?_
  refine lv_aload_n hx hb dM_byBits_38 rfl (lv_at hl 0 rfl) ?_
  refine va_get (D := D) (ci := 4) (v := .ref a2) (C := RM) (T := TM) (N := 7) hx hb hts hi4 hown hK hP 0 rfl rfl 2 (by decide) hk3 (fun _ h9 => h9) rfl dM_byBits_39 ?_
  refine lv_iload_n hx hb dM_byBits_42 rfl (lv_at hl 1 rfl) ?_
  refine va_lald hx hb hK hP 2 1 rfl rfl hq1 dM_byBits_43 ?_
  refine lv_lor hx hb dM_byBits_44 ?_
  refine sp_calll (sp_runS (As := [.long (st.2.2.2.1 p1.toNatClampNeg), .long ((st.1 p1.toNatClampNeg) ||| (st.2.1 p1.toNatClampNeg))]) (rest := [.int p1, .ref a4]) C (c_M_lesser l D (st.2.2.2.1 p1.toNatClampNeg) ((st.1 p1.toNatClampNeg) ||| (st.2.1 p1.toNatClampNeg))) (va_cwS 2 hts (gS wG_c wm_393 wm_394 wm_378 wm_392) rfl rfl rfl (by decide +kernel) ⟨Nat.le_of_ble_eq_true rfl, Nat.le_of_ble_eq_true rfl⟩) hK hP hD [] (by decide) rfl [] rfl rfl hl.1 rfl (Nat.le_of_ble_eq_true rfl) dM_byBits_45 ⟨Nat.le_of_ble_eq_true rfl, Nat.le_of_ble_eq_true rfl⟩) hP hD hS hA [] rfl sp_f0 (fun H locs hP hD hS => ?_)
  have hP : va_P D vwCl ([(h0, .inr (4, [.int th, .ref a1, .ref a2, .ref a3, .ref a4, .ref a5, .ref a6])), (a1, .inl (cj1, 19, .inr (.inl st.1))), (a2, .inl (cj2, 19, .inr (.inl st.2.1))), (a3, .inl (cj3, 19, .inr (.inl (vp_updL st.2.2.1 p1.toNatClampNeg (f_M_greater (st.2.2.1 p1.toNatClampNeg) (st.1 p1.toNatClampNeg)))))), (a4, .inl (cj4, 19, .inr (.inl st.2.2.2.1))), (a5, .inl (cj5, 19, .inr (.inl st.2.2.2.2.1))), (a6, .inl (cj6, 19, .inr (.inl st.2.2.2.2.2)))]) H := hP
  have hD : va_D A ([(h0, .inr (4, [.int th, .ref a1, .ref a2, .ref a3, .ref a4, .ref a5, .ref a6])), (a1, .inl (cj1, 19, .inr (.inl st.1))), (a2, .inl (cj2, 19, .inr (.inl st.2.1))), (a3, .inl (cj3, 19, .inr (.inl (vp_updL st.2.2.1 p1.toNatClampNeg (f_M_greater (st.2.2.1 p1.toNatClampNeg) (st.1 p1.toNatClampNeg)))))), (a4, .inl (cj4, 19, .inr (.inl st.2.2.2.1))), (a5, .inl (cj5, 19, .inr (.inl st.2.2.2.2.1))), (a6, .inl (cj6, 19, .inr (.inl st.2.2.2.2.2)))]) := hD
  refine va_last hx hb hK hP hD hS 4 3 rfl rfl hq1 dM_byBits_48 (fun H locs hP hD hS => ?_)
  have hP : va_P D vwCl ([(h0, .inr (4, [.int th, .ref a1, .ref a2, .ref a3, .ref a4, .ref a5, .ref a6])), (a1, .inl (cj1, 19, .inr (.inl st.1))), (a2, .inl (cj2, 19, .inr (.inl st.2.1))), (a3, .inl (cj3, 19, .inr (.inl (vp_updL st.2.2.1 p1.toNatClampNeg (f_M_greater (st.2.2.1 p1.toNatClampNeg) (st.1 p1.toNatClampNeg)))))), (a4, .inl (cj4, 19, .inr (.inl (vp_updL st.2.2.2.1 p1.toNatClampNeg (f_M_lesser (st.2.2.2.1 p1.toNatClampNeg) ((st.1 p1.toNatClampNeg) ||| (st.2.1 p1.toNatClampNeg))))))), (a5, .inl (cj5, 19, .inr (.inl st.2.2.2.2.1))), (a6, .inl (cj6, 19, .inr (.inl st.2.2.2.2.2)))]) H := hP
  have hD : va_D A ([(h0, .inr (4, [.int th, .ref a1, .ref a2, .ref a3, .ref a4, .ref a5, .ref a6])), (a1, .inl (cj1, 19, .inr (.inl st.1))), (a2, .inl (cj2, 19, .inr (.inl st.2.1))), (a3, .inl (cj3, 19, .inr (.inl (vp_updL st.2.2.1 p1.toNatClampNeg (f_M_greater (st.2.2.1 p1.toNatClampNeg) (st.1 p1.toNatClampNeg)))))), (a4, .inl (cj4, 19, .inr (.inl (vp_updL st.2.2.2.1 p1.toNatClampNeg (f_M_lesser (st.2.2.2.1 p1.toNatClampNeg) ((st.1 p1.toNatClampNeg) ||| (st.2.1 p1.toNatClampNeg))))))), (a5, .inl (cj5, 19, .inr (.inl st.2.2.2.2.1))), (a6, .inl (cj6, 19, .inr (.inl st.2.2.2.2.2)))]) := hD
  refine lv_aload_n hx hb dM_byBits_49 rfl (lv_at hl 0 rfl) ?_
  refine lv_iload_n hx hb dM_byBits_50 rfl (lv_at hl 1 rfl) ?_
  refine sp_callz (sp_runV (As := [.int p1]) (rest := []) C (c_M_isEmpty l D h0 a1 a2 a3 a4 a5 a6 cj1 cj2 cj3 cj4 cj5 cj6 th (st.1, st.2.1, vp_updL st.2.2.1 p1.toNatClampNeg (f_M_greater (st.2.2.1 p1.toNatClampNeg) (st.1 p1.toNatClampNeg)), vp_updL st.2.2.2.1 p1.toNatClampNeg (f_M_lesser (st.2.2.2.1 p1.toNatClampNeg) ((st.1 p1.toNatClampNeg) ||| (st.2.1 p1.toNatClampNeg))), st.2.2.2.2.1, st.2.2.2.2.2) p1 hq1) (cwV 1 hts (gV wG_c wm_396 wm_397 wm_398 wm_378 wm_395) rfl rfl rfl (by decide +kernel) ⟨Nat.le_of_ble_eq_true rfl, Nat.le_of_ble_eq_true rfl⟩) hK hP hD [0, 1, 2, 3, 4, 5, 6] (by decide) rfl [0, 1, 2, 3, 4, 5] rfl 0 4 rfl rfl rfl rfl hl.1 rfl (Nat.le_of_ble_eq_true rfl) dM_byBits_51 ⟨Nat.le_of_ble_eq_true rfl, Nat.le_of_ble_eq_true rfl⟩) hP hD hS hA [0, 1, 2, 3, 4, 5, 6] rfl (sp_fc (sp_fc (sp_fc (sp_fc (sp_fc (sp_fc (sp_fc sp_f0))))))) (fun H locs z1 hP hD hS => ?_)
  have hP : va_P D vwCl ([(h0, .inr (4, [.int th, .ref a1, .ref a2, .ref a3, .ref a4, .ref a5, .ref a6])), (a1, .inl (cj1, 19, .inr (.inl st.1))), (a2, .inl (cj2, 19, .inr (.inl st.2.1))), (a3, .inl (cj3, 19, .inr (.inl (vp_updL st.2.2.1 p1.toNatClampNeg (f_M_greater (st.2.2.1 p1.toNatClampNeg) (st.1 p1.toNatClampNeg)))))), (a4, .inl (cj4, 19, .inr (.inl (vp_updL st.2.2.2.1 p1.toNatClampNeg (f_M_lesser (st.2.2.2.1 p1.toNatClampNeg) ((st.1 p1.toNatClampNeg) ||| (st.2.1 p1.toNatClampNeg))))))), (a5, .inl (cj5, 19, .inr (.inl st.2.2.2.2.1))), (a6, .inl (cj6, 19, .inr (.inl st.2.2.2.2.2)))]) H := hP
  have hD : va_D A ([(h0, .inr (4, [.int th, .ref a1, .ref a2, .ref a3, .ref a4, .ref a5, .ref a6])), (a1, .inl (cj1, 19, .inr (.inl st.1))), (a2, .inl (cj2, 19, .inr (.inl st.2.1))), (a3, .inl (cj3, 19, .inr (.inl (vp_updL st.2.2.1 p1.toNatClampNeg (f_M_greater (st.2.2.1 p1.toNatClampNeg) (st.1 p1.toNatClampNeg)))))), (a4, .inl (cj4, 19, .inr (.inl (vp_updL st.2.2.2.1 p1.toNatClampNeg (f_M_lesser (st.2.2.2.1 p1.toNatClampNeg) ((st.1 p1.toNatClampNeg) ||| (st.2.1 p1.toNatClampNeg))))))), (a5, .inl (cj5, 19, .inr (.inl st.2.2.2.2.1))), (a6, .inl (cj6, 19, .inr (.inl st.2.2.2.2.2)))]) := hD
  refine lv_if_ne (tgt := 61) hx hb dM_byBits_54 (by decide) (fun c2 => ?_) (fun c2 => ?_)
  · refine lv_iconst (v := 0) hx hb dM_byBits_61 (by decide) ?_
    have e9 : f_M_byBits st p1 = ((st.1, st.2.1, vp_updL st.2.2.1 p1.toNatClampNeg (f_M_greater (st.2.2.1 p1.toNatClampNeg) (st.1 p1.toNatClampNeg)), vp_updL st.2.2.2.1 p1.toNatClampNeg (f_M_lesser (st.2.2.2.1 p1.toNatClampNeg) ((st.1 p1.toNatClampNeg) ||| (st.2.1 p1.toNatClampNeg))), st.2.2.2.2.1, st.2.2.2.2.2), 0) := (if_neg c2).trans (rfl)
    rw [sp_fst e9, sp_snd e9]
    exact sp_zret C hAe hP hK hD hS (Or.inl rfl) dM_byBits_62
  · refine lv_iconst (v := 1) hx hb dM_byBits_57 (by decide) ?_
    refine lv_goto (tgt := 62) hx hb dM_byBits_58 (by decide) ?_
    have e9 : f_M_byBits st p1 = ((st.1, st.2.1, vp_updL st.2.2.1 p1.toNatClampNeg (f_M_greater (st.2.2.1 p1.toNatClampNeg) (st.1 p1.toNatClampNeg)), vp_updL st.2.2.2.1 p1.toNatClampNeg (f_M_lesser (st.2.2.2.1 p1.toNatClampNeg) ((st.1 p1.toNatClampNeg) ||| (st.2.1 p1.toNatClampNeg))), st.2.2.2.2.1, st.2.2.2.2.2), 1) := (if_pos c2).trans (rfl)
    rw [sp_fst e9, sp_snd e9]
    exact sp_zret C hAe hP hK hD hS (Or.inr rfl) dM_byBits_62
def f_M_toSigned (st : Md) (p1 : Int32) : Md × Int32 :=
  if 0 ≤ (lg_cmp (st.2.2.1 p1.toNatClampNeg) 0) then (if 0 ≤ (lg_cmp (st.2.2.2.1 p1.toNatClampNeg) 0) then (if (lg_cmp (st.2.2.2.2.1 p1.toNatClampNeg) (st.2.2.1 p1.toNatClampNeg)) ≤ 0 then (if 0 ≤ (lg_cmp (st.2.2.2.2.2 p1.toNatClampNeg) (st.2.2.2.1 p1.toNatClampNeg)) then (if (f_M_isEmpty (st.1, st.2.1, st.2.2.1, st.2.2.2.1, vp_updL st.2.2.2.2.1 p1.toNatClampNeg (st.2.2.1 p1.toNatClampNeg), vp_updL st.2.2.2.2.2 p1.toNatClampNeg (st.2.2.2.1 p1.toNatClampNeg)) p1) = 0 then ((st.1, st.2.1, st.2.2.1, st.2.2.2.1, vp_updL st.2.2.2.2.1 p1.toNatClampNeg (st.2.2.1 p1.toNatClampNeg), vp_updL st.2.2.2.2.2 p1.toNatClampNeg (st.2.2.2.1 p1.toNatClampNeg)), 1)
          else ((st.1, st.2.1, st.2.2.1, st.2.2.2.1, vp_updL st.2.2.2.2.1 p1.toNatClampNeg (st.2.2.1 p1.toNatClampNeg), vp_updL st.2.2.2.2.2 p1.toNatClampNeg (st.2.2.2.1 p1.toNatClampNeg)), 0))
        else if (f_M_isEmpty (st.1, st.2.1, st.2.2.1, st.2.2.2.1, vp_updL st.2.2.2.2.1 p1.toNatClampNeg (st.2.2.1 p1.toNatClampNeg), vp_updL st.2.2.2.2.2 p1.toNatClampNeg (st.2.2.2.2.2 p1.toNatClampNeg)) p1) = 0 then ((st.1, st.2.1, st.2.2.1, st.2.2.2.1, vp_updL st.2.2.2.2.1 p1.toNatClampNeg (st.2.2.1 p1.toNatClampNeg), vp_updL st.2.2.2.2.2 p1.toNatClampNeg (st.2.2.2.2.2 p1.toNatClampNeg)), 1)
        else ((st.1, st.2.1, st.2.2.1, st.2.2.2.1, vp_updL st.2.2.2.2.1 p1.toNatClampNeg (st.2.2.1 p1.toNatClampNeg), vp_updL st.2.2.2.2.2 p1.toNatClampNeg (st.2.2.2.2.2 p1.toNatClampNeg)), 0))
      else if 0 ≤ (lg_cmp (st.2.2.2.2.2 p1.toNatClampNeg) (st.2.2.2.1 p1.toNatClampNeg)) then (if (f_M_isEmpty (st.1, st.2.1, st.2.2.1, st.2.2.2.1, vp_updL st.2.2.2.2.1 p1.toNatClampNeg (st.2.2.2.2.1 p1.toNatClampNeg), vp_updL st.2.2.2.2.2 p1.toNatClampNeg (st.2.2.2.1 p1.toNatClampNeg)) p1) = 0 then ((st.1, st.2.1, st.2.2.1, st.2.2.2.1, vp_updL st.2.2.2.2.1 p1.toNatClampNeg (st.2.2.2.2.1 p1.toNatClampNeg), vp_updL st.2.2.2.2.2 p1.toNatClampNeg (st.2.2.2.1 p1.toNatClampNeg)), 1)
        else ((st.1, st.2.1, st.2.2.1, st.2.2.2.1, vp_updL st.2.2.2.2.1 p1.toNatClampNeg (st.2.2.2.2.1 p1.toNatClampNeg), vp_updL st.2.2.2.2.2 p1.toNatClampNeg (st.2.2.2.1 p1.toNatClampNeg)), 0))
      else if (f_M_isEmpty (st.1, st.2.1, st.2.2.1, st.2.2.2.1, vp_updL st.2.2.2.2.1 p1.toNatClampNeg (st.2.2.2.2.1 p1.toNatClampNeg), vp_updL st.2.2.2.2.2 p1.toNatClampNeg (st.2.2.2.2.2 p1.toNatClampNeg)) p1) = 0 then ((st.1, st.2.1, st.2.2.1, st.2.2.2.1, vp_updL st.2.2.2.2.1 p1.toNatClampNeg (st.2.2.2.2.1 p1.toNatClampNeg), vp_updL st.2.2.2.2.2 p1.toNatClampNeg (st.2.2.2.2.2 p1.toNatClampNeg)), 1)
      else ((st.1, st.2.1, st.2.2.1, st.2.2.2.1, vp_updL st.2.2.2.2.1 p1.toNatClampNeg (st.2.2.2.2.1 p1.toNatClampNeg), vp_updL st.2.2.2.2.2 p1.toNatClampNeg (st.2.2.2.2.2 p1.toNatClampNeg)), 0))
    else if (f_M_isEmpty st p1) = 0 then (st, 1)
    else (st, 0))
  else if 0 ≤ (lg_cmp (st.2.2.2.1 p1.toNatClampNeg) 0) then (if (f_M_isEmpty st p1) = 0 then (st, 1)
    else (st, 0))
  else if (lg_cmp (st.2.2.2.2.1 p1.toNatClampNeg) (st.2.2.1 p1.toNatClampNeg)) ≤ 0 then (if 0 ≤ (lg_cmp (st.2.2.2.2.2 p1.toNatClampNeg) (st.2.2.2.1 p1.toNatClampNeg)) then (if (f_M_isEmpty (st.1, st.2.1, st.2.2.1, st.2.2.2.1, vp_updL st.2.2.2.2.1 p1.toNatClampNeg (st.2.2.1 p1.toNatClampNeg), vp_updL st.2.2.2.2.2 p1.toNatClampNeg (st.2.2.2.1 p1.toNatClampNeg)) p1) = 0 then ((st.1, st.2.1, st.2.2.1, st.2.2.2.1, vp_updL st.2.2.2.2.1 p1.toNatClampNeg (st.2.2.1 p1.toNatClampNeg), vp_updL st.2.2.2.2.2 p1.toNatClampNeg (st.2.2.2.1 p1.toNatClampNeg)), 1)
      else ((st.1, st.2.1, st.2.2.1, st.2.2.2.1, vp_updL st.2.2.2.2.1 p1.toNatClampNeg (st.2.2.1 p1.toNatClampNeg), vp_updL st.2.2.2.2.2 p1.toNatClampNeg (st.2.2.2.1 p1.toNatClampNeg)), 0))
    else if (f_M_isEmpty (st.1, st.2.1, st.2.2.1, st.2.2.2.1, vp_updL st.2.2.2.2.1 p1.toNatClampNeg (st.2.2.1 p1.toNatClampNeg), vp_updL st.2.2.2.2.2 p1.toNatClampNeg (st.2.2.2.2.2 p1.toNatClampNeg)) p1) = 0 then ((st.1, st.2.1, st.2.2.1, st.2.2.2.1, vp_updL st.2.2.2.2.1 p1.toNatClampNeg (st.2.2.1 p1.toNatClampNeg), vp_updL st.2.2.2.2.2 p1.toNatClampNeg (st.2.2.2.2.2 p1.toNatClampNeg)), 1)
    else ((st.1, st.2.1, st.2.2.1, st.2.2.2.1, vp_updL st.2.2.2.2.1 p1.toNatClampNeg (st.2.2.1 p1.toNatClampNeg), vp_updL st.2.2.2.2.2 p1.toNatClampNeg (st.2.2.2.2.2 p1.toNatClampNeg)), 0))
  else if 0 ≤ (lg_cmp (st.2.2.2.2.2 p1.toNatClampNeg) (st.2.2.2.1 p1.toNatClampNeg)) then (if (f_M_isEmpty (st.1, st.2.1, st.2.2.1, st.2.2.2.1, vp_updL st.2.2.2.2.1 p1.toNatClampNeg (st.2.2.2.2.1 p1.toNatClampNeg), vp_updL st.2.2.2.2.2 p1.toNatClampNeg (st.2.2.2.1 p1.toNatClampNeg)) p1) = 0 then ((st.1, st.2.1, st.2.2.1, st.2.2.2.1, vp_updL st.2.2.2.2.1 p1.toNatClampNeg (st.2.2.2.2.1 p1.toNatClampNeg), vp_updL st.2.2.2.2.2 p1.toNatClampNeg (st.2.2.2.1 p1.toNatClampNeg)), 1)
    else ((st.1, st.2.1, st.2.2.1, st.2.2.2.1, vp_updL st.2.2.2.2.1 p1.toNatClampNeg (st.2.2.2.2.1 p1.toNatClampNeg), vp_updL st.2.2.2.2.2 p1.toNatClampNeg (st.2.2.2.1 p1.toNatClampNeg)), 0))
  else if (f_M_isEmpty (st.1, st.2.1, st.2.2.1, st.2.2.2.1, vp_updL st.2.2.2.2.1 p1.toNatClampNeg (st.2.2.2.2.1 p1.toNatClampNeg), vp_updL st.2.2.2.2.2 p1.toNatClampNeg (st.2.2.2.2.2 p1.toNatClampNeg)) p1) = 0 then ((st.1, st.2.1, st.2.2.1, st.2.2.2.1, vp_updL st.2.2.2.2.1 p1.toNatClampNeg (st.2.2.2.2.1 p1.toNatClampNeg), vp_updL st.2.2.2.2.2 p1.toNatClampNeg (st.2.2.2.2.2 p1.toNatClampNeg)), 1)
  else ((st.1, st.2.1, st.2.2.1, st.2.2.2.1, vp_updL st.2.2.2.2.1 p1.toNatClampNeg (st.2.2.2.2.1 p1.toNatClampNeg), vp_updL st.2.2.2.2.2 p1.toNatClampNeg (st.2.2.2.2.2 p1.toNatClampNeg)), 0)
set_option maxHeartbeats 4000000 in
set_option maxRecDepth 100000 in
theorem c_M_toSigned (l : Launch) (D : va_G) (h0 : Nat) (a1 : Nat) (a2 : Nat) (a3 : Nat) (a4 : Nat) (a5 : Nat) (a6 : Nat) (cj1 cj2 cj3 cj4 cj5 cj6 : ClassId) (th : Int32) (st : Md) (p1 : Int32) (hq1 : vp_in p1 19) : sp_M l yM_toSigned wsM_toSigned ({ frames := 2, cells := 0, slots := 0, locals := 44 }) D [.ref h0, .int p1] ([(h0, .inr (4, [.int th, .ref a1, .ref a2, .ref a3, .ref a4, .ref a5, .ref a6])), (a1, .inl (cj1, 19, .inr (.inl st.1))), (a2, .inl (cj2, 19, .inr (.inl st.2.1))), (a3, .inl (cj3, 19, .inr (.inl st.2.2.1))), (a4, .inl (cj4, 19, .inr (.inl st.2.2.2.1))), (a5, .inl (cj5, 19, .inr (.inl st.2.2.2.2.1))), (a6, .inl (cj6, 19, .inr (.inl st.2.2.2.2.2)))]) [(cj1, .long), (cj2, .long), (cj3, .long), (cj4, .long), (cj5, .long), (cj6, .long)] (sp_Qz D ([(h0, .inr (4, [.int th, .ref a1, .ref a2, .ref a3, .ref a4, .ref a5, .ref a6])), (a1, .inl (cj1, 19, .inr (.inl st.1))), (a2, .inl (cj2, 19, .inr (.inl st.2.1))), (a3, .inl (cj3, 19, .inr (.inl st.2.2.1))), (a4, .inl (cj4, 19, .inr (.inl st.2.2.2.1))), (a5, .inl (cj5, 19, .inr (.inl st.2.2.2.2.1))), (a6, .inl (cj6, 19, .inr (.inl st.2.2.2.2.2)))]) ([(h0, .inr (4, [.int th, .ref a1, .ref a2, .ref a3, .ref a4, .ref a5, .ref a6])), (a1, .inl (cj1, 19, .inr (.inl (((f_M_toSigned st p1).1).1)))), (a2, .inl (cj2, 19, .inr (.inl (((f_M_toSigned st p1).1).2.1)))), (a3, .inl (cj3, 19, .inr (.inl (((f_M_toSigned st p1).1).2.2.1)))), (a4, .inl (cj4, 19, .inr (.inl (((f_M_toSigned st p1).1).2.2.2.1)))), (a5, .inl (cj5, 19, .inr (.inl (((f_M_toSigned st p1).1).2.2.2.2.1)))), (a6, .inl (cj6, 19, .inr (.inl (((f_M_toSigned st p1).1).2.2.2.2.2))))]) [(cj1, .long), (cj2, .long), (cj3, .long), (cj4, .long), (cj5, .long), (cj6, .long)] ((f_M_toSigned st p1).2)) := by
  refine sp_ofW (cc := cM_toSigned) (nL := 2) (ret := (some .boolean)) (own := RM) (by decide) rfl rfl (Nat.le_of_ble_eq_true rfl) ?_
  intro p e s m below meth c A ls hAe hnm C hA hP hK hD hS hl
  have hx := C.1
  have hb := C.2.1
  have hown := C.2.2.2.2.1
  have hts := C.2.2.2.2.2.1
  have hl : lv_has ls 2 [(0, .ref h0), (1, .int p1)] := hl
  have hi4 : ∀ w ∈ u_ws RM TM 7, w ∈ wsM_toSigned := fun w h => List.mem_cons_of_mem _ (inM w h)
  have hk0 := hts _ (List.mem_cons_of_mem _ wm_384)
  have hk1 := hts _ (List.mem_cons_of_mem _ wm_385)
  have hk2 := hts _ (List.mem_cons_of_mem _ wm_386)
  have hk3 := hts _ (List.mem_cons_of_mem _ wm_387)
  refine lv_aload_n hx hb dM_toSigned_0 rfl (lv_at hl 0 rfl) ?_
  refine va_get (D := D) (ci := 4) (v := .ref a3) (C := RM) (T := TM) (N := 7) hx hb hts hi4 hown hK hP 0 rfl rfl 3 (by decide) hk0 (fun _ h9 => h9) rfl dM_toSigned_1 ?_
  refine lv_iload_n hx hb dM_toSigned_4 rfl (lv_at hl 1 rfl) ?_
  refine va_lald hx hb hK hP 3 2 rfl rfl hq1 dM_toSigned_5 ?_
  refine lv_lconst (v := 0) hx hb dM_toSigned_6 (by decide) ?_
  refine W.lcmp hx hb dM_toSigned_7 ?_
  refine lv_if_ge (tgt := 15) hx hb dM_toSigned_8 (by decide) (fun c1 => ?_) (fun c1 => ?_)
  · refine lv_iconst (v := 0) hx hb dM_toSigned_15 (by decide) ?_
    refine lv_aload_n hx hb dM_toSigned_16 rfl (lv_at hl 0 rfl) ?_
    refine va_get (D := D) (ci := 4) (v := .ref a4) (C := RM) (T := TM) (N := 7) hx hb hts hi4 hown hK hP 0 rfl rfl 4 (by decide) hk1 (fun _ h9 => h9) rfl dM_toSigned_17 ?_
    refine lv_iload_n hx hb dM_toSigned_20 rfl (lv_at hl 1 rfl) ?_
    refine va_lald hx hb hK hP 4 3 rfl rfl hq1 dM_toSigned_21 ?_
    refine lv_lconst (v := 0) hx hb dM_toSigned_22 (by decide) ?_
    refine W.lcmp hx hb dM_toSigned_23 ?_
    refine lv_if_ge (tgt := 31) hx hb dM_toSigned_24 (by decide) (fun c2 => ?_) (fun c2 => ?_)
    · refine lv_iconst (v := 0) hx hb dM_toSigned_31 (by decide) ?_
      refine lv_icmp_ne (tgt := 109) hx hb dM_toSigned_32 (by decide) (fun h9 => absurd h9 (by decide)) (fun _ => ?_)
      refine lv_aload_n hx hb dM_toSigned_35 rfl (lv_at hl 0 rfl) ?_
      refine va_get (D := D) (ci := 4) (v := .ref a5) (C := RM) (T := TM) (N := 7) hx hb hts hi4 hown hK hP 0 rfl rfl 5 (by decide) hk2 (fun _ h9 => h9) rfl dM_toSigned_36 ?_
      refine lv_iload_n hx hb dM_toSigned_39 rfl (lv_at hl 1 rfl) ?_
      refine lv_aload_n hx hb dM_toSigned_40 rfl (lv_at hl 0 rfl) ?_
      refine va_get (D := D) (ci := 4) (v := .ref a5) (C := RM) (T := TM) (N := 7) hx hb hts hi4 hown hK hP 0 rfl rfl 5 (by decide) hk2 (fun _ h9 => h9) rfl dM_toSigned_41 ?_
      refine lv_iload_n hx hb dM_toSigned_44 rfl (lv_at hl 1 rfl) ?_
      refine va_lald hx hb hK hP 5 4 rfl rfl hq1 dM_toSigned_45 ?_
      refine lv_aload_n hx hb dM_toSigned_46 rfl (lv_at hl 0 rfl) ?_
      refine va_get (D := D) (ci := 4) (v := .ref a3) (C := RM) (T := TM) (N := 7) hx hb hts hi4 hown hK hP 0 rfl rfl 3 (by decide) hk0 (fun _ h9 => h9) rfl dM_toSigned_47 ?_
      refine lv_iload_n hx hb dM_toSigned_50 rfl (lv_at hl 1 rfl) ?_
      refine va_lald hx hb hK hP 3 2 rfl rfl hq1 dM_toSigned_51 ?_
      refine W.lcmp hx hb dM_toSigned_52 ?_
      refine lv_if_le (tgt := 65) hx hb dM_toSigned_53 (by decide) (fun c3 => ?_) (fun c3 => ?_)
      · refine lv_aload_n hx hb dM_toSigned_65 rfl (lv_at hl 0 rfl) ?_
        refine va_get (D := D) (ci := 4) (v := .ref a3) (C := RM) (T := TM) (N := 7) hx hb hts hi4 hown hK hP 0 rfl rfl 3 (by decide) hk0 (fun _ h9 => h9) rfl dM_toSigned_66 ?_
        refine lv_iload_n hx hb dM_toSigned_69 rfl (lv_at hl 1 rfl) ?_
        refine va_lald hx hb hK hP 3 2 rfl rfl hq1 dM_toSigned_70 ?_
        refine va_last hx hb hK hP hD hS 5 4 rfl rfl hq1 dM_toSigned_71 (fun H locs hP hD hS => ?_)
        have hP : va_P D vwCl ([(h0, .inr (4, [.int th, .ref a1, .ref a2, .ref a3, .ref a4, .ref a5, .ref a6])), (a1, .inl (cj1, 19, .inr (.inl st.1))), (a2, .inl (cj2, 19, .inr (.inl st.2.1))), (a3, .inl (cj3, 19, .inr (.inl st.2.2.1))), (a4, .inl (cj4, 19, .inr (.inl st.2.2.2.1))), (a5, .inl (cj5, 19, .inr (.inl (vp_updL st.2.2.2.2.1 p1.toNatClampNeg (st.2.2.1 p1.toNatClampNeg))))), (a6, .inl (cj6, 19, .inr (.inl st.2.2.2.2.2)))]) H := hP
        have hD : va_D A ([(h0, .inr (4, [.int th, .ref a1, .ref a2, .ref a3, .ref a4, .ref a5, .ref a6])), (a1, .inl (cj1, 19, .inr (.inl st.1))), (a2, .inl (cj2, 19, .inr (.inl st.2.1))), (a3, .inl (cj3, 19, .inr (.inl st.2.2.1))), (a4, .inl (cj4, 19, .inr (.inl st.2.2.2.1))), (a5, .inl (cj5, 19, .inr (.inl (vp_updL st.2.2.2.2.1 p1.toNatClampNeg (st.2.2.1 p1.toNatClampNeg))))), (a6, .inl (cj6, 19, .inr (.inl st.2.2.2.2.2)))]) := hD
        refine lv_aload_n hx hb dM_toSigned_72 rfl (lv_at hl 0 rfl) ?_
        refine va_get (D := D) (ci := 4) (v := .ref a6) (C := RM) (T := TM) (N := 7) hx hb hts hi4 hown hK hP 0 rfl rfl 6 (by decide) hk3 (fun _ h9 => h9) rfl dM_toSigned_73 ?_
        refine lv_iload_n hx hb dM_toSigned_76 rfl (lv_at hl 1 rfl) ?_
        refine lv_aload_n hx hb dM_toSigned_77 rfl (lv_at hl 0 rfl) ?_
        refine va_get (D := D) (ci := 4) (v := .ref a6) (C := RM) (T := TM) (N := 7) hx hb hts hi4 hown hK hP 0 rfl rfl 6 (by decide) hk3 (fun _ h9 => h9) rfl dM_toSigned_78 ?_
        refine lv_iload_n hx hb dM_toSigned_81 rfl (lv_at hl 1 rfl) ?_
        refine va_lald hx hb hK hP 6 5 rfl rfl hq1 dM_toSigned_82 ?_
        refine lv_aload_n hx hb dM_toSigned_83 rfl (lv_at hl 0 rfl) ?_
        refine va_get (D := D) (ci := 4) (v := .ref a4) (C := RM) (T := TM) (N := 7) hx hb hts hi4 hown hK hP 0 rfl rfl 4 (by decide) hk1 (fun _ h9 => h9) rfl dM_toSigned_84 ?_
        refine lv_iload_n hx hb dM_toSigned_87 rfl (lv_at hl 1 rfl) ?_
        refine va_lald hx hb hK hP 4 3 rfl rfl hq1 dM_toSigned_88 ?_
        refine W.lcmp hx hb dM_toSigned_89 ?_
        refine lv_if_ge (tgt := 102) hx hb dM_toSigned_90 (by decide) (fun c4 => ?_) (fun c4 => ?_)
        · refine lv_aload_n hx hb dM_toSigned_102 rfl (lv_at hl 0 rfl) ?_
          refine va_get (D := D) (ci := 4) (v := .ref a4) (C := RM) (T := TM) (N := 7) hx hb hts hi4 hown hK hP 0 rfl rfl 4 (by decide) hk1 (fun _ h9 => h9) rfl dM_toSigned_103 ?_
          refine lv_iload_n hx hb dM_toSigned_106 rfl (lv_at hl 1 rfl) ?_
          refine va_lald hx hb hK hP 4 3 rfl rfl hq1 dM_toSigned_107 ?_
          refine va_last hx hb hK hP hD hS 6 5 rfl rfl hq1 dM_toSigned_108 (fun H locs hP hD hS => ?_)
          have hP : va_P D vwCl ([(h0, .inr (4, [.int th, .ref a1, .ref a2, .ref a3, .ref a4, .ref a5, .ref a6])), (a1, .inl (cj1, 19, .inr (.inl st.1))), (a2, .inl (cj2, 19, .inr (.inl st.2.1))), (a3, .inl (cj3, 19, .inr (.inl st.2.2.1))), (a4, .inl (cj4, 19, .inr (.inl st.2.2.2.1))), (a5, .inl (cj5, 19, .inr (.inl (vp_updL st.2.2.2.2.1 p1.toNatClampNeg (st.2.2.1 p1.toNatClampNeg))))), (a6, .inl (cj6, 19, .inr (.inl (vp_updL st.2.2.2.2.2 p1.toNatClampNeg (st.2.2.2.1 p1.toNatClampNeg)))))]) H := hP
          have hD : va_D A ([(h0, .inr (4, [.int th, .ref a1, .ref a2, .ref a3, .ref a4, .ref a5, .ref a6])), (a1, .inl (cj1, 19, .inr (.inl st.1))), (a2, .inl (cj2, 19, .inr (.inl st.2.1))), (a3, .inl (cj3, 19, .inr (.inl st.2.2.1))), (a4, .inl (cj4, 19, .inr (.inl st.2.2.2.1))), (a5, .inl (cj5, 19, .inr (.inl (vp_updL st.2.2.2.2.1 p1.toNatClampNeg (st.2.2.1 p1.toNatClampNeg))))), (a6, .inl (cj6, 19, .inr (.inl (vp_updL st.2.2.2.2.2 p1.toNatClampNeg (st.2.2.2.1 p1.toNatClampNeg)))))]) := hD
          refine lv_aload_n hx hb dM_toSigned_109 rfl (lv_at hl 0 rfl) ?_
          refine lv_iload_n hx hb dM_toSigned_110 rfl (lv_at hl 1 rfl) ?_
          refine sp_callz (sp_runV (As := [.int p1]) (rest := []) C (c_M_isEmpty l D h0 a1 a2 a3 a4 a5 a6 cj1 cj2 cj3 cj4 cj5 cj6 th (st.1, st.2.1, st.2.2.1, st.2.2.2.1, vp_updL st.2.2.2.2.1 p1.toNatClampNeg (st.2.2.1 p1.toNatClampNeg), vp_updL st.2.2.2.2.2 p1.toNatClampNeg (st.2.2.2.1 p1.toNatClampNeg)) p1 hq1) (cwV 1 hts (gV wG_c wm_396 wm_397 wm_398 wm_378 wm_395) rfl rfl rfl (by decide +kernel) ⟨Nat.le_of_ble_eq_true rfl, Nat.le_of_ble_eq_true rfl⟩) hK hP hD [0, 1, 2, 3, 4, 5, 6] (by decide) rfl [0, 1, 2, 3, 4, 5] rfl 0 4 rfl rfl rfl rfl hl.1 rfl (Nat.le_of_ble_eq_true rfl) dM_toSigned_111 ⟨Nat.le_of_ble_eq_true rfl, Nat.le_of_ble_eq_true rfl⟩) hP hD hS hA [0, 1, 2, 3, 4, 5, 6] rfl (sp_fc (sp_fc (sp_fc (sp_fc (sp_fc (sp_fc (sp_fc sp_f0))))))) (fun H locs z5 hP hD hS => ?_)
          have hP : va_P D vwCl ([(h0, .inr (4, [.int th, .ref a1, .ref a2, .ref a3, .ref a4, .ref a5, .ref a6])), (a1, .inl (cj1, 19, .inr (.inl st.1))), (a2, .inl (cj2, 19, .inr (.inl st.2.1))), (a3, .inl (cj3, 19, .inr (.inl st.2.2.1))), (a4, .inl (cj4, 19, .inr (.inl st.2.2.2.1))), (a5, .inl (cj5, 19, .inr (.inl (vp_updL st.2.2.2.2.1 p1.toNatClampNeg (st.2.2.1 p1.toNatClampNeg))))), (a6, .inl (cj6, 19, .inr (.inl (vp_updL st.2.2.2.2.2 p1.toNatClampNeg (st.2.2.2.1 p1.toNatClampNeg)))))]) H := hP
          have hD : va_D A ([(h0, .inr (4, [.int th, .ref a1, .ref a2, .ref a3, .ref a4, .ref a5, .ref a6])), (a1, .inl (cj1, 19, .inr (.inl st.1))), (a2, .inl (cj2, 19, .inr (.inl st.2.1))), (a3, .inl (cj3, 19, .inr (.inl st.2.2.1))), (a4, .inl (cj4, 19, .inr (.inl st.2.2.2.1))), (a5, .inl (cj5, 19, .inr (.inl (vp_updL st.2.2.2.2.1 p1.toNatClampNeg (st.2.2.1 p1.toNatClampNeg))))), (a6, .inl (cj6, 19, .inr (.inl (vp_updL st.2.2.2.2.2 p1.toNatClampNeg (st.2.2.2.1 p1.toNatClampNeg)))))]) := hD
          refine lv_if_ne (tgt := 121) hx hb dM_toSigned_114 (by decide) (fun c6 => ?_) (fun c6 => ?_)
          · refine lv_iconst (v := 0) hx hb dM_toSigned_121 (by decide) ?_
            have e9 : f_M_toSigned st p1 = ((st.1, st.2.1, st.2.2.1, st.2.2.2.1, vp_updL st.2.2.2.2.1 p1.toNatClampNeg (st.2.2.1 p1.toNatClampNeg), vp_updL st.2.2.2.2.2 p1.toNatClampNeg (st.2.2.2.1 p1.toNatClampNeg)), 0) := (if_pos c1).trans ((if_pos c2).trans ((if_pos c3).trans ((if_pos c4).trans ((if_neg c6).trans (rfl)))))
            rw [sp_fst e9, sp_snd e9]
            exact sp_zret C hAe hP hK hD hS (Or.inl rfl) dM_toSigned_122
          · refine lv_iconst (v := 1) hx hb dM_toSigned_117 (by decide) ?_
            refine lv_goto (tgt := 122) hx hb dM_toSigned_118 (by decide) ?_
            have e9 : f_M_toSigned st p1 = ((st.1, st.2.1, st.2.2.1, st.2.2.2.1, vp_updL st.2.2.2.2.1 p1.toNatClampNeg (st.2.2.1 p1.toNatClampNeg), vp_updL st.2.2.2.2.2 p1.toNatClampNeg (st.2.2.2.1 p1.toNatClampNeg)), 1) := (if_pos c1).trans ((if_pos c2).trans ((if_pos c3).trans ((if_pos c4).trans ((if_pos c6).trans (rfl)))))
            rw [sp_fst e9, sp_snd e9]
            exact sp_zret C hAe hP hK hD hS (Or.inr rfl) dM_toSigned_122
        · refine lv_aload_n hx hb dM_toSigned_93 rfl (lv_at hl 0 rfl) ?_
          refine va_get (D := D) (ci := 4) (v := .ref a6) (C := RM) (T := TM) (N := 7) hx hb hts hi4 hown hK hP 0 rfl rfl 6 (by decide) hk3 (fun _ h9 => h9) rfl dM_toSigned_94 ?_
          refine lv_iload_n hx hb dM_toSigned_97 rfl (lv_at hl 1 rfl) ?_
          refine va_lald hx hb hK hP 6 5 rfl rfl hq1 dM_toSigned_98 ?_
          refine lv_goto (tgt := 108) hx hb dM_toSigned_99 (by decide) ?_
          refine va_last hx hb hK hP hD hS 6 5 rfl rfl hq1 dM_toSigned_108 (fun H locs hP hD hS => ?_)
          have hP : va_P D vwCl ([(h0, .inr (4, [.int th, .ref a1, .ref a2, .ref a3, .ref a4, .ref a5, .ref a6])), (a1, .inl (cj1, 19, .inr (.inl st.1))), (a2, .inl (cj2, 19, .inr (.inl st.2.1))), (a3, .inl (cj3, 19, .inr (.inl st.2.2.1))), (a4, .inl (cj4, 19, .inr (.inl st.2.2.2.1))), (a5, .inl (cj5, 19, .inr (.inl (vp_updL st.2.2.2.2.1 p1.toNatClampNeg (st.2.2.1 p1.toNatClampNeg))))), (a6, .inl (cj6, 19, .inr (.inl (vp_updL st.2.2.2.2.2 p1.toNatClampNeg (st.2.2.2.2.2 p1.toNatClampNeg)))))]) H := hP
          have hD : va_D A ([(h0, .inr (4, [.int th, .ref a1, .ref a2, .ref a3, .ref a4, .ref a5, .ref a6])), (a1, .inl (cj1, 19, .inr (.inl st.1))), (a2, .inl (cj2, 19, .inr (.inl st.2.1))), (a3, .inl (cj3, 19, .inr (.inl st.2.2.1))), (a4, .inl (cj4, 19, .inr (.inl st.2.2.2.1))), (a5, .inl (cj5, 19, .inr (.inl (vp_updL st.2.2.2.2.1 p1.toNatClampNeg (st.2.2.1 p1.toNatClampNeg))))), (a6, .inl (cj6, 19, .inr (.inl (vp_updL st.2.2.2.2.2 p1.toNatClampNeg (st.2.2.2.2.2 p1.toNatClampNeg)))))]) := hD
          refine lv_aload_n hx hb dM_toSigned_109 rfl (lv_at hl 0 rfl) ?_
          refine lv_iload_n hx hb dM_toSigned_110 rfl (lv_at hl 1 rfl) ?_
          refine sp_callz (sp_runV (As := [.int p1]) (rest := []) C (c_M_isEmpty l D h0 a1 a2 a3 a4 a5 a6 cj1 cj2 cj3 cj4 cj5 cj6 th (st.1, st.2.1, st.2.2.1, st.2.2.2.1, vp_updL st.2.2.2.2.1 p1.toNatClampNeg (st.2.2.1 p1.toNatClampNeg), vp_updL st.2.2.2.2.2 p1.toNatClampNeg (st.2.2.2.2.2 p1.toNatClampNeg)) p1 hq1) (cwV 1 hts (gV wG_c wm_396 wm_397 wm_398 wm_378 wm_395) rfl rfl rfl (by decide +kernel) ⟨Nat.le_of_ble_eq_true rfl, Nat.le_of_ble_eq_true rfl⟩) hK hP hD [0, 1, 2, 3, 4, 5, 6] (by decide) rfl [0, 1, 2, 3, 4, 5] rfl 0 4 rfl rfl rfl rfl hl.1 rfl (Nat.le_of_ble_eq_true rfl) dM_toSigned_111 ⟨Nat.le_of_ble_eq_true rfl, Nat.le_of_ble_eq_true rfl⟩) hP hD hS hA [0, 1, 2, 3, 4, 5, 6] rfl (sp_fc (sp_fc (sp_fc (sp_fc (sp_fc (sp_fc (sp_fc sp_f0))))))) (fun H locs z7 hP hD hS => ?_)
          have hP : va_P D vwCl ([(h0, .inr (4, [.int th, .ref a1, .ref a2, .ref a3, .ref a4, .ref a5, .ref a6])), (a1, .inl (cj1, 19, .inr (.inl st.1))), (a2, .inl (cj2, 19, .inr (.inl st.2.1))), (a3, .inl (cj3, 19, .inr (.inl st.2.2.1))), (a4, .inl (cj4, 19, .inr (.inl st.2.2.2.1))), (a5, .inl (cj5, 19, .inr (.inl (vp_updL st.2.2.2.2.1 p1.toNatClampNeg (st.2.2.1 p1.toNatClampNeg))))), (a6, .inl (cj6, 19, .inr (.inl (vp_updL st.2.2.2.2.2 p1.toNatClampNeg (st.2.2.2.2.2 p1.toNatClampNeg)))))]) H := hP
          have hD : va_D A ([(h0, .inr (4, [.int th, .ref a1, .ref a2, .ref a3, .ref a4, .ref a5, .ref a6])), (a1, .inl (cj1, 19, .inr (.inl st.1))), (a2, .inl (cj2, 19, .inr (.inl st.2.1))), (a3, .inl (cj3, 19, .inr (.inl st.2.2.1))), (a4, .inl (cj4, 19, .inr (.inl st.2.2.2.1))), (a5, .inl (cj5, 19, .inr (.inl (vp_updL st.2.2.2.2.1 p1.toNatClampNeg (st.2.2.1 p1.toNatClampNeg))))), (a6, .inl (cj6, 19, .inr (.inl (vp_updL st.2.2.2.2.2 p1.toNatClampNeg (st.2.2.2.2.2 p1.toNatClampNeg)))))]) := hD
          refine lv_if_ne (tgt := 121) hx hb dM_toSigned_114 (by decide) (fun c8 => ?_) (fun c8 => ?_)
          · refine lv_iconst (v := 0) hx hb dM_toSigned_121 (by decide) ?_
            have e9 : f_M_toSigned st p1 = ((st.1, st.2.1, st.2.2.1, st.2.2.2.1, vp_updL st.2.2.2.2.1 p1.toNatClampNeg (st.2.2.1 p1.toNatClampNeg), vp_updL st.2.2.2.2.2 p1.toNatClampNeg (st.2.2.2.2.2 p1.toNatClampNeg)), 0) := (if_pos c1).trans ((if_pos c2).trans ((if_pos c3).trans ((if_neg c4).trans ((if_neg c8).trans (rfl)))))
            rw [sp_fst e9, sp_snd e9]
            exact sp_zret C hAe hP hK hD hS (Or.inl rfl) dM_toSigned_122
          · refine lv_iconst (v := 1) hx hb dM_toSigned_117 (by decide) ?_
            refine lv_goto (tgt := 122) hx hb dM_toSigned_118 (by decide) ?_
            have e9 : f_M_toSigned st p1 = ((st.1, st.2.1, st.2.2.1, st.2.2.2.1, vp_updL st.2.2.2.2.1 p1.toNatClampNeg (st.2.2.1 p1.toNatClampNeg), vp_updL st.2.2.2.2.2 p1.toNatClampNeg (st.2.2.2.2.2 p1.toNatClampNeg)), 1) := (if_pos c1).trans ((if_pos c2).trans ((if_pos c3).trans ((if_neg c4).trans ((if_pos c8).trans (rfl)))))
            rw [sp_fst e9, sp_snd e9]
            exact sp_zret C hAe hP hK hD hS (Or.inr rfl) dM_toSigned_122
      · refine lv_aload_n hx hb dM_toSigned_56 rfl (lv_at hl 0 rfl) ?_
        refine va_get (D := D) (ci := 4) (v := .ref a5) (C := RM) (T := TM) (N := 7) hx hb hts hi4 hown hK hP 0 rfl rfl 5 (by decide) hk2 (fun _ h9 => h9) rfl dM_toSigned_57 ?_
        refine lv_iload_n hx hb dM_toSigned_60 rfl (lv_at hl 1 rfl) ?_
        refine va_lald hx hb hK hP 5 4 rfl rfl hq1 dM_toSigned_61 ?_
        refine lv_goto (tgt := 71) hx hb dM_toSigned_62 (by decide) ?_
        refine va_last hx hb hK hP hD hS 5 4 rfl rfl hq1 dM_toSigned_71 (fun H locs hP hD hS => ?_)
        have hP : va_P D vwCl ([(h0, .inr (4, [.int th, .ref a1, .ref a2, .ref a3, .ref a4, .ref a5, .ref a6])), (a1, .inl (cj1, 19, .inr (.inl st.1))), (a2, .inl (cj2, 19, .inr (.inl st.2.1))), (a3, .inl (cj3, 19, .inr (.inl st.2.2.1))), (a4, .inl (cj4, 19, .inr (.inl st.2.2.2.1))), (a5, .inl (cj5, 19, .inr (.inl (vp_updL st.2.2.2.2.1 p1.toNatClampNeg (st.2.2.2.2.1 p1.toNatClampNeg))))), (a6, .inl (cj6, 19, .inr (.inl st.2.2.2.2.2)))]) H := hP
        have hD : va_D A ([(h0, .inr (4, [.int th, .ref a1, .ref a2, .ref a3, .ref a4, .ref a5, .ref a6])), (a1, .inl (cj1, 19, .inr (.inl st.1))), (a2, .inl (cj2, 19, .inr (.inl st.2.1))), (a3, .inl (cj3, 19, .inr (.inl st.2.2.1))), (a4, .inl (cj4, 19, .inr (.inl st.2.2.2.1))), (a5, .inl (cj5, 19, .inr (.inl (vp_updL st.2.2.2.2.1 p1.toNatClampNeg (st.2.2.2.2.1 p1.toNatClampNeg))))), (a6, .inl (cj6, 19, .inr (.inl st.2.2.2.2.2)))]) := hD
        refine lv_aload_n hx hb dM_toSigned_72 rfl (lv_at hl 0 rfl) ?_
        refine va_get (D := D) (ci := 4) (v := .ref a6) (C := RM) (T := TM) (N := 7) hx hb hts hi4 hown hK hP 0 rfl rfl 6 (by decide) hk3 (fun _ h9 => h9) rfl dM_toSigned_73 ?_
        refine lv_iload_n hx hb dM_toSigned_76 rfl (lv_at hl 1 rfl) ?_
        refine lv_aload_n hx hb dM_toSigned_77 rfl (lv_at hl 0 rfl) ?_
        refine va_get (D := D) (ci := 4) (v := .ref a6) (C := RM) (T := TM) (N := 7) hx hb hts hi4 hown hK hP 0 rfl rfl 6 (by decide) hk3 (fun _ h9 => h9) rfl dM_toSigned_78 ?_
        refine lv_iload_n hx hb dM_toSigned_81 rfl (lv_at hl 1 rfl) ?_
        refine va_lald hx hb hK hP 6 5 rfl rfl hq1 dM_toSigned_82 ?_
        refine lv_aload_n hx hb dM_toSigned_83 rfl (lv_at hl 0 rfl) ?_
        refine va_get (D := D) (ci := 4) (v := .ref a4) (C := RM) (T := TM) (N := 7) hx hb hts hi4 hown hK hP 0 rfl rfl 4 (by decide) hk1 (fun _ h9 => h9) rfl dM_toSigned_84 ?_
        refine lv_iload_n hx hb dM_toSigned_87 rfl (lv_at hl 1 rfl) ?_
        refine va_lald hx hb hK hP 4 3 rfl rfl hq1 dM_toSigned_88 ?_
        refine W.lcmp hx hb dM_toSigned_89 ?_
        refine lv_if_ge (tgt := 102) hx hb dM_toSigned_90 (by decide) (fun c9 => ?_) (fun c9 => ?_)
        · refine lv_aload_n hx hb dM_toSigned_102 rfl (lv_at hl 0 rfl) ?_
          refine va_get (D := D) (ci := 4) (v := .ref a4) (C := RM) (T := TM) (N := 7) hx hb hts hi4 hown hK hP 0 rfl rfl 4 (by decide) hk1 (fun _ h9 => h9) rfl dM_toSigned_103 ?_
          refine lv_iload_n hx hb dM_toSigned_106 rfl (lv_at hl 1 rfl) ?_
          refine va_lald hx hb hK hP 4 3 rfl rfl hq1 dM_toSigned_107 ?_
          refine va_last hx hb hK hP hD hS 6 5 rfl rfl hq1 dM_toSigned_108 (fun H locs hP hD hS => ?_)
          have hP : va_P D vwCl ([(h0, .inr (4, [.int th, .ref a1, .ref a2, .ref a3, .ref a4, .ref a5, .ref a6])), (a1, .inl (cj1, 19, .inr (.inl st.1))), (a2, .inl (cj2, 19, .inr (.inl st.2.1))), (a3, .inl (cj3, 19, .inr (.inl st.2.2.1))), (a4, .inl (cj4, 19, .inr (.inl st.2.2.2.1))), (a5, .inl (cj5, 19, .inr (.inl (vp_updL st.2.2.2.2.1 p1.toNatClampNeg (st.2.2.2.2.1 p1.toNatClampNeg))))), (a6, .inl (cj6, 19, .inr (.inl (vp_updL st.2.2.2.2.2 p1.toNatClampNeg (st.2.2.2.1 p1.toNatClampNeg)))))]) H := hP
          have hD : va_D A ([(h0, .inr (4, [.int th, .ref a1, .ref a2, .ref a3, .ref a4, .ref a5, .ref a6])), (a1, .inl (cj1, 19, .inr (.inl st.1))), (a2, .inl (cj2, 19, .inr (.inl st.2.1))), (a3, .inl (cj3, 19, .inr (.inl st.2.2.1))), (a4, .inl (cj4, 19, .inr (.inl st.2.2.2.1))), (a5, .inl (cj5, 19, .inr (.inl (vp_updL st.2.2.2.2.1 p1.toNatClampNeg (st.2.2.2.2.1 p1.toNatClampNeg))))), (a6, .inl (cj6, 19, .inr (.inl (vp_updL st.2.2.2.2.2 p1.toNatClampNeg (st.2.2.2.1 p1.toNatClampNeg)))))]) := hD
          refine lv_aload_n hx hb dM_toSigned_109 rfl (lv_at hl 0 rfl) ?_
          refine lv_iload_n hx hb dM_toSigned_110 rfl (lv_at hl 1 rfl) ?_
          refine sp_callz (sp_runV (As := [.int p1]) (rest := []) C (c_M_isEmpty l D h0 a1 a2 a3 a4 a5 a6 cj1 cj2 cj3 cj4 cj5 cj6 th (st.1, st.2.1, st.2.2.1, st.2.2.2.1, vp_updL st.2.2.2.2.1 p1.toNatClampNeg (st.2.2.2.2.1 p1.toNatClampNeg), vp_updL st.2.2.2.2.2 p1.toNatClampNeg (st.2.2.2.1 p1.toNatClampNeg)) p1 hq1) (cwV 1 hts (gV wG_c wm_396 wm_397 wm_398 wm_378 wm_395) rfl rfl rfl (by decide +kernel) ⟨Nat.le_of_ble_eq_true rfl, Nat.le_of_ble_eq_true rfl⟩) hK hP hD [0, 1, 2, 3, 4, 5, 6] (by decide) rfl [0, 1, 2, 3, 4, 5] rfl 0 4 rfl rfl rfl rfl hl.1 rfl (Nat.le_of_ble_eq_true rfl) dM_toSigned_111 ⟨Nat.le_of_ble_eq_true rfl, Nat.le_of_ble_eq_true rfl⟩) hP hD hS hA [0, 1, 2, 3, 4, 5, 6] rfl (sp_fc (sp_fc (sp_fc (sp_fc (sp_fc (sp_fc (sp_fc sp_f0))))))) (fun H locs z10 hP hD hS => ?_)
          have hP : va_P D vwCl ([(h0, .inr (4, [.int th, .ref a1, .ref a2, .ref a3, .ref a4, .ref a5, .ref a6])), (a1, .inl (cj1, 19, .inr (.inl st.1))), (a2, .inl (cj2, 19, .inr (.inl st.2.1))), (a3, .inl (cj3, 19, .inr (.inl st.2.2.1))), (a4, .inl (cj4, 19, .inr (.inl st.2.2.2.1))), (a5, .inl (cj5, 19, .inr (.inl (vp_updL st.2.2.2.2.1 p1.toNatClampNeg (st.2.2.2.2.1 p1.toNatClampNeg))))), (a6, .inl (cj6, 19, .inr (.inl (vp_updL st.2.2.2.2.2 p1.toNatClampNeg (st.2.2.2.1 p1.toNatClampNeg)))))]) H := hP
          have hD : va_D A ([(h0, .inr (4, [.int th, .ref a1, .ref a2, .ref a3, .ref a4, .ref a5, .ref a6])), (a1, .inl (cj1, 19, .inr (.inl st.1))), (a2, .inl (cj2, 19, .inr (.inl st.2.1))), (a3, .inl (cj3, 19, .inr (.inl st.2.2.1))), (a4, .inl (cj4, 19, .inr (.inl st.2.2.2.1))), (a5, .inl (cj5, 19, .inr (.inl (vp_updL st.2.2.2.2.1 p1.toNatClampNeg (st.2.2.2.2.1 p1.toNatClampNeg))))), (a6, .inl (cj6, 19, .inr (.inl (vp_updL st.2.2.2.2.2 p1.toNatClampNeg (st.2.2.2.1 p1.toNatClampNeg)))))]) := hD
          refine lv_if_ne (tgt := 121) hx hb dM_toSigned_114 (by decide) (fun c11 => ?_) (fun c11 => ?_)
          · refine lv_iconst (v := 0) hx hb dM_toSigned_121 (by decide) ?_
            have e9 : f_M_toSigned st p1 = ((st.1, st.2.1, st.2.2.1, st.2.2.2.1, vp_updL st.2.2.2.2.1 p1.toNatClampNeg (st.2.2.2.2.1 p1.toNatClampNeg), vp_updL st.2.2.2.2.2 p1.toNatClampNeg (st.2.2.2.1 p1.toNatClampNeg)), 0) := (if_pos c1).trans ((if_pos c2).trans ((if_neg c3).trans ((if_pos c9).trans ((if_neg c11).trans (rfl)))))
            rw [sp_fst e9, sp_snd e9]
            exact sp_zret C hAe hP hK hD hS (Or.inl rfl) dM_toSigned_122
          · refine lv_iconst (v := 1) hx hb dM_toSigned_117 (by decide) ?_
            refine lv_goto (tgt := 122) hx hb dM_toSigned_118 (by decide) ?_
            have e9 : f_M_toSigned st p1 = ((st.1, st.2.1, st.2.2.1, st.2.2.2.1, vp_updL st.2.2.2.2.1 p1.toNatClampNeg (st.2.2.2.2.1 p1.toNatClampNeg), vp_updL st.2.2.2.2.2 p1.toNatClampNeg (st.2.2.2.1 p1.toNatClampNeg)), 1) := (if_pos c1).trans ((if_pos c2).trans ((if_neg c3).trans ((if_pos c9).trans ((if_pos c11).trans (rfl)))))
            rw [sp_fst e9, sp_snd e9]
            exact sp_zret C hAe hP hK hD hS (Or.inr rfl) dM_toSigned_122
        · refine lv_aload_n hx hb dM_toSigned_93 rfl (lv_at hl 0 rfl) ?_
          refine va_get (D := D) (ci := 4) (v := .ref a6) (C := RM) (T := TM) (N := 7) hx hb hts hi4 hown hK hP 0 rfl rfl 6 (by decide) hk3 (fun _ h9 => h9) rfl dM_toSigned_94 ?_
          refine lv_iload_n hx hb dM_toSigned_97 rfl (lv_at hl 1 rfl) ?_
          refine va_lald hx hb hK hP 6 5 rfl rfl hq1 dM_toSigned_98 ?_
          refine lv_goto (tgt := 108) hx hb dM_toSigned_99 (by decide) ?_
          refine va_last hx hb hK hP hD hS 6 5 rfl rfl hq1 dM_toSigned_108 (fun H locs hP hD hS => ?_)
          have hP : va_P D vwCl ([(h0, .inr (4, [.int th, .ref a1, .ref a2, .ref a3, .ref a4, .ref a5, .ref a6])), (a1, .inl (cj1, 19, .inr (.inl st.1))), (a2, .inl (cj2, 19, .inr (.inl st.2.1))), (a3, .inl (cj3, 19, .inr (.inl st.2.2.1))), (a4, .inl (cj4, 19, .inr (.inl st.2.2.2.1))), (a5, .inl (cj5, 19, .inr (.inl (vp_updL st.2.2.2.2.1 p1.toNatClampNeg (st.2.2.2.2.1 p1.toNatClampNeg))))), (a6, .inl (cj6, 19, .inr (.inl (vp_updL st.2.2.2.2.2 p1.toNatClampNeg (st.2.2.2.2.2 p1.toNatClampNeg)))))]) H := hP
          have hD : va_D A ([(h0, .inr (4, [.int th, .ref a1, .ref a2, .ref a3, .ref a4, .ref a5, .ref a6])), (a1, .inl (cj1, 19, .inr (.inl st.1))), (a2, .inl (cj2, 19, .inr (.inl st.2.1))), (a3, .inl (cj3, 19, .inr (.inl st.2.2.1))), (a4, .inl (cj4, 19, .inr (.inl st.2.2.2.1))), (a5, .inl (cj5, 19, .inr (.inl (vp_updL st.2.2.2.2.1 p1.toNatClampNeg (st.2.2.2.2.1 p1.toNatClampNeg))))), (a6, .inl (cj6, 19, .inr (.inl (vp_updL st.2.2.2.2.2 p1.toNatClampNeg (st.2.2.2.2.2 p1.toNatClampNeg)))))]) := hD
          refine lv_aload_n hx hb dM_toSigned_109 rfl (lv_at hl 0 rfl) ?_
          refine lv_iload_n hx hb dM_toSigned_110 rfl (lv_at hl 1 rfl) ?_
          refine sp_callz (sp_runV (As := [.int p1]) (rest := []) C (c_M_isEmpty l D h0 a1 a2 a3 a4 a5 a6 cj1 cj2 cj3 cj4 cj5 cj6 th (st.1, st.2.1, st.2.2.1, st.2.2.2.1, vp_updL st.2.2.2.2.1 p1.toNatClampNeg (st.2.2.2.2.1 p1.toNatClampNeg), vp_updL st.2.2.2.2.2 p1.toNatClampNeg (st.2.2.2.2.2 p1.toNatClampNeg)) p1 hq1) (cwV 1 hts (gV wG_c wm_396 wm_397 wm_398 wm_378 wm_395) rfl rfl rfl (by decide +kernel) ⟨Nat.le_of_ble_eq_true rfl, Nat.le_of_ble_eq_true rfl⟩) hK hP hD [0, 1, 2, 3, 4, 5, 6] (by decide) rfl [0, 1, 2, 3, 4, 5] rfl 0 4 rfl rfl rfl rfl hl.1 rfl (Nat.le_of_ble_eq_true rfl) dM_toSigned_111 ⟨Nat.le_of_ble_eq_true rfl, Nat.le_of_ble_eq_true rfl⟩) hP hD hS hA [0, 1, 2, 3, 4, 5, 6] rfl (sp_fc (sp_fc (sp_fc (sp_fc (sp_fc (sp_fc (sp_fc sp_f0))))))) (fun H locs z12 hP hD hS => ?_)
          have hP : va_P D vwCl ([(h0, .inr (4, [.int th, .ref a1, .ref a2, .ref a3, .ref a4, .ref a5, .ref a6])), (a1, .inl (cj1, 19, .inr (.inl st.1))), (a2, .inl (cj2, 19, .inr (.inl st.2.1))), (a3, .inl (cj3, 19, .inr (.inl st.2.2.1))), (a4, .inl (cj4, 19, .inr (.inl st.2.2.2.1))), (a5, .inl (cj5, 19, .inr (.inl (vp_updL st.2.2.2.2.1 p1.toNatClampNeg (st.2.2.2.2.1 p1.toNatClampNeg))))), (a6, .inl (cj6, 19, .inr (.inl (vp_updL st.2.2.2.2.2 p1.toNatClampNeg (st.2.2.2.2.2 p1.toNatClampNeg)))))]) H := hP
          have hD : va_D A ([(h0, .inr (4, [.int th, .ref a1, .ref a2, .ref a3, .ref a4, .ref a5, .ref a6])), (a1, .inl (cj1, 19, .inr (.inl st.1))), (a2, .inl (cj2, 19, .inr (.inl st.2.1))), (a3, .inl (cj3, 19, .inr (.inl st.2.2.1))), (a4, .inl (cj4, 19, .inr (.inl st.2.2.2.1))), (a5, .inl (cj5, 19, .inr (.inl (vp_updL st.2.2.2.2.1 p1.toNatClampNeg (st.2.2.2.2.1 p1.toNatClampNeg))))), (a6, .inl (cj6, 19, .inr (.inl (vp_updL st.2.2.2.2.2 p1.toNatClampNeg (st.2.2.2.2.2 p1.toNatClampNeg)))))]) := hD
          refine lv_if_ne (tgt := 121) hx hb dM_toSigned_114 (by decide) (fun c13 => ?_) (fun c13 => ?_)
          · refine lv_iconst (v := 0) hx hb dM_toSigned_121 (by decide) ?_
            have e9 : f_M_toSigned st p1 = ((st.1, st.2.1, st.2.2.1, st.2.2.2.1, vp_updL st.2.2.2.2.1 p1.toNatClampNeg (st.2.2.2.2.1 p1.toNatClampNeg), vp_updL st.2.2.2.2.2 p1.toNatClampNeg (st.2.2.2.2.2 p1.toNatClampNeg)), 0) := (if_pos c1).trans ((if_pos c2).trans ((if_neg c3).trans ((if_neg c9).trans ((if_neg c13).trans (rfl)))))
            rw [sp_fst e9, sp_snd e9]
            exact sp_zret C hAe hP hK hD hS (Or.inl rfl) dM_toSigned_122
          · refine lv_iconst (v := 1) hx hb dM_toSigned_117 (by decide) ?_
            refine lv_goto (tgt := 122) hx hb dM_toSigned_118 (by decide) ?_
            have e9 : f_M_toSigned st p1 = ((st.1, st.2.1, st.2.2.1, st.2.2.2.1, vp_updL st.2.2.2.2.1 p1.toNatClampNeg (st.2.2.2.2.1 p1.toNatClampNeg), vp_updL st.2.2.2.2.2 p1.toNatClampNeg (st.2.2.2.2.2 p1.toNatClampNeg)), 1) := (if_pos c1).trans ((if_pos c2).trans ((if_neg c3).trans ((if_neg c9).trans ((if_pos c13).trans (rfl)))))
            rw [sp_fst e9, sp_snd e9]
            exact sp_zret C hAe hP hK hD hS (Or.inr rfl) dM_toSigned_122
    · refine lv_iconst (v := 1) hx hb dM_toSigned_27 (by decide) ?_
      refine lv_goto (tgt := 32) hx hb dM_toSigned_28 (by decide) ?_
      refine lv_icmp_ne (tgt := 109) hx hb dM_toSigned_32 (by decide) (fun _ => ?_) (fun h9 => absurd h9 (by decide))
      refine lv_aload_n hx hb dM_toSigned_109 rfl (lv_at hl 0 rfl) ?_
      refine lv_iload_n hx hb dM_toSigned_110 rfl (lv_at hl 1 rfl) ?_
      refine sp_callz (sp_runV (As := [.int p1]) (rest := []) C (c_M_isEmpty l D h0 a1 a2 a3 a4 a5 a6 cj1 cj2 cj3 cj4 cj5 cj6 th st p1 hq1) (cwV 1 hts (gV wG_c wm_396 wm_397 wm_398 wm_378 wm_395) rfl rfl rfl (by decide +kernel) ⟨Nat.le_of_ble_eq_true rfl, Nat.le_of_ble_eq_true rfl⟩) hK hP hD [0, 1, 2, 3, 4, 5, 6] (by decide) rfl [0, 1, 2, 3, 4, 5] rfl 0 4 rfl rfl rfl rfl hl.1 rfl (Nat.le_of_ble_eq_true rfl) dM_toSigned_111 ⟨Nat.le_of_ble_eq_true rfl, Nat.le_of_ble_eq_true rfl⟩) hP hD hS hA [0, 1, 2, 3, 4, 5, 6] rfl (sp_fc (sp_fc (sp_fc (sp_fc (sp_fc (sp_fc (sp_fc sp_f0))))))) (fun H locs z14 hP hD hS => ?_)
      have hP : va_P D vwCl ([(h0, .inr (4, [.int th, .ref a1, .ref a2, .ref a3, .ref a4, .ref a5, .ref a6])), (a1, .inl (cj1, 19, .inr (.inl st.1))), (a2, .inl (cj2, 19, .inr (.inl st.2.1))), (a3, .inl (cj3, 19, .inr (.inl st.2.2.1))), (a4, .inl (cj4, 19, .inr (.inl st.2.2.2.1))), (a5, .inl (cj5, 19, .inr (.inl st.2.2.2.2.1))), (a6, .inl (cj6, 19, .inr (.inl st.2.2.2.2.2)))]) H := hP
      have hD : va_D A ([(h0, .inr (4, [.int th, .ref a1, .ref a2, .ref a3, .ref a4, .ref a5, .ref a6])), (a1, .inl (cj1, 19, .inr (.inl st.1))), (a2, .inl (cj2, 19, .inr (.inl st.2.1))), (a3, .inl (cj3, 19, .inr (.inl st.2.2.1))), (a4, .inl (cj4, 19, .inr (.inl st.2.2.2.1))), (a5, .inl (cj5, 19, .inr (.inl st.2.2.2.2.1))), (a6, .inl (cj6, 19, .inr (.inl st.2.2.2.2.2)))]) := hD
      refine lv_if_ne (tgt := 121) hx hb dM_toSigned_114 (by decide) (fun c15 => ?_) (fun c15 => ?_)
      · refine lv_iconst (v := 0) hx hb dM_toSigned_121 (by decide) ?_
        have e9 : f_M_toSigned st p1 = (st, 0) := (if_pos c1).trans ((if_neg c2).trans ((if_neg c15).trans (rfl)))
        rw [sp_fst e9, sp_snd e9]
        exact sp_zret C hAe hP hK hD hS (Or.inl rfl) dM_toSigned_122
      · refine lv_iconst (v := 1) hx hb dM_toSigned_117 (by decide) ?_
        refine lv_goto (tgt := 122) hx hb dM_toSigned_118 (by decide) ?_
        have e9 : f_M_toSigned st p1 = (st, 1) := (if_pos c1).trans ((if_neg c2).trans ((if_pos c15).trans (rfl)))
        rw [sp_fst e9, sp_snd e9]
        exact sp_zret C hAe hP hK hD hS (Or.inr rfl) dM_toSigned_122
  · refine lv_iconst (v := 1) hx hb dM_toSigned_11 (by decide) ?_
    refine lv_goto (tgt := 16) hx hb dM_toSigned_12 (by decide) ?_
    refine lv_aload_n hx hb dM_toSigned_16 rfl (lv_at hl 0 rfl) ?_
    refine va_get (D := D) (ci := 4) (v := .ref a4) (C := RM) (T := TM) (N := 7) hx hb hts hi4 hown hK hP 0 rfl rfl 4 (by decide) hk1 (fun _ h9 => h9) rfl dM_toSigned_17 ?_
    refine lv_iload_n hx hb dM_toSigned_20 rfl (lv_at hl 1 rfl) ?_
    refine va_lald hx hb hK hP 4 3 rfl rfl hq1 dM_toSigned_21 ?_
    refine lv_lconst (v := 0) hx hb dM_toSigned_22 (by decide) ?_
    refine W.lcmp hx hb dM_toSigned_23 ?_
    refine lv_if_ge (tgt := 31) hx hb dM_toSigned_24 (by decide) (fun c16 => ?_) (fun c16 => ?_)
    · refine lv_iconst (v := 0) hx hb dM_toSigned_31 (by decide) ?_
      refine lv_icmp_ne (tgt := 109) hx hb dM_toSigned_32 (by decide) (fun _ => ?_) (fun h9 => absurd h9 (by decide))
      refine lv_aload_n hx hb dM_toSigned_109 rfl (lv_at hl 0 rfl) ?_
      refine lv_iload_n hx hb dM_toSigned_110 rfl (lv_at hl 1 rfl) ?_
      refine sp_callz (sp_runV (As := [.int p1]) (rest := []) C (c_M_isEmpty l D h0 a1 a2 a3 a4 a5 a6 cj1 cj2 cj3 cj4 cj5 cj6 th st p1 hq1) (cwV 1 hts (gV wG_c wm_396 wm_397 wm_398 wm_378 wm_395) rfl rfl rfl (by decide +kernel) ⟨Nat.le_of_ble_eq_true rfl, Nat.le_of_ble_eq_true rfl⟩) hK hP hD [0, 1, 2, 3, 4, 5, 6] (by decide) rfl [0, 1, 2, 3, 4, 5] rfl 0 4 rfl rfl rfl rfl hl.1 rfl (Nat.le_of_ble_eq_true rfl) dM_toSigned_111 ⟨Nat.le_of_ble_eq_true rfl, Nat.le_of_ble_eq_true rfl⟩) hP hD hS hA [0, 1, 2, 3, 4, 5, 6] rfl (sp_fc (sp_fc (sp_fc (sp_fc (sp_fc (sp_fc (sp_fc sp_f0))))))) (fun H locs z17 hP hD hS => ?_)
      have hP : va_P D vwCl ([(h0, .inr (4, [.int th, .ref a1, .ref a2, .ref a3, .ref a4, .ref a5, .ref a6])), (a1, .inl (cj1, 19, .inr (.inl st.1))), (a2, .inl (cj2, 19, .inr (.inl st.2.1))), (a3, .inl (cj3, 19, .inr (.inl st.2.2.1))), (a4, .inl (cj4, 19, .inr (.inl st.2.2.2.1))), (a5, .inl (cj5, 19, .inr (.inl st.2.2.2.2.1))), (a6, .inl (cj6, 19, .inr (.inl st.2.2.2.2.2)))]) H := hP
      have hD : va_D A ([(h0, .inr (4, [.int th, .ref a1, .ref a2, .ref a3, .ref a4, .ref a5, .ref a6])), (a1, .inl (cj1, 19, .inr (.inl st.1))), (a2, .inl (cj2, 19, .inr (.inl st.2.1))), (a3, .inl (cj3, 19, .inr (.inl st.2.2.1))), (a4, .inl (cj4, 19, .inr (.inl st.2.2.2.1))), (a5, .inl (cj5, 19, .inr (.inl st.2.2.2.2.1))), (a6, .inl (cj6, 19, .inr (.inl st.2.2.2.2.2)))]) := hD
      refine lv_if_ne (tgt := 121) hx hb dM_toSigned_114 (by decide) (fun c18 => ?_) (fun c18 => ?_)
      · refine lv_iconst (v := 0) hx hb dM_toSigned_121 (by decide) ?_
        have e9 : f_M_toSigned st p1 = (st, 0) := (if_neg c1).trans ((if_pos c16).trans ((if_neg c18).trans (rfl)))
        rw [sp_fst e9, sp_snd e9]
        exact sp_zret C hAe hP hK hD hS (Or.inl rfl) dM_toSigned_122
      · refine lv_iconst (v := 1) hx hb dM_toSigned_117 (by decide) ?_
        refine lv_goto (tgt := 122) hx hb dM_toSigned_118 (by decide) ?_
        have e9 : f_M_toSigned st p1 = (st, 1) := (if_neg c1).trans ((if_pos c16).trans ((if_pos c18).trans (rfl)))
        rw [sp_fst e9, sp_snd e9]
        exact sp_zret C hAe hP hK hD hS (Or.inr rfl) dM_toSigned_122
    · refine lv_iconst (v := 1) hx hb dM_toSigned_27 (by decide) ?_
      refine lv_goto (tgt := 32) hx hb dM_toSigned_28 (by decide) ?_
      refine lv_icmp_ne (tgt := 109) hx hb dM_toSigned_32 (by decide) (fun h9 => absurd h9 (by decide)) (fun _ => ?_)
      refine lv_aload_n hx hb dM_toSigned_35 rfl (lv_at hl 0 rfl) ?_
      refine va_get (D := D) (ci := 4) (v := .ref a5) (C := RM) (T := TM) (N := 7) hx hb hts hi4 hown hK hP 0 rfl rfl 5 (by decide) hk2 (fun _ h9 => h9) rfl dM_toSigned_36 ?_
      refine lv_iload_n hx hb dM_toSigned_39 rfl (lv_at hl 1 rfl) ?_
      refine lv_aload_n hx hb dM_toSigned_40 rfl (lv_at hl 0 rfl) ?_
      refine va_get (D := D) (ci := 4) (v := .ref a5) (C := RM) (T := TM) (N := 7) hx hb hts hi4 hown hK hP 0 rfl rfl 5 (by decide) hk2 (fun _ h9 => h9) rfl dM_toSigned_41 ?_
      refine lv_iload_n hx hb dM_toSigned_44 rfl (lv_at hl 1 rfl) ?_
      refine va_lald hx hb hK hP 5 4 rfl rfl hq1 dM_toSigned_45 ?_
      refine lv_aload_n hx hb dM_toSigned_46 rfl (lv_at hl 0 rfl) ?_
      refine va_get (D := D) (ci := 4) (v := .ref a3) (C := RM) (T := TM) (N := 7) hx hb hts hi4 hown hK hP 0 rfl rfl 3 (by decide) hk0 (fun _ h9 => h9) rfl dM_toSigned_47 ?_
      refine lv_iload_n hx hb dM_toSigned_50 rfl (lv_at hl 1 rfl) ?_
      refine va_lald hx hb hK hP 3 2 rfl rfl hq1 dM_toSigned_51 ?_
      refine W.lcmp hx hb dM_toSigned_52 ?_
      refine lv_if_le (tgt := 65) hx hb dM_toSigned_53 (by decide) (fun c19 => ?_) (fun c19 => ?_)
      · refine lv_aload_n hx hb dM_toSigned_65 rfl (lv_at hl 0 rfl) ?_
        refine va_get (D := D) (ci := 4) (v := .ref a3) (C := RM) (T := TM) (N := 7) hx hb hts hi4 hown hK hP 0 rfl rfl 3 (by decide) hk0 (fun _ h9 => h9) rfl dM_toSigned_66 ?_
        refine lv_iload_n hx hb dM_toSigned_69 rfl (lv_at hl 1 rfl) ?_
        refine va_lald hx hb hK hP 3 2 rfl rfl hq1 dM_toSigned_70 ?_
        refine va_last hx hb hK hP hD hS 5 4 rfl rfl hq1 dM_toSigned_71 (fun H locs hP hD hS => ?_)
        have hP : va_P D vwCl ([(h0, .inr (4, [.int th, .ref a1, .ref a2, .ref a3, .ref a4, .ref a5, .ref a6])), (a1, .inl (cj1, 19, .inr (.inl st.1))), (a2, .inl (cj2, 19, .inr (.inl st.2.1))), (a3, .inl (cj3, 19, .inr (.inl st.2.2.1))), (a4, .inl (cj4, 19, .inr (.inl st.2.2.2.1))), (a5, .inl (cj5, 19, .inr (.inl (vp_updL st.2.2.2.2.1 p1.toNatClampNeg (st.2.2.1 p1.toNatClampNeg))))), (a6, .inl (cj6, 19, .inr (.inl st.2.2.2.2.2)))]) H := hP
        have hD : va_D A ([(h0, .inr (4, [.int th, .ref a1, .ref a2, .ref a3, .ref a4, .ref a5, .ref a6])), (a1, .inl (cj1, 19, .inr (.inl st.1))), (a2, .inl (cj2, 19, .inr (.inl st.2.1))), (a3, .inl (cj3, 19, .inr (.inl st.2.2.1))), (a4, .inl (cj4, 19, .inr (.inl st.2.2.2.1))), (a5, .inl (cj5, 19, .inr (.inl (vp_updL st.2.2.2.2.1 p1.toNatClampNeg (st.2.2.1 p1.toNatClampNeg))))), (a6, .inl (cj6, 19, .inr (.inl st.2.2.2.2.2)))]) := hD
        refine lv_aload_n hx hb dM_toSigned_72 rfl (lv_at hl 0 rfl) ?_
        refine va_get (D := D) (ci := 4) (v := .ref a6) (C := RM) (T := TM) (N := 7) hx hb hts hi4 hown hK hP 0 rfl rfl 6 (by decide) hk3 (fun _ h9 => h9) rfl dM_toSigned_73 ?_
        refine lv_iload_n hx hb dM_toSigned_76 rfl (lv_at hl 1 rfl) ?_
        refine lv_aload_n hx hb dM_toSigned_77 rfl (lv_at hl 0 rfl) ?_
        refine va_get (D := D) (ci := 4) (v := .ref a6) (C := RM) (T := TM) (N := 7) hx hb hts hi4 hown hK hP 0 rfl rfl 6 (by decide) hk3 (fun _ h9 => h9) rfl dM_toSigned_78 ?_
        refine lv_iload_n hx hb dM_toSigned_81 rfl (lv_at hl 1 rfl) ?_
        refine va_lald hx hb hK hP 6 5 rfl rfl hq1 dM_toSigned_82 ?_
        refine lv_aload_n hx hb dM_toSigned_83 rfl (lv_at hl 0 rfl) ?_
        refine va_get (D := D) (ci := 4) (v := .ref a4) (C := RM) (T := TM) (N := 7) hx hb hts hi4 hown hK hP 0 rfl rfl 4 (by decide) hk1 (fun _ h9 => h9) rfl dM_toSigned_84 ?_
        refine lv_iload_n hx hb dM_toSigned_87 rfl (lv_at hl 1 rfl) ?_
        refine va_lald hx hb hK hP 4 3 rfl rfl hq1 dM_toSigned_88 ?_
        refine W.lcmp hx hb dM_toSigned_89 ?_
        refine lv_if_ge (tgt := 102) hx hb dM_toSigned_90 (by decide) (fun c20 => ?_) (fun c20 => ?_)
        · refine lv_aload_n hx hb dM_toSigned_102 rfl (lv_at hl 0 rfl) ?_
          refine va_get (D := D) (ci := 4) (v := .ref a4) (C := RM) (T := TM) (N := 7) hx hb hts hi4 hown hK hP 0 rfl rfl 4 (by decide) hk1 (fun _ h9 => h9) rfl dM_toSigned_103 ?_
          refine lv_iload_n hx hb dM_toSigned_106 rfl (lv_at hl 1 rfl) ?_
          refine va_lald hx hb hK hP 4 3 rfl rfl hq1 dM_toSigned_107 ?_
          refine va_last hx hb hK hP hD hS 6 5 rfl rfl hq1 dM_toSigned_108 (fun H locs hP hD hS => ?_)
          have hP : va_P D vwCl ([(h0, .inr (4, [.int th, .ref a1, .ref a2, .ref a3, .ref a4, .ref a5, .ref a6])), (a1, .inl (cj1, 19, .inr (.inl st.1))), (a2, .inl (cj2, 19, .inr (.inl st.2.1))), (a3, .inl (cj3, 19, .inr (.inl st.2.2.1))), (a4, .inl (cj4, 19, .inr (.inl st.2.2.2.1))), (a5, .inl (cj5, 19, .inr (.inl (vp_updL st.2.2.2.2.1 p1.toNatClampNeg (st.2.2.1 p1.toNatClampNeg))))), (a6, .inl (cj6, 19, .inr (.inl (vp_updL st.2.2.2.2.2 p1.toNatClampNeg (st.2.2.2.1 p1.toNatClampNeg)))))]) H := hP
          have hD : va_D A ([(h0, .inr (4, [.int th, .ref a1, .ref a2, .ref a3, .ref a4, .ref a5, .ref a6])), (a1, .inl (cj1, 19, .inr (.inl st.1))), (a2, .inl (cj2, 19, .inr (.inl st.2.1))), (a3, .inl (cj3, 19, .inr (.inl st.2.2.1))), (a4, .inl (cj4, 19, .inr (.inl st.2.2.2.1))), (a5, .inl (cj5, 19, .inr (.inl (vp_updL st.2.2.2.2.1 p1.toNatClampNeg (st.2.2.1 p1.toNatClampNeg))))), (a6, .inl (cj6, 19, .inr (.inl (vp_updL st.2.2.2.2.2 p1.toNatClampNeg (st.2.2.2.1 p1.toNatClampNeg)))))]) := hD
          refine lv_aload_n hx hb dM_toSigned_109 rfl (lv_at hl 0 rfl) ?_
          refine lv_iload_n hx hb dM_toSigned_110 rfl (lv_at hl 1 rfl) ?_
          refine sp_callz (sp_runV (As := [.int p1]) (rest := []) C (c_M_isEmpty l D h0 a1 a2 a3 a4 a5 a6 cj1 cj2 cj3 cj4 cj5 cj6 th (st.1, st.2.1, st.2.2.1, st.2.2.2.1, vp_updL st.2.2.2.2.1 p1.toNatClampNeg (st.2.2.1 p1.toNatClampNeg), vp_updL st.2.2.2.2.2 p1.toNatClampNeg (st.2.2.2.1 p1.toNatClampNeg)) p1 hq1) (cwV 1 hts (gV wG_c wm_396 wm_397 wm_398 wm_378 wm_395) rfl rfl rfl (by decide +kernel) ⟨Nat.le_of_ble_eq_true rfl, Nat.le_of_ble_eq_true rfl⟩) hK hP hD [0, 1, 2, 3, 4, 5, 6] (by decide) rfl [0, 1, 2, 3, 4, 5] rfl 0 4 rfl rfl rfl rfl hl.1 rfl (Nat.le_of_ble_eq_true rfl) dM_toSigned_111 ⟨Nat.le_of_ble_eq_true rfl, Nat.le_of_ble_eq_true rfl⟩) hP hD hS hA [0, 1, 2, 3, 4, 5, 6] rfl (sp_fc (sp_fc (sp_fc (sp_fc (sp_fc (sp_fc (sp_fc sp_f0))))))) (fun H locs z21 hP hD hS => ?_)
          have hP : va_P D vwCl ([(h0, .inr (4, [.int th, .ref a1, .ref a2, .ref a3, .ref a4, .ref a5, .ref a6])), (a1, .inl (cj1, 19, .inr (.inl st.1))), (a2, .inl (cj2, 19, .inr (.inl st.2.1))), (a3, .inl (cj3, 19, .inr (.inl st.2.2.1))), (a4, .inl (cj4, 19, .inr (.inl st.2.2.2.1))), (a5, .inl (cj5, 19, .inr (.inl (vp_updL st.2.2.2.2.1 p1.toNatClampNeg (st.2.2.1 p1.toNatClampNeg))))), (a6, .inl (cj6, 19, .inr (.inl (vp_updL st.2.2.2.2.2 p1.toNatClampNeg (st.2.2.2.1 p1.toNatClampNeg)))))]) H := hP
          have hD : va_D A ([(h0, .inr (4, [.int th, .ref a1, .ref a2, .ref a3, .ref a4, .ref a5, .ref a6])), (a1, .inl (cj1, 19, .inr (.inl st.1))), (a2, .inl (cj2, 19, .inr (.inl st.2.1))), (a3, .inl (cj3, 19, .inr (.inl st.2.2.1))), (a4, .inl (cj4, 19, .inr (.inl st.2.2.2.1))), (a5, .inl (cj5, 19, .inr (.inl (vp_updL st.2.2.2.2.1 p1.toNatClampNeg (st.2.2.1 p1.toNatClampNeg))))), (a6, .inl (cj6, 19, .inr (.inl (vp_updL st.2.2.2.2.2 p1.toNatClampNeg (st.2.2.2.1 p1.toNatClampNeg)))))]) := hD
          refine lv_if_ne (tgt := 121) hx hb dM_toSigned_114 (by decide) (fun c22 => ?_) (fun c22 => ?_)
          · refine lv_iconst (v := 0) hx hb dM_toSigned_121 (by decide) ?_
            have e9 : f_M_toSigned st p1 = ((st.1, st.2.1, st.2.2.1, st.2.2.2.1, vp_updL st.2.2.2.2.1 p1.toNatClampNeg (st.2.2.1 p1.toNatClampNeg), vp_updL st.2.2.2.2.2 p1.toNatClampNeg (st.2.2.2.1 p1.toNatClampNeg)), 0) := (if_neg c1).trans ((if_neg c16).trans ((if_pos c19).trans ((if_pos c20).trans ((if_neg c22).trans (rfl)))))
            rw [sp_fst e9, sp_snd e9]
            exact sp_zret C hAe hP hK hD hS (Or.inl rfl) dM_toSigned_122
          · refine lv_iconst (v := 1) hx hb dM_toSigned_117 (by decide) ?_
            refine lv_goto (tgt := 122) hx hb dM_toSigned_118 (by decide) ?_
            have e9 : f_M_toSigned st p1 = ((st.1, st.2.1, st.2.2.1, st.2.2.2.1, vp_updL st.2.2.2.2.1 p1.toNatClampNeg (st.2.2.1 p1.toNatClampNeg), vp_updL st.2.2.2.2.2 p1.toNatClampNeg (st.2.2.2.1 p1.toNatClampNeg)), 1) := (if_neg c1).trans ((if_neg c16).trans ((if_pos c19).trans ((if_pos c20).trans ((if_pos c22).trans (rfl)))))
            rw [sp_fst e9, sp_snd e9]
            exact sp_zret C hAe hP hK hD hS (Or.inr rfl) dM_toSigned_122
        · refine lv_aload_n hx hb dM_toSigned_93 rfl (lv_at hl 0 rfl) ?_
          refine va_get (D := D) (ci := 4) (v := .ref a6) (C := RM) (T := TM) (N := 7) hx hb hts hi4 hown hK hP 0 rfl rfl 6 (by decide) hk3 (fun _ h9 => h9) rfl dM_toSigned_94 ?_
          refine lv_iload_n hx hb dM_toSigned_97 rfl (lv_at hl 1 rfl) ?_
          refine va_lald hx hb hK hP 6 5 rfl rfl hq1 dM_toSigned_98 ?_
          refine lv_goto (tgt := 108) hx hb dM_toSigned_99 (by decide) ?_
          refine va_last hx hb hK hP hD hS 6 5 rfl rfl hq1 dM_toSigned_108 (fun H locs hP hD hS => ?_)
          have hP : va_P D vwCl ([(h0, .inr (4, [.int th, .ref a1, .ref a2, .ref a3, .ref a4, .ref a5, .ref a6])), (a1, .inl (cj1, 19, .inr (.inl st.1))), (a2, .inl (cj2, 19, .inr (.inl st.2.1))), (a3, .inl (cj3, 19, .inr (.inl st.2.2.1))), (a4, .inl (cj4, 19, .inr (.inl st.2.2.2.1))), (a5, .inl (cj5, 19, .inr (.inl (vp_updL st.2.2.2.2.1 p1.toNatClampNeg (st.2.2.1 p1.toNatClampNeg))))), (a6, .inl (cj6, 19, .inr (.inl (vp_updL st.2.2.2.2.2 p1.toNatClampNeg (st.2.2.2.2.2 p1.toNatClampNeg)))))]) H := hP
          have hD : va_D A ([(h0, .inr (4, [.int th, .ref a1, .ref a2, .ref a3, .ref a4, .ref a5, .ref a6])), (a1, .inl (cj1, 19, .inr (.inl st.1))), (a2, .inl (cj2, 19, .inr (.inl st.2.1))), (a3, .inl (cj3, 19, .inr (.inl st.2.2.1))), (a4, .inl (cj4, 19, .inr (.inl st.2.2.2.1))), (a5, .inl (cj5, 19, .inr (.inl (vp_updL st.2.2.2.2.1 p1.toNatClampNeg (st.2.2.1 p1.toNatClampNeg))))), (a6, .inl (cj6, 19, .inr (.inl (vp_updL st.2.2.2.2.2 p1.toNatClampNeg (st.2.2.2.2.2 p1.toNatClampNeg)))))]) := hD
          refine lv_aload_n hx hb dM_toSigned_109 rfl (lv_at hl 0 rfl) ?_
          refine lv_iload_n hx hb dM_toSigned_110 rfl (lv_at hl 1 rfl) ?_
          refine sp_callz (sp_runV (As := [.int p1]) (rest := []) C (c_M_isEmpty l D h0 a1 a2 a3 a4 a5 a6 cj1 cj2 cj3 cj4 cj5 cj6 th (st.1, st.2.1, st.2.2.1, st.2.2.2.1, vp_updL st.2.2.2.2.1 p1.toNatClampNeg (st.2.2.1 p1.toNatClampNeg), vp_updL st.2.2.2.2.2 p1.toNatClampNeg (st.2.2.2.2.2 p1.toNatClampNeg)) p1 hq1) (cwV 1 hts (gV wG_c wm_396 wm_397 wm_398 wm_378 wm_395) rfl rfl rfl (by decide +kernel) ⟨Nat.le_of_ble_eq_true rfl, Nat.le_of_ble_eq_true rfl⟩) hK hP hD [0, 1, 2, 3, 4, 5, 6] (by decide) rfl [0, 1, 2, 3, 4, 5] rfl 0 4 rfl rfl rfl rfl hl.1 rfl (Nat.le_of_ble_eq_true rfl) dM_toSigned_111 ⟨Nat.le_of_ble_eq_true rfl, Nat.le_of_ble_eq_true rfl⟩) hP hD hS hA [0, 1, 2, 3, 4, 5, 6] rfl (sp_fc (sp_fc (sp_fc (sp_fc (sp_fc (sp_fc (sp_fc sp_f0))))))) (fun H locs z23 hP hD hS => ?_)
          have hP : va_P D vwCl ([(h0, .inr (4, [.int th, .ref a1, .ref a2, .ref a3, .ref a4, .ref a5, .ref a6])), (a1, .inl (cj1, 19, .inr (.inl st.1))), (a2, .inl (cj2, 19, .inr (.inl st.2.1))), (a3, .inl (cj3, 19, .inr (.inl st.2.2.1))), (a4, .inl (cj4, 19, .inr (.inl st.2.2.2.1))), (a5, .inl (cj5, 19, .inr (.inl (vp_updL st.2.2.2.2.1 p1.toNatClampNeg (st.2.2.1 p1.toNatClampNeg))))), (a6, .inl (cj6, 19, .inr (.inl (vp_updL st.2.2.2.2.2 p1.toNatClampNeg (st.2.2.2.2.2 p1.toNatClampNeg)))))]) H := hP
          have hD : va_D A ([(h0, .inr (4, [.int th, .ref a1, .ref a2, .ref a3, .ref a4, .ref a5, .ref a6])), (a1, .inl (cj1, 19, .inr (.inl st.1))), (a2, .inl (cj2, 19, .inr (.inl st.2.1))), (a3, .inl (cj3, 19, .inr (.inl st.2.2.1))), (a4, .inl (cj4, 19, .inr (.inl st.2.2.2.1))), (a5, .inl (cj5, 19, .inr (.inl (vp_updL st.2.2.2.2.1 p1.toNatClampNeg (st.2.2.1 p1.toNatClampNeg))))), (a6, .inl (cj6, 19, .inr (.inl (vp_updL st.2.2.2.2.2 p1.toNatClampNeg (st.2.2.2.2.2 p1.toNatClampNeg)))))]) := hD
          refine lv_if_ne (tgt := 121) hx hb dM_toSigned_114 (by decide) (fun c24 => ?_) (fun c24 => ?_)
          · refine lv_iconst (v := 0) hx hb dM_toSigned_121 (by decide) ?_
            have e9 : f_M_toSigned st p1 = ((st.1, st.2.1, st.2.2.1, st.2.2.2.1, vp_updL st.2.2.2.2.1 p1.toNatClampNeg (st.2.2.1 p1.toNatClampNeg), vp_updL st.2.2.2.2.2 p1.toNatClampNeg (st.2.2.2.2.2 p1.toNatClampNeg)), 0) := (if_neg c1).trans ((if_neg c16).trans ((if_pos c19).trans ((if_neg c20).trans ((if_neg c24).trans (rfl)))))
            rw [sp_fst e9, sp_snd e9]
            exact sp_zret C hAe hP hK hD hS (Or.inl rfl) dM_toSigned_122
          · refine lv_iconst (v := 1) hx hb dM_toSigned_117 (by decide) ?_
            refine lv_goto (tgt := 122) hx hb dM_toSigned_118 (by decide) ?_
            have e9 : f_M_toSigned st p1 = ((st.1, st.2.1, st.2.2.1, st.2.2.2.1, vp_updL st.2.2.2.2.1 p1.toNatClampNeg (st.2.2.1 p1.toNatClampNeg), vp_updL st.2.2.2.2.2 p1.toNatClampNeg (st.2.2.2.2.2 p1.toNatClampNeg)), 1) := (if_neg c1).trans ((if_neg c16).trans ((if_pos c19).trans ((if_neg c20).trans ((if_pos c24).trans (rfl)))))
            rw [sp_fst e9, sp_snd e9]
            exact sp_zret C hAe hP hK hD hS (Or.inr rfl) dM_toSigned_122
      · refine lv_aload_n hx hb dM_toSigned_56 rfl (lv_at hl 0 rfl) ?_
        refine va_get (D := D) (ci := 4) (v := .ref a5) (C := RM) (T := TM) (N := 7) hx hb hts hi4 hown hK hP 0 rfl rfl 5 (by decide) hk2 (fun _ h9 => h9) rfl dM_toSigned_57 ?_
        refine lv_iload_n hx hb dM_toSigned_60 rfl (lv_at hl 1 rfl) ?_
        refine va_lald hx hb hK hP 5 4 rfl rfl hq1 dM_toSigned_61 ?_
        refine lv_goto (tgt := 71) hx hb dM_toSigned_62 (by decide) ?_
        refine va_last hx hb hK hP hD hS 5 4 rfl rfl hq1 dM_toSigned_71 (fun H locs hP hD hS => ?_)
        have hP : va_P D vwCl ([(h0, .inr (4, [.int th, .ref a1, .ref a2, .ref a3, .ref a4, .ref a5, .ref a6])), (a1, .inl (cj1, 19, .inr (.inl st.1))), (a2, .inl (cj2, 19, .inr (.inl st.2.1))), (a3, .inl (cj3, 19, .inr (.inl st.2.2.1))), (a4, .inl (cj4, 19, .inr (.inl st.2.2.2.1))), (a5, .inl (cj5, 19, .inr (.inl (vp_updL st.2.2.2.2.1 p1.toNatClampNeg (st.2.2.2.2.1 p1.toNatClampNeg))))), (a6, .inl (cj6, 19, .inr (.inl st.2.2.2.2.2)))]) H := hP
        have hD : va_D A ([(h0, .inr (4, [.int th, .ref a1, .ref a2, .ref a3, .ref a4, .ref a5, .ref a6])), (a1, .inl (cj1, 19, .inr (.inl st.1))), (a2, .inl (cj2, 19, .inr (.inl st.2.1))), (a3, .inl (cj3, 19, .inr (.inl st.2.2.1))), (a4, .inl (cj4, 19, .inr (.inl st.2.2.2.1))), (a5, .inl (cj5, 19, .inr (.inl (vp_updL st.2.2.2.2.1 p1.toNatClampNeg (st.2.2.2.2.1 p1.toNatClampNeg))))), (a6, .inl (cj6, 19, .inr (.inl st.2.2.2.2.2)))]) := hD
        refine lv_aload_n hx hb dM_toSigned_72 rfl (lv_at hl 0 rfl) ?_
        refine va_get (D := D) (ci := 4) (v := .ref a6) (C := RM) (T := TM) (N := 7) hx hb hts hi4 hown hK hP 0 rfl rfl 6 (by decide) hk3 (fun _ h9 => h9) rfl dM_toSigned_73 ?_
        refine lv_iload_n hx hb dM_toSigned_76 rfl (lv_at hl 1 rfl) ?_
        refine lv_aload_n hx hb dM_toSigned_77 rfl (lv_at hl 0 rfl) ?_
        refine va_get (D := D) (ci := 4) (v := .ref a6) (C := RM) (T := TM) (N := 7) hx hb hts hi4 hown hK hP 0 rfl rfl 6 (by decide) hk3 (fun _ h9 => h9) rfl dM_toSigned_78 ?_
        refine lv_iload_n hx hb dM_toSigned_81 rfl (lv_at hl 1 rfl) ?_
        refine va_lald hx hb hK hP 6 5 rfl rfl hq1 dM_toSigned_82 ?_
        refine lv_aload_n hx hb dM_toSigned_83 rfl (lv_at hl 0 rfl) ?_
        refine va_get (D := D) (ci := 4) (v := .ref a4) (C := RM) (T := TM) (N := 7) hx hb hts hi4 hown hK hP 0 rfl rfl 4 (by decide) hk1 (fun _ h9 => h9) rfl dM_toSigned_84 ?_
        refine lv_iload_n hx hb dM_toSigned_87 rfl (lv_at hl 1 rfl) ?_
        refine va_lald hx hb hK hP 4 3 rfl rfl hq1 dM_toSigned_88 ?_
        refine W.lcmp hx hb dM_toSigned_89 ?_
        refine lv_if_ge (tgt := 102) hx hb dM_toSigned_90 (by decide) (fun c25 => ?_) (fun c25 => ?_)
        · refine lv_aload_n hx hb dM_toSigned_102 rfl (lv_at hl 0 rfl) ?_
          refine va_get (D := D) (ci := 4) (v := .ref a4) (C := RM) (T := TM) (N := 7) hx hb hts hi4 hown hK hP 0 rfl rfl 4 (by decide) hk1 (fun _ h9 => h9) rfl dM_toSigned_103 ?_
          refine lv_iload_n hx hb dM_toSigned_106 rfl (lv_at hl 1 rfl) ?_
          refine va_lald hx hb hK hP 4 3 rfl rfl hq1 dM_toSigned_107 ?_
          refine va_last hx hb hK hP hD hS 6 5 rfl rfl hq1 dM_toSigned_108 (fun H locs hP hD hS => ?_)
          have hP : va_P D vwCl ([(h0, .inr (4, [.int th, .ref a1, .ref a2, .ref a3, .ref a4, .ref a5, .ref a6])), (a1, .inl (cj1, 19, .inr (.inl st.1))), (a2, .inl (cj2, 19, .inr (.inl st.2.1))), (a3, .inl (cj3, 19, .inr (.inl st.2.2.1))), (a4, .inl (cj4, 19, .inr (.inl st.2.2.2.1))), (a5, .inl (cj5, 19, .inr (.inl (vp_updL st.2.2.2.2.1 p1.toNatClampNeg (st.2.2.2.2.1 p1.toNatClampNeg))))), (a6, .inl (cj6, 19, .inr (.inl (vp_updL st.2.2.2.2.2 p1.toNatClampNeg (st.2.2.2.1 p1.toNatClampNeg)))))]) H := hP
          have hD : va_D A ([(h0, .inr (4, [.int th, .ref a1, .ref a2, .ref a3, .ref a4, .ref a5, .ref a6])), (a1, .inl (cj1, 19, .inr (.inl st.1))), (a2, .inl (cj2, 19, .inr (.inl st.2.1))), (a3, .inl (cj3, 19, .inr (.inl st.2.2.1))), (a4, .inl (cj4, 19, .inr (.inl st.2.2.2.1))), (a5, .inl (cj5, 19, .inr (.inl (vp_updL st.2.2.2.2.1 p1.toNatClampNeg (st.2.2.2.2.1 p1.toNatClampNeg))))), (a6, .inl (cj6, 19, .inr (.inl (vp_updL st.2.2.2.2.2 p1.toNatClampNeg (st.2.2.2.1 p1.toNatClampNeg)))))]) := hD
          refine lv_aload_n hx hb dM_toSigned_109 rfl (lv_at hl 0 rfl) ?_
          refine lv_iload_n hx hb dM_toSigned_110 rfl (lv_at hl 1 rfl) ?_
          refine sp_callz (sp_runV (As := [.int p1]) (rest := []) C (c_M_isEmpty l D h0 a1 a2 a3 a4 a5 a6 cj1 cj2 cj3 cj4 cj5 cj6 th (st.1, st.2.1, st.2.2.1, st.2.2.2.1, vp_updL st.2.2.2.2.1 p1.toNatClampNeg (st.2.2.2.2.1 p1.toNatClampNeg), vp_updL st.2.2.2.2.2 p1.toNatClampNeg (st.2.2.2.1 p1.toNatClampNeg)) p1 hq1) (cwV 1 hts (gV wG_c wm_396 wm_397 wm_398 wm_378 wm_395) rfl rfl rfl (by decide +kernel) ⟨Nat.le_of_ble_eq_true rfl, Nat.le_of_ble_eq_true rfl⟩) hK hP hD [0, 1, 2, 3, 4, 5, 6] (by decide) rfl [0, 1, 2, 3, 4, 5] rfl 0 4 rfl rfl rfl rfl hl.1 rfl (Nat.le_of_ble_eq_true rfl) dM_toSigned_111 ⟨Nat.le_of_ble_eq_true rfl, Nat.le_of_ble_eq_true rfl⟩) hP hD hS hA [0, 1, 2, 3, 4, 5, 6] rfl (sp_fc (sp_fc (sp_fc (sp_fc (sp_fc (sp_fc (sp_fc sp_f0))))))) (fun H locs z26 hP hD hS => ?_)
          have hP : va_P D vwCl ([(h0, .inr (4, [.int th, .ref a1, .ref a2, .ref a3, .ref a4, .ref a5, .ref a6])), (a1, .inl (cj1, 19, .inr (.inl st.1))), (a2, .inl (cj2, 19, .inr (.inl st.2.1))), (a3, .inl (cj3, 19, .inr (.inl st.2.2.1))), (a4, .inl (cj4, 19, .inr (.inl st.2.2.2.1))), (a5, .inl (cj5, 19, .inr (.inl (vp_updL st.2.2.2.2.1 p1.toNatClampNeg (st.2.2.2.2.1 p1.toNatClampNeg))))), (a6, .inl (cj6, 19, .inr (.inl (vp_updL st.2.2.2.2.2 p1.toNatClampNeg (st.2.2.2.1 p1.toNatClampNeg)))))]) H := hP
          have hD : va_D A ([(h0, .inr (4, [.int th, .ref a1, .ref a2, .ref a3, .ref a4, .ref a5, .ref a6])), (a1, .inl (cj1, 19, .inr (.inl st.1))), (a2, .inl (cj2, 19, .inr (.inl st.2.1))), (a3, .inl (cj3, 19, .inr (.inl st.2.2.1))), (a4, .inl (cj4, 19, .inr (.inl st.2.2.2.1))), (a5, .inl (cj5, 19, .inr (.inl (vp_updL st.2.2.2.2.1 p1.toNatClampNeg (st.2.2.2.2.1 p1.toNatClampNeg))))), (a6, .inl (cj6, 19, .inr (.inl (vp_updL st.2.2.2.2.2 p1.toNatClampNeg (st.2.2.2.1 p1.toNatClampNeg)))))]) := hD
          refine lv_if_ne (tgt := 121) hx hb dM_toSigned_114 (by decide) (fun c27 => ?_) (fun c27 => ?_)
          · refine lv_iconst (v := 0) hx hb dM_toSigned_121 (by decide) ?_
            have e9 : f_M_toSigned st p1 = ((st.1, st.2.1, st.2.2.1, st.2.2.2.1, vp_updL st.2.2.2.2.1 p1.toNatClampNeg (st.2.2.2.2.1 p1.toNatClampNeg), vp_updL st.2.2.2.2.2 p1.toNatClampNeg (st.2.2.2.1 p1.toNatClampNeg)), 0) := (if_neg c1).trans ((if_neg c16).trans ((if_neg c19).trans ((if_pos c25).trans ((if_neg c27).trans (rfl)))))
            rw [sp_fst e9, sp_snd e9]
            exact sp_zret C hAe hP hK hD hS (Or.inl rfl) dM_toSigned_122
          · refine lv_iconst (v := 1) hx hb dM_toSigned_117 (by decide) ?_
            refine lv_goto (tgt := 122) hx hb dM_toSigned_118 (by decide) ?_
            have e9 : f_M_toSigned st p1 = ((st.1, st.2.1, st.2.2.1, st.2.2.2.1, vp_updL st.2.2.2.2.1 p1.toNatClampNeg (st.2.2.2.2.1 p1.toNatClampNeg), vp_updL st.2.2.2.2.2 p1.toNatClampNeg (st.2.2.2.1 p1.toNatClampNeg)), 1) := (if_neg c1).trans ((if_neg c16).trans ((if_neg c19).trans ((if_pos c25).trans ((if_pos c27).trans (rfl)))))
            rw [sp_fst e9, sp_snd e9]
            exact sp_zret C hAe hP hK hD hS (Or.inr rfl) dM_toSigned_122
        · refine lv_aload_n hx hb dM_toSigned_93 rfl (lv_at hl 0 rfl) ?_
          refine va_get (D := D) (ci := 4) (v := .ref a6) (C := RM) (T := TM) (N := 7) hx hb hts hi4 hown hK hP 0 rfl rfl 6 (by decide) hk3 (fun _ h9 => h9) rfl dM_toSigned_94 ?_
          refine lv_iload_n hx hb dM_toSigned_97 rfl (lv_at hl 1 rfl) ?_
          refine va_lald hx hb hK hP 6 5 rfl rfl hq1 dM_toSigned_98 ?_
          refine lv_goto (tgt := 108) hx hb dM_toSigned_99 (by decide) ?_
          refine va_last hx hb hK hP hD hS 6 5 rfl rfl hq1 dM_toSigned_108 (fun H locs hP hD hS => ?_)
          have hP : va_P D vwCl ([(h0, .inr (4, [.int th, .ref a1, .ref a2, .ref a3, .ref a4, .ref a5, .ref a6])), (a1, .inl (cj1, 19, .inr (.inl st.1))), (a2, .inl (cj2, 19, .inr (.inl st.2.1))), (a3, .inl (cj3, 19, .inr (.inl st.2.2.1))), (a4, .inl (cj4, 19, .inr (.inl st.2.2.2.1))), (a5, .inl (cj5, 19, .inr (.inl (vp_updL st.2.2.2.2.1 p1.toNatClampNeg (st.2.2.2.2.1 p1.toNatClampNeg))))), (a6, .inl (cj6, 19, .inr (.inl (vp_updL st.2.2.2.2.2 p1.toNatClampNeg (st.2.2.2.2.2 p1.toNatClampNeg)))))]) H := hP
          have hD : va_D A ([(h0, .inr (4, [.int th, .ref a1, .ref a2, .ref a3, .ref a4, .ref a5, .ref a6])), (a1, .inl (cj1, 19, .inr (.inl st.1))), (a2, .inl (cj2, 19, .inr (.inl st.2.1))), (a3, .inl (cj3, 19, .inr (.inl st.2.2.1))), (a4, .inl (cj4, 19, .inr (.inl st.2.2.2.1))), (a5, .inl (cj5, 19, .inr (.inl (vp_updL st.2.2.2.2.1 p1.toNatClampNeg (st.2.2.2.2.1 p1.toNatClampNeg))))), (a6, .inl (cj6, 19, .inr (.inl (vp_updL st.2.2.2.2.2 p1.toNatClampNeg (st.2.2.2.2.2 p1.toNatClampNeg)))))]) := hD
          refine lv_aload_n hx hb dM_toSigned_109 rfl (lv_at hl 0 rfl) ?_
          refine lv_iload_n hx hb dM_toSigned_110 rfl (lv_at hl 1 rfl) ?_
          refine sp_callz (sp_runV (As := [.int p1]) (rest := []) C (c_M_isEmpty l D h0 a1 a2 a3 a4 a5 a6 cj1 cj2 cj3 cj4 cj5 cj6 th (st.1, st.2.1, st.2.2.1, st.2.2.2.1, vp_updL st.2.2.2.2.1 p1.toNatClampNeg (st.2.2.2.2.1 p1.toNatClampNeg), vp_updL st.2.2.2.2.2 p1.toNatClampNeg (st.2.2.2.2.2 p1.toNatClampNeg)) p1 hq1) (cwV 1 hts (gV wG_c wm_396 wm_397 wm_398 wm_378 wm_395) rfl rfl rfl (by decide +kernel) ⟨Nat.le_of_ble_eq_true rfl, Nat.le_of_ble_eq_true rfl⟩) hK hP hD [0, 1, 2, 3, 4, 5, 6] (by decide) rfl [0, 1, 2, 3, 4, 5] rfl 0 4 rfl rfl rfl rfl hl.1 rfl (Nat.le_of_ble_eq_true rfl) dM_toSigned_111 ⟨Nat.le_of_ble_eq_true rfl, Nat.le_of_ble_eq_true rfl⟩) hP hD hS hA [0, 1, 2, 3, 4, 5, 6] rfl (sp_fc (sp_fc (sp_fc (sp_fc (sp_fc (sp_fc (sp_fc sp_f0))))))) (fun H locs z28 hP hD hS => ?_)
          have hP : va_P D vwCl ([(h0, .inr (4, [.int th, .ref a1, .ref a2, .ref a3, .ref a4, .ref a5, .ref a6])), (a1, .inl (cj1, 19, .inr (.inl st.1))), (a2, .inl (cj2, 19, .inr (.inl st.2.1))), (a3, .inl (cj3, 19, .inr (.inl st.2.2.1))), (a4, .inl (cj4, 19, .inr (.inl st.2.2.2.1))), (a5, .inl (cj5, 19, .inr (.inl (vp_updL st.2.2.2.2.1 p1.toNatClampNeg (st.2.2.2.2.1 p1.toNatClampNeg))))), (a6, .inl (cj6, 19, .inr (.inl (vp_updL st.2.2.2.2.2 p1.toNatClampNeg (st.2.2.2.2.2 p1.toNatClampNeg)))))]) H := hP
          have hD : va_D A ([(h0, .inr (4, [.int th, .ref a1, .ref a2, .ref a3, .ref a4, .ref a5, .ref a6])), (a1, .inl (cj1, 19, .inr (.inl st.1))), (a2, .inl (cj2, 19, .inr (.inl st.2.1))), (a3, .inl (cj3, 19, .inr (.inl st.2.2.1))), (a4, .inl (cj4, 19, .inr (.inl st.2.2.2.1))), (a5, .inl (cj5, 19, .inr (.inl (vp_updL st.2.2.2.2.1 p1.toNatClampNeg (st.2.2.2.2.1 p1.toNatClampNeg))))), (a6, .inl (cj6, 19, .inr (.inl (vp_updL st.2.2.2.2.2 p1.toNatClampNeg (st.2.2.2.2.2 p1.toNatClampNeg)))))]) := hD
          refine lv_if_ne (tgt := 121) hx hb dM_toSigned_114 (by decide) (fun c29 => ?_) (fun c29 => ?_)
          · refine lv_iconst (v := 0) hx hb dM_toSigned_121 (by decide) ?_
            have e9 : f_M_toSigned st p1 = ((st.1, st.2.1, st.2.2.1, st.2.2.2.1, vp_updL st.2.2.2.2.1 p1.toNatClampNeg (st.2.2.2.2.1 p1.toNatClampNeg), vp_updL st.2.2.2.2.2 p1.toNatClampNeg (st.2.2.2.2.2 p1.toNatClampNeg)), 0) := (if_neg c1).trans ((if_neg c16).trans ((if_neg c19).trans ((if_neg c25).trans ((if_neg c29).trans (rfl)))))
            rw [sp_fst e9, sp_snd e9]
            exact sp_zret C hAe hP hK hD hS (Or.inl rfl) dM_toSigned_122
          · refine lv_iconst (v := 1) hx hb dM_toSigned_117 (by decide) ?_
            refine lv_goto (tgt := 122) hx hb dM_toSigned_118 (by decide) ?_
            have e9 : f_M_toSigned st p1 = ((st.1, st.2.1, st.2.2.1, st.2.2.2.1, vp_updL st.2.2.2.2.1 p1.toNatClampNeg (st.2.2.2.2.1 p1.toNatClampNeg), vp_updL st.2.2.2.2.2 p1.toNatClampNeg (st.2.2.2.2.2 p1.toNatClampNeg)), 1) := (if_neg c1).trans ((if_neg c16).trans ((if_neg c19).trans ((if_neg c25).trans ((if_pos c29).trans (rfl)))))
            rw [sp_fst e9, sp_snd e9]
            exact sp_zret C hAe hP hK hD hS (Or.inr rfl) dM_toSigned_122
def f_M_toUnsigned (st : Md) (p1 : Int32) : Md × Int32 :=
  if 0 ≤ (lg_cmp (st.2.2.2.2.1 p1.toNatClampNeg) 0) then (if 0 ≤ (lg_cmp (st.2.2.2.2.2 p1.toNatClampNeg) 0) then (if (f_M_isEmpty (st.1, st.2.1, vp_updL st.2.2.1 p1.toNatClampNeg (f_M_greater (st.2.2.1 p1.toNatClampNeg) (st.2.2.2.2.1 p1.toNatClampNeg)), vp_updL st.2.2.2.1 p1.toNatClampNeg (f_M_lesser (st.2.2.2.1 p1.toNatClampNeg) (st.2.2.2.2.2 p1.toNatClampNeg)), st.2.2.2.2.1, st.2.2.2.2.2) p1) = 0 then ((st.1, st.2.1, vp_updL st.2.2.1 p1.toNatClampNeg (f_M_greater (st.2.2.1 p1.toNatClampNeg) (st.2.2.2.2.1 p1.toNatClampNeg)), vp_updL st.2.2.2.1 p1.toNatClampNeg (f_M_lesser (st.2.2.2.1 p1.toNatClampNeg) (st.2.2.2.2.2 p1.toNatClampNeg)), st.2.2.2.2.1, st.2.2.2.2.2), 1)
      else ((st.1, st.2.1, vp_updL st.2.2.1 p1.toNatClampNeg (f_M_greater (st.2.2.1 p1.toNatClampNeg) (st.2.2.2.2.1 p1.toNatClampNeg)), vp_updL st.2.2.2.1 p1.toNatClampNeg (f_M_lesser (st.2.2.2.1 p1.toNatClampNeg) (st.2.2.2.2.2 p1.toNatClampNeg)), st.2.2.2.2.1, st.2.2.2.2.2), 0))
    else if (f_M_isEmpty st p1) = 0 then (st, 1)
    else (st, 0))
  else if 0 ≤ (lg_cmp (st.2.2.2.2.2 p1.toNatClampNeg) 0) then (if (f_M_isEmpty st p1) = 0 then (st, 1)
    else (st, 0))
  else if (f_M_isEmpty (st.1, st.2.1, vp_updL st.2.2.1 p1.toNatClampNeg (f_M_greater (st.2.2.1 p1.toNatClampNeg) (st.2.2.2.2.1 p1.toNatClampNeg)), vp_updL st.2.2.2.1 p1.toNatClampNeg (f_M_lesser (st.2.2.2.1 p1.toNatClampNeg) (st.2.2.2.2.2 p1.toNatClampNeg)), st.2.2.2.2.1, st.2.2.2.2.2) p1) = 0 then ((st.1, st.2.1, vp_updL st.2.2.1 p1.toNatClampNeg (f_M_greater (st.2.2.1 p1.toNatClampNeg) (st.2.2.2.2.1 p1.toNatClampNeg)), vp_updL st.2.2.2.1 p1.toNatClampNeg (f_M_lesser (st.2.2.2.1 p1.toNatClampNeg) (st.2.2.2.2.2 p1.toNatClampNeg)), st.2.2.2.2.1, st.2.2.2.2.2), 1)
  else ((st.1, st.2.1, vp_updL st.2.2.1 p1.toNatClampNeg (f_M_greater (st.2.2.1 p1.toNatClampNeg) (st.2.2.2.2.1 p1.toNatClampNeg)), vp_updL st.2.2.2.1 p1.toNatClampNeg (f_M_lesser (st.2.2.2.1 p1.toNatClampNeg) (st.2.2.2.2.2 p1.toNatClampNeg)), st.2.2.2.2.1, st.2.2.2.2.2), 0)
set_option maxHeartbeats 4000000 in
set_option maxRecDepth 100000 in
theorem c_M_toUnsigned (l : Launch) (D : va_G) (h0 : Nat) (a1 : Nat) (a2 : Nat) (a3 : Nat) (a4 : Nat) (a5 : Nat) (a6 : Nat) (cj1 cj2 cj3 cj4 cj5 cj6 : ClassId) (th : Int32) (st : Md) (p1 : Int32) (hq1 : vp_in p1 19) : sp_M l yM_toUnsigned wsM_toUnsigned ({ frames := 2, cells := 0, slots := 0, locals := 46 }) D [.ref h0, .int p1] ([(h0, .inr (4, [.int th, .ref a1, .ref a2, .ref a3, .ref a4, .ref a5, .ref a6])), (a1, .inl (cj1, 19, .inr (.inl st.1))), (a2, .inl (cj2, 19, .inr (.inl st.2.1))), (a3, .inl (cj3, 19, .inr (.inl st.2.2.1))), (a4, .inl (cj4, 19, .inr (.inl st.2.2.2.1))), (a5, .inl (cj5, 19, .inr (.inl st.2.2.2.2.1))), (a6, .inl (cj6, 19, .inr (.inl st.2.2.2.2.2)))]) [(cj1, .long), (cj2, .long), (cj3, .long), (cj4, .long), (cj5, .long), (cj6, .long)] (sp_Qz D ([(h0, .inr (4, [.int th, .ref a1, .ref a2, .ref a3, .ref a4, .ref a5, .ref a6])), (a1, .inl (cj1, 19, .inr (.inl st.1))), (a2, .inl (cj2, 19, .inr (.inl st.2.1))), (a3, .inl (cj3, 19, .inr (.inl st.2.2.1))), (a4, .inl (cj4, 19, .inr (.inl st.2.2.2.1))), (a5, .inl (cj5, 19, .inr (.inl st.2.2.2.2.1))), (a6, .inl (cj6, 19, .inr (.inl st.2.2.2.2.2)))]) ([(h0, .inr (4, [.int th, .ref a1, .ref a2, .ref a3, .ref a4, .ref a5, .ref a6])), (a1, .inl (cj1, 19, .inr (.inl (((f_M_toUnsigned st p1).1).1)))), (a2, .inl (cj2, 19, .inr (.inl (((f_M_toUnsigned st p1).1).2.1)))), (a3, .inl (cj3, 19, .inr (.inl (((f_M_toUnsigned st p1).1).2.2.1)))), (a4, .inl (cj4, 19, .inr (.inl (((f_M_toUnsigned st p1).1).2.2.2.1)))), (a5, .inl (cj5, 19, .inr (.inl (((f_M_toUnsigned st p1).1).2.2.2.2.1)))), (a6, .inl (cj6, 19, .inr (.inl (((f_M_toUnsigned st p1).1).2.2.2.2.2))))]) [(cj1, .long), (cj2, .long), (cj3, .long), (cj4, .long), (cj5, .long), (cj6, .long)] ((f_M_toUnsigned st p1).2)) := by
  refine sp_ofW (cc := cM_toUnsigned) (nL := 2) (ret := (some .boolean)) (own := RM) (by decide) rfl rfl (Nat.le_of_ble_eq_true rfl) ?_
  intro p e s m below meth c A ls hAe hnm C hA hP hK hD hS hl
  have hx := C.1
  have hb := C.2.1
  have hown := C.2.2.2.2.1
  have hts := C.2.2.2.2.2.1
  have hl : lv_has ls 2 [(0, .ref h0), (1, .int p1)] := hl
  have hi4 : ∀ w ∈ u_ws RM TM 7, w ∈ wsM_toUnsigned := fun w h => List.mem_cons_of_mem _ (inM w h)
  have hk0 := hts _ (List.mem_cons_of_mem _ wm_386)
  have hk1 := hts _ (List.mem_cons_of_mem _ wm_387)
  have hk2 := hts _ (List.mem_cons_of_mem _ wm_384)
  have hk3 := hts _ (List.mem_cons_of_mem _ wm_385)
  refine lv_aload_n hx hb dM_toUnsigned_0 rfl (lv_at hl 0 rfl) ?_
  refine va_get (D := D) (ci := 4) (v := .ref a5) (C := RM) (T := TM) (N := 7) hx hb hts hi4 hown hK hP 0 rfl rfl 5 (by decide) hk0 (fun _ h9 => h9) rfl dM_toUnsigned_1 ?_
  refine lv_iload_n hx hb dM_toUnsigned_4 rfl (lv_at hl 1 rfl) ?_
  refine va_lald hx hb hK hP 5 4 rfl rfl hq1 dM_toUnsigned_5 ?_
  refine lv_lconst (v := 0) hx hb dM_toUnsigned_6 (by decide) ?_
  refine W.lcmp hx hb dM_toUnsigned_7 ?_
  refine lv_if_ge (tgt := 15) hx hb dM_toUnsigned_8 (by decide) (fun c1 => ?_) (fun c1 => ?_)
  · refine lv_iconst (v := 0) hx hb dM_toUnsigned_15 (by decide) ?_
    refine lv_aload_n hx hb dM_toUnsigned_16 rfl (lv_at hl 0 rfl) ?_
    refine va_get (D := D) (ci := 4) (v := .ref a6) (C := RM) (T := TM) (N := 7) hx hb hts hi4 hown hK hP 0 rfl rfl 6 (by decide) hk1 (fun _ h9 => h9) rfl dM_toUnsigned_17 ?_
    refine lv_iload_n hx hb dM_toUnsigned_20 rfl (lv_at hl 1 rfl) ?_
    refine va_lald hx hb hK hP 6 5 rfl rfl hq1 dM_toUnsigned_21 ?_
    refine lv_lconst (v := 0) hx hb dM_toUnsigned_22 (by decide) ?_
    refine W.lcmp hx hb dM_toUnsigned_23 ?_
    refine lv_if_ge (tgt := 31) hx hb dM_toUnsigned_24 (by decide) (fun c2 => ?_) (fun c2 => ?_)
    · refine lv_iconst (v := 0) hx hb dM_toUnsigned_31 (by decide) ?_
      refine lv_icmp_ne (tgt := 77) hx hb dM_toUnsigned_32 (by decide) (fun h9 => absurd h9 (by decide)) (fun _ => ?_)
      refine lv_aload_n hx hb dM_toUnsigned_35 rfl (lv_at hl 0 rfl) ?_
      refine va_get (D := D) (ci := 4) (v := .ref a3) (C := RM) (T := TM) (N := 7) hx hb hts hi4 hown hK hP 0 rfl rfl 3 (by decide) hk2 (fun _ h9 => h9) rfl dM_toUnsigned_36 ?_
      refine lv_iload_n hx hb dM_toUnsigned_39 rfl (lv_at hl 1 rfl) ?_
      refine lv_aload_n hx hb dM_toUnsigned_40 rfl (lv_at hl 0 rfl) ?_
      refine va_get (D := D) (ci := 4) (v := .ref a3) (C := RM) (T := TM) (N := 7) hx hb hts hi4 hown hK hP 0 rfl rfl 3 (by decide) hk2 (fun _ h9 => h9) rfl dM_toUnsigned_41 ?_
      refine lv_iload_n hx hb dM_toUnsigned_44 rfl (lv_at hl 1 rfl) ?_
      refine va_lald hx hb hK hP 3 2 rfl rfl hq1 dM_toUnsigned_45 ?_
      refine lv_aload_n hx hb dM_toUnsigned_46 rfl (lv_at hl 0 rfl) ?_
      refine va_get (D := D) (ci := 4) (v := .ref a5) (C := RM) (T := TM) (N := 7) hx hb hts hi4 hown hK hP 0 rfl rfl 5 (by decide) hk0 (fun _ h9 => h9) rfl dM_toUnsigned_47 ?_
      refine lv_iload_n hx hb dM_toUnsigned_50 rfl (lv_at hl 1 rfl) ?_
      refine va_lald hx hb hK hP 5 4 rfl rfl hq1 dM_toUnsigned_51 ?_
      refine sp_calll (sp_runS (As := [.long (st.2.2.1 p1.toNatClampNeg), .long (st.2.2.2.2.1 p1.toNatClampNeg)]) (rest := [.int p1, .ref a3]) C (c_M_greater l D (st.2.2.1 p1.toNatClampNeg) (st.2.2.2.2.1 p1.toNatClampNeg)) (va_cwS 2 hts (gS wG_c wm_390 wm_391 wm_378 wm_389) rfl rfl rfl (by decide +kernel) ⟨Nat.le_of_ble_eq_true rfl, Nat.le_of_ble_eq_true rfl⟩) hK hP hD [] (by decide) rfl [] rfl rfl hl.1 rfl (Nat.le_of_ble_eq_true rfl) dM_toUnsigned_52 ⟨Nat.le_of_ble_eq_true rfl, Nat.le_of_ble_eq_true rfl⟩) hP hD hS hA [] rfl sp_f0 (fun H locs hP hD hS => ?_)
      have hP : va_P D vwCl ([(h0, .inr (4, [.int th, .ref a1, .ref a2, .ref a3, .ref a4, .ref a5, .ref a6])), (a1, .inl (cj1, 19, .inr (.inl st.1))), (a2, .inl (cj2, 19, .inr (.inl st.2.1))), (a3, .inl (cj3, 19, .inr (.inl st.2.2.1))), (a4, .inl (cj4, 19, .inr (.inl st.2.2.2.1))), (a5, .inl (cj5, 19, .inr (.inl st.2.2.2.2.1))), (a6, .inl (cj6, 19, .inr (.inl st.2.2.2.2.2)))]) H := hP
      have hD : va_D A ([(h0, .inr (4, [.int th, .ref a1, .ref a2, .ref a3, .ref a4, .ref a5, .ref a6])), (a1, .inl (cj1, 19, .inr (.inl st.1))), (a2, .inl (cj2, 19, .inr (.inl st.2.1))), (a3, .inl (cj3, 19, .inr (.inl st.2.2.1))), (a4, .inl (cj4, 19, .inr (.inl st.2.2.2.1))), (a5, .inl (cj5, 19, .inr (.inl st.2.2.2.2.1))), (a6, .inl (cj6, 19, .inr (.inl st.2.2.2.2.2)))]) := hD
      refine va_last hx hb hK hP hD hS 3 2 rfl rfl hq1 dM_toUnsigned_55 (fun H locs hP hD hS => ?_)
      have hP : va_P D vwCl ([(h0, .inr (4, [.int th, .ref a1, .ref a2, .ref a3, .ref a4, .ref a5, .ref a6])), (a1, .inl (cj1, 19, .inr (.inl st.1))), (a2, .inl (cj2, 19, .inr (.inl st.2.1))), (a3, .inl (cj3, 19, .inr (.inl (vp_updL st.2.2.1 p1.toNatClampNeg (f_M_greater (st.2.2.1 p1.toNatClampNeg) (st.2.2.2.2.1 p1.toNatClampNeg)))))), (a4, .inl (cj4, 19, .inr (.inl st.2.2.2.1))), (a5, .inl (cj5, 19, .inr (.inl st.2.2.2.2.1))), (a6, .inl (cj6, 19, .inr (.inl st.2.2.2.2.2)))]) H := hP
      have hD : va_D A ([(h0, .inr (4, [.int th, .ref a1, .ref a2, .ref a3, .ref a4, .ref a5, .ref a6])), (a1, .inl (cj1, 19, .inr (.inl st.1))), (a2, .inl (cj2, 19, .inr (.inl st.2.1))), (a3, .inl (cj3, 19, .inr (.inl (vp_updL st.2.2.1 p1.toNatClampNeg (f_M_greater (st.2.2.1 p1.toNatClampNeg) (st.2.2.2.2.1 p1.toNatClampNeg)))))), (a4, .inl (cj4, 19, .inr (.inl st.2.2.2.1))), (a5, .inl (cj5, 19, .inr (.inl st.2.2.2.2.1))), (a6, .inl (cj6, 19, .inr (.inl st.2.2.2.2.2)))]) := hD
      refine lv_aload_n hx hb dM_toUnsigned_56 rfl (lv_at hl 0 rfl) ?_
      refine va_get (D := D) (ci := 4) (v := .ref a4) (C := RM) (T := TM) (N := 7) hx hb hts hi4 hown hK hP 0 rfl rfl 4 (by decide) hk3 (fun _ h9 => h9) rfl dM_toUnsigned_57 ?_
      refine lv_iload_n hx hb dM_toUnsigned_60 rfl (lv_at hl 1 rfl) ?_
      refine lv_aload_n hx hb dM_toUnsigned_61 rfl (lv_at hl 0 rfl) ?_
      refine va_get (D := D) (ci := 4) (v := .ref a4) (C := RM) (T := TM) (N := 7) hx hb hts hi4 hown hK hP 0 rfl rfl 4 (by decide) hk3 (fun _ h9 => h9) rfl dM_toUnsigned_62 ?_
      refine lv_iload_n hx hb dM_toUnsigned_65 rfl (lv_at hl 1 rfl) ?_
      refine va_lald hx hb hK hP 4 3 rfl rfl hq1 dM_toUnsigned_66 ?_
      refine lv_aload_n hx hb dM_toUnsigned_67 rfl (lv_at hl 0 rfl) ?_
      refine va_get (D := D) (ci := 4) (v := .ref a6) (C := RM) (T := TM) (N := 7) hx hb hts hi4 hown hK hP 0 rfl rfl 6 (by decide) hk1 (fun _ h9 => h9) rfl dM_toUnsigned_68 ?_
      refine lv_iload_n hx hb dM_toUnsigned_71 rfl (lv_at hl 1 rfl) ?_
      refine va_lald hx hb hK hP 6 5 rfl rfl hq1 dM_toUnsigned_72 ?_
      refine sp_calll (sp_runS (As := [.long (st.2.2.2.1 p1.toNatClampNeg), .long (st.2.2.2.2.2 p1.toNatClampNeg)]) (rest := [.int p1, .ref a4]) C (c_M_lesser l D (st.2.2.2.1 p1.toNatClampNeg) (st.2.2.2.2.2 p1.toNatClampNeg)) (va_cwS 2 hts (gS wG_c wm_393 wm_394 wm_378 wm_392) rfl rfl rfl (by decide +kernel) ⟨Nat.le_of_ble_eq_true rfl, Nat.le_of_ble_eq_true rfl⟩) hK hP hD [] (by decide) rfl [] rfl rfl hl.1 rfl (Nat.le_of_ble_eq_true rfl) dM_toUnsigned_73 ⟨Nat.le_of_ble_eq_true rfl, Nat.le_of_ble_eq_true rfl⟩) hP hD hS hA [] rfl sp_f0 (fun H locs hP hD hS => ?_)
      have hP : va_P D vwCl ([(h0, .inr (4, [.int th, .ref a1, .ref a2, .ref a3, .ref a4, .ref a5, .ref a6])), (a1, .inl (cj1, 19, .inr (.inl st.1))), (a2, .inl (cj2, 19, .inr (.inl st.2.1))), (a3, .inl (cj3, 19, .inr (.inl (vp_updL st.2.2.1 p1.toNatClampNeg (f_M_greater (st.2.2.1 p1.toNatClampNeg) (st.2.2.2.2.1 p1.toNatClampNeg)))))), (a4, .inl (cj4, 19, .inr (.inl st.2.2.2.1))), (a5, .inl (cj5, 19, .inr (.inl st.2.2.2.2.1))), (a6, .inl (cj6, 19, .inr (.inl st.2.2.2.2.2)))]) H := hP
      have hD : va_D A ([(h0, .inr (4, [.int th, .ref a1, .ref a2, .ref a3, .ref a4, .ref a5, .ref a6])), (a1, .inl (cj1, 19, .inr (.inl st.1))), (a2, .inl (cj2, 19, .inr (.inl st.2.1))), (a3, .inl (cj3, 19, .inr (.inl (vp_updL st.2.2.1 p1.toNatClampNeg (f_M_greater (st.2.2.1 p1.toNatClampNeg) (st.2.2.2.2.1 p1.toNatClampNeg)))))), (a4, .inl (cj4, 19, .inr (.inl st.2.2.2.1))), (a5, .inl (cj5, 19, .inr (.inl st.2.2.2.2.1))), (a6, .inl (cj6, 19, .inr (.inl st.2.2.2.2.2)))]) := hD
      refine va_last hx hb hK hP hD hS 4 3 rfl rfl hq1 dM_toUnsigned_76 (fun H locs hP hD hS => ?_)
      have hP : va_P D vwCl ([(h0, .inr (4, [.int th, .ref a1, .ref a2, .ref a3, .ref a4, .ref a5, .ref a6])), (a1, .inl (cj1, 19, .inr (.inl st.1))), (a2, .inl (cj2, 19, .inr (.inl st.2.1))), (a3, .inl (cj3, 19, .inr (.inl (vp_updL st.2.2.1 p1.toNatClampNeg (f_M_greater (st.2.2.1 p1.toNatClampNeg) (st.2.2.2.2.1 p1.toNatClampNeg)))))), (a4, .inl (cj4, 19, .inr (.inl (vp_updL st.2.2.2.1 p1.toNatClampNeg (f_M_lesser (st.2.2.2.1 p1.toNatClampNeg) (st.2.2.2.2.2 p1.toNatClampNeg)))))), (a5, .inl (cj5, 19, .inr (.inl st.2.2.2.2.1))), (a6, .inl (cj6, 19, .inr (.inl st.2.2.2.2.2)))]) H := hP
      have hD : va_D A ([(h0, .inr (4, [.int th, .ref a1, .ref a2, .ref a3, .ref a4, .ref a5, .ref a6])), (a1, .inl (cj1, 19, .inr (.inl st.1))), (a2, .inl (cj2, 19, .inr (.inl st.2.1))), (a3, .inl (cj3, 19, .inr (.inl (vp_updL st.2.2.1 p1.toNatClampNeg (f_M_greater (st.2.2.1 p1.toNatClampNeg) (st.2.2.2.2.1 p1.toNatClampNeg)))))), (a4, .inl (cj4, 19, .inr (.inl (vp_updL st.2.2.2.1 p1.toNatClampNeg (f_M_lesser (st.2.2.2.1 p1.toNatClampNeg) (st.2.2.2.2.2 p1.toNatClampNeg)))))), (a5, .inl (cj5, 19, .inr (.inl st.2.2.2.2.1))), (a6, .inl (cj6, 19, .inr (.inl st.2.2.2.2.2)))]) := hD
      refine lv_aload_n hx hb dM_toUnsigned_77 rfl (lv_at hl 0 rfl) ?_
      refine lv_iload_n hx hb dM_toUnsigned_78 rfl (lv_at hl 1 rfl) ?_
      refine sp_callz (sp_runV (As := [.int p1]) (rest := []) C (c_M_isEmpty l D h0 a1 a2 a3 a4 a5 a6 cj1 cj2 cj3 cj4 cj5 cj6 th (st.1, st.2.1, vp_updL st.2.2.1 p1.toNatClampNeg (f_M_greater (st.2.2.1 p1.toNatClampNeg) (st.2.2.2.2.1 p1.toNatClampNeg)), vp_updL st.2.2.2.1 p1.toNatClampNeg (f_M_lesser (st.2.2.2.1 p1.toNatClampNeg) (st.2.2.2.2.2 p1.toNatClampNeg)), st.2.2.2.2.1, st.2.2.2.2.2) p1 hq1) (cwV 1 hts (gV wG_c wm_396 wm_397 wm_398 wm_378 wm_395) rfl rfl rfl (by decide +kernel) ⟨Nat.le_of_ble_eq_true rfl, Nat.le_of_ble_eq_true rfl⟩) hK hP hD [0, 1, 2, 3, 4, 5, 6] (by decide) rfl [0, 1, 2, 3, 4, 5] rfl 0 4 rfl rfl rfl rfl hl.1 rfl (Nat.le_of_ble_eq_true rfl) dM_toUnsigned_79 ⟨Nat.le_of_ble_eq_true rfl, Nat.le_of_ble_eq_true rfl⟩) hP hD hS hA [0, 1, 2, 3, 4, 5, 6] rfl (sp_fc (sp_fc (sp_fc (sp_fc (sp_fc (sp_fc (sp_fc sp_f0))))))) (fun H locs z3 hP hD hS => ?_)
      have hP : va_P D vwCl ([(h0, .inr (4, [.int th, .ref a1, .ref a2, .ref a3, .ref a4, .ref a5, .ref a6])), (a1, .inl (cj1, 19, .inr (.inl st.1))), (a2, .inl (cj2, 19, .inr (.inl st.2.1))), (a3, .inl (cj3, 19, .inr (.inl (vp_updL st.2.2.1 p1.toNatClampNeg (f_M_greater (st.2.2.1 p1.toNatClampNeg) (st.2.2.2.2.1 p1.toNatClampNeg)))))), (a4, .inl (cj4, 19, .inr (.inl (vp_updL st.2.2.2.1 p1.toNatClampNeg (f_M_lesser (st.2.2.2.1 p1.toNatClampNeg) (st.2.2.2.2.2 p1.toNatClampNeg)))))), (a5, .inl (cj5, 19, .inr (.inl st.2.2.2.2.1))), (a6, .inl (cj6, 19, .inr (.inl st.2.2.2.2.2)))]) H := hP
      have hD : va_D A ([(h0, .inr (4, [.int th, .ref a1, .ref a2, .ref a3, .ref a4, .ref a5, .ref a6])), (a1, .inl (cj1, 19, .inr (.inl st.1))), (a2, .inl (cj2, 19, .inr (.inl st.2.1))), (a3, .inl (cj3, 19, .inr (.inl (vp_updL st.2.2.1 p1.toNatClampNeg (f_M_greater (st.2.2.1 p1.toNatClampNeg) (st.2.2.2.2.1 p1.toNatClampNeg)))))), (a4, .inl (cj4, 19, .inr (.inl (vp_updL st.2.2.2.1 p1.toNatClampNeg (f_M_lesser (st.2.2.2.1 p1.toNatClampNeg) (st.2.2.2.2.2 p1.toNatClampNeg)))))), (a5, .inl (cj5, 19, .inr (.inl st.2.2.2.2.1))), (a6, .inl (cj6, 19, .inr (.inl st.2.2.2.2.2)))]) := hD
      refine lv_if_ne (tgt := 89) hx hb dM_toUnsigned_82 (by decide) (fun c4 => ?_) (fun c4 => ?_)
      · refine lv_iconst (v := 0) hx hb dM_toUnsigned_89 (by decide) ?_
        have e9 : f_M_toUnsigned st p1 = ((st.1, st.2.1, vp_updL st.2.2.1 p1.toNatClampNeg (f_M_greater (st.2.2.1 p1.toNatClampNeg) (st.2.2.2.2.1 p1.toNatClampNeg)), vp_updL st.2.2.2.1 p1.toNatClampNeg (f_M_lesser (st.2.2.2.1 p1.toNatClampNeg) (st.2.2.2.2.2 p1.toNatClampNeg)), st.2.2.2.2.1, st.2.2.2.2.2), 0) := (if_pos c1).trans ((if_pos c2).trans ((if_neg c4).trans (rfl)))
        rw [sp_fst e9, sp_snd e9]
        exact sp_zret C hAe hP hK hD hS (Or.inl rfl) dM_toUnsigned_90
      · refine lv_iconst (v := 1) hx hb dM_toUnsigned_85 (by decide) ?_
        refine lv_goto (tgt := 90) hx hb dM_toUnsigned_86 (by decide) ?_
        have e9 : f_M_toUnsigned st p1 = ((st.1, st.2.1, vp_updL st.2.2.1 p1.toNatClampNeg (f_M_greater (st.2.2.1 p1.toNatClampNeg) (st.2.2.2.2.1 p1.toNatClampNeg)), vp_updL st.2.2.2.1 p1.toNatClampNeg (f_M_lesser (st.2.2.2.1 p1.toNatClampNeg) (st.2.2.2.2.2 p1.toNatClampNeg)), st.2.2.2.2.1, st.2.2.2.2.2), 1) := (if_pos c1).trans ((if_pos c2).trans ((if_pos c4).trans (rfl)))
        rw [sp_fst e9, sp_snd e9]
        exact sp_zret C hAe hP hK hD hS (Or.inr rfl) dM_toUnsigned_90
    · refine lv_iconst (v := 1) hx hb dM_toUnsigned_27 (by decide) ?_
      refine lv_goto (tgt := 32) hx hb dM_toUnsigned_28 (by decide) ?_
      refine lv_icmp_ne (tgt := 77) hx hb dM_toUnsigned_32 (by decide) (fun _ => ?_) (fun h9 => absurd h9 (by decide))
      refine lv_aload_n hx hb dM_toUnsigned_77 rfl (lv_at hl 0 rfl) ?_
      refine lv_iload_n hx hb dM_toUnsigned_78 rfl (lv_at hl 1 rfl) ?_
      refine sp_callz (sp_runV (As := [.int p1]) (rest := []) C (c_M_isEmpty l D h0 a1 a2 a3 a4 a5 a6 cj1 cj2 cj3 cj4 cj5 cj6 th st p1 hq1) (cwV 1 hts (gV wG_c wm_396 wm_397 wm_398 wm_378 wm_395) rfl rfl rfl (by decide +kernel) ⟨Nat.le_of_ble_eq_true rfl, Nat.le_of_ble_eq_true rfl⟩) hK hP hD [0, 1, 2, 3, 4, 5, 6] (by decide) rfl [0, 1, 2, 3, 4, 5] rfl 0 4 rfl rfl rfl rfl hl.1 rfl (Nat.le_of_ble_eq_true rfl) dM_toUnsigned_79 ⟨Nat.le_of_ble_eq_true rfl, Nat.le_of_ble_eq_true rfl⟩) hP hD hS hA [0, 1, 2, 3, 4, 5, 6] rfl (sp_fc (sp_fc (sp_fc (sp_fc (sp_fc (sp_fc (sp_fc sp_f0))))))) (fun H locs z5 hP hD hS => ?_)
      have hP : va_P D vwCl ([(h0, .inr (4, [.int th, .ref a1, .ref a2, .ref a3, .ref a4, .ref a5, .ref a6])), (a1, .inl (cj1, 19, .inr (.inl st.1))), (a2, .inl (cj2, 19, .inr (.inl st.2.1))), (a3, .inl (cj3, 19, .inr (.inl st.2.2.1))), (a4, .inl (cj4, 19, .inr (.inl st.2.2.2.1))), (a5, .inl (cj5, 19, .inr (.inl st.2.2.2.2.1))), (a6, .inl (cj6, 19, .inr (.inl st.2.2.2.2.2)))]) H := hP
      have hD : va_D A ([(h0, .inr (4, [.int th, .ref a1, .ref a2, .ref a3, .ref a4, .ref a5, .ref a6])), (a1, .inl (cj1, 19, .inr (.inl st.1))), (a2, .inl (cj2, 19, .inr (.inl st.2.1))), (a3, .inl (cj3, 19, .inr (.inl st.2.2.1))), (a4, .inl (cj4, 19, .inr (.inl st.2.2.2.1))), (a5, .inl (cj5, 19, .inr (.inl st.2.2.2.2.1))), (a6, .inl (cj6, 19, .inr (.inl st.2.2.2.2.2)))]) := hD
      refine lv_if_ne (tgt := 89) hx hb dM_toUnsigned_82 (by decide) (fun c6 => ?_) (fun c6 => ?_)
      · refine lv_iconst (v := 0) hx hb dM_toUnsigned_89 (by decide) ?_
        have e9 : f_M_toUnsigned st p1 = (st, 0) := (if_pos c1).trans ((if_neg c2).trans ((if_neg c6).trans (rfl)))
        rw [sp_fst e9, sp_snd e9]
        exact sp_zret C hAe hP hK hD hS (Or.inl rfl) dM_toUnsigned_90
      · refine lv_iconst (v := 1) hx hb dM_toUnsigned_85 (by decide) ?_
        refine lv_goto (tgt := 90) hx hb dM_toUnsigned_86 (by decide) ?_
        have e9 : f_M_toUnsigned st p1 = (st, 1) := (if_pos c1).trans ((if_neg c2).trans ((if_pos c6).trans (rfl)))
        rw [sp_fst e9, sp_snd e9]
        exact sp_zret C hAe hP hK hD hS (Or.inr rfl) dM_toUnsigned_90
  · refine lv_iconst (v := 1) hx hb dM_toUnsigned_11 (by decide) ?_
    refine lv_goto (tgt := 16) hx hb dM_toUnsigned_12 (by decide) ?_
    refine lv_aload_n hx hb dM_toUnsigned_16 rfl (lv_at hl 0 rfl) ?_
    refine va_get (D := D) (ci := 4) (v := .ref a6) (C := RM) (T := TM) (N := 7) hx hb hts hi4 hown hK hP 0 rfl rfl 6 (by decide) hk1 (fun _ h9 => h9) rfl dM_toUnsigned_17 ?_
    refine lv_iload_n hx hb dM_toUnsigned_20 rfl (lv_at hl 1 rfl) ?_
    refine va_lald hx hb hK hP 6 5 rfl rfl hq1 dM_toUnsigned_21 ?_
    refine lv_lconst (v := 0) hx hb dM_toUnsigned_22 (by decide) ?_
    refine W.lcmp hx hb dM_toUnsigned_23 ?_
    refine lv_if_ge (tgt := 31) hx hb dM_toUnsigned_24 (by decide) (fun c7 => ?_) (fun c7 => ?_)
    · refine lv_iconst (v := 0) hx hb dM_toUnsigned_31 (by decide) ?_
      refine lv_icmp_ne (tgt := 77) hx hb dM_toUnsigned_32 (by decide) (fun _ => ?_) (fun h9 => absurd h9 (by decide))
      refine lv_aload_n hx hb dM_toUnsigned_77 rfl (lv_at hl 0 rfl) ?_
      refine lv_iload_n hx hb dM_toUnsigned_78 rfl (lv_at hl 1 rfl) ?_
      refine sp_callz (sp_runV (As := [.int p1]) (rest := []) C (c_M_isEmpty l D h0 a1 a2 a3 a4 a5 a6 cj1 cj2 cj3 cj4 cj5 cj6 th st p1 hq1) (cwV 1 hts (gV wG_c wm_396 wm_397 wm_398 wm_378 wm_395) rfl rfl rfl (by decide +kernel) ⟨Nat.le_of_ble_eq_true rfl, Nat.le_of_ble_eq_true rfl⟩) hK hP hD [0, 1, 2, 3, 4, 5, 6] (by decide) rfl [0, 1, 2, 3, 4, 5] rfl 0 4 rfl rfl rfl rfl hl.1 rfl (Nat.le_of_ble_eq_true rfl) dM_toUnsigned_79 ⟨Nat.le_of_ble_eq_true rfl, Nat.le_of_ble_eq_true rfl⟩) hP hD hS hA [0, 1, 2, 3, 4, 5, 6] rfl (sp_fc (sp_fc (sp_fc (sp_fc (sp_fc (sp_fc (sp_fc sp_f0))))))) (fun H locs z8 hP hD hS => ?_)
      have hP : va_P D vwCl ([(h0, .inr (4, [.int th, .ref a1, .ref a2, .ref a3, .ref a4, .ref a5, .ref a6])), (a1, .inl (cj1, 19, .inr (.inl st.1))), (a2, .inl (cj2, 19, .inr (.inl st.2.1))), (a3, .inl (cj3, 19, .inr (.inl st.2.2.1))), (a4, .inl (cj4, 19, .inr (.inl st.2.2.2.1))), (a5, .inl (cj5, 19, .inr (.inl st.2.2.2.2.1))), (a6, .inl (cj6, 19, .inr (.inl st.2.2.2.2.2)))]) H := hP
      have hD : va_D A ([(h0, .inr (4, [.int th, .ref a1, .ref a2, .ref a3, .ref a4, .ref a5, .ref a6])), (a1, .inl (cj1, 19, .inr (.inl st.1))), (a2, .inl (cj2, 19, .inr (.inl st.2.1))), (a3, .inl (cj3, 19, .inr (.inl st.2.2.1))), (a4, .inl (cj4, 19, .inr (.inl st.2.2.2.1))), (a5, .inl (cj5, 19, .inr (.inl st.2.2.2.2.1))), (a6, .inl (cj6, 19, .inr (.inl st.2.2.2.2.2)))]) := hD
      refine lv_if_ne (tgt := 89) hx hb dM_toUnsigned_82 (by decide) (fun c9 => ?_) (fun c9 => ?_)
      · refine lv_iconst (v := 0) hx hb dM_toUnsigned_89 (by decide) ?_
        have e9 : f_M_toUnsigned st p1 = (st, 0) := (if_neg c1).trans ((if_pos c7).trans ((if_neg c9).trans (rfl)))
        rw [sp_fst e9, sp_snd e9]
        exact sp_zret C hAe hP hK hD hS (Or.inl rfl) dM_toUnsigned_90
      · refine lv_iconst (v := 1) hx hb dM_toUnsigned_85 (by decide) ?_
        refine lv_goto (tgt := 90) hx hb dM_toUnsigned_86 (by decide) ?_
        have e9 : f_M_toUnsigned st p1 = (st, 1) := (if_neg c1).trans ((if_pos c7).trans ((if_pos c9).trans (rfl)))
        rw [sp_fst e9, sp_snd e9]
        exact sp_zret C hAe hP hK hD hS (Or.inr rfl) dM_toUnsigned_90
    · refine lv_iconst (v := 1) hx hb dM_toUnsigned_27 (by decide) ?_
      refine lv_goto (tgt := 32) hx hb dM_toUnsigned_28 (by decide) ?_
      refine lv_icmp_ne (tgt := 77) hx hb dM_toUnsigned_32 (by decide) (fun h9 => absurd h9 (by decide)) (fun _ => ?_)
      refine lv_aload_n hx hb dM_toUnsigned_35 rfl (lv_at hl 0 rfl) ?_
      refine va_get (D := D) (ci := 4) (v := .ref a3) (C := RM) (T := TM) (N := 7) hx hb hts hi4 hown hK hP 0 rfl rfl 3 (by decide) hk2 (fun _ h9 => h9) rfl dM_toUnsigned_36 ?_
      refine lv_iload_n hx hb dM_toUnsigned_39 rfl (lv_at hl 1 rfl) ?_
      refine lv_aload_n hx hb dM_toUnsigned_40 rfl (lv_at hl 0 rfl) ?_
      refine va_get (D := D) (ci := 4) (v := .ref a3) (C := RM) (T := TM) (N := 7) hx hb hts hi4 hown hK hP 0 rfl rfl 3 (by decide) hk2 (fun _ h9 => h9) rfl dM_toUnsigned_41 ?_
      refine lv_iload_n hx hb dM_toUnsigned_44 rfl (lv_at hl 1 rfl) ?_
      refine va_lald hx hb hK hP 3 2 rfl rfl hq1 dM_toUnsigned_45 ?_
      refine lv_aload_n hx hb dM_toUnsigned_46 rfl (lv_at hl 0 rfl) ?_
      refine va_get (D := D) (ci := 4) (v := .ref a5) (C := RM) (T := TM) (N := 7) hx hb hts hi4 hown hK hP 0 rfl rfl 5 (by decide) hk0 (fun _ h9 => h9) rfl dM_toUnsigned_47 ?_
      refine lv_iload_n hx hb dM_toUnsigned_50 rfl (lv_at hl 1 rfl) ?_
      refine va_lald hx hb hK hP 5 4 rfl rfl hq1 dM_toUnsigned_51 ?_
      refine sp_calll (sp_runS (As := [.long (st.2.2.1 p1.toNatClampNeg), .long (st.2.2.2.2.1 p1.toNatClampNeg)]) (rest := [.int p1, .ref a3]) C (c_M_greater l D (st.2.2.1 p1.toNatClampNeg) (st.2.2.2.2.1 p1.toNatClampNeg)) (va_cwS 2 hts (gS wG_c wm_390 wm_391 wm_378 wm_389) rfl rfl rfl (by decide +kernel) ⟨Nat.le_of_ble_eq_true rfl, Nat.le_of_ble_eq_true rfl⟩) hK hP hD [] (by decide) rfl [] rfl rfl hl.1 rfl (Nat.le_of_ble_eq_true rfl) dM_toUnsigned_52 ⟨Nat.le_of_ble_eq_true rfl, Nat.le_of_ble_eq_true rfl⟩) hP hD hS hA [] rfl sp_f0 (fun H locs hP hD hS => ?_)
      have hP : va_P D vwCl ([(h0, .inr (4, [.int th, .ref a1, .ref a2, .ref a3, .ref a4, .ref a5, .ref a6])), (a1, .inl (cj1, 19, .inr (.inl st.1))), (a2, .inl (cj2, 19, .inr (.inl st.2.1))), (a3, .inl (cj3, 19, .inr (.inl st.2.2.1))), (a4, .inl (cj4, 19, .inr (.inl st.2.2.2.1))), (a5, .inl (cj5, 19, .inr (.inl st.2.2.2.2.1))), (a6, .inl (cj6, 19, .inr (.inl st.2.2.2.2.2)))]) H := hP
      have hD : va_D A ([(h0, .inr (4, [.int th, .ref a1, .ref a2, .ref a3, .ref a4, .ref a5, .ref a6])), (a1, .inl (cj1, 19, .inr (.inl st.1))), (a2, .inl (cj2, 19, .inr (.inl st.2.1))), (a3, .inl (cj3, 19, .inr (.inl st.2.2.1))), (a4, .inl (cj4, 19, .inr (.inl st.2.2.2.1))), (a5, .inl (cj5, 19, .inr (.inl st.2.2.2.2.1))), (a6, .inl (cj6, 19, .inr (.inl st.2.2.2.2.2)))]) := hD
      refine va_last hx hb hK hP hD hS 3 2 rfl rfl hq1 dM_toUnsigned_55 (fun H locs hP hD hS => ?_)
      have hP : va_P D vwCl ([(h0, .inr (4, [.int th, .ref a1, .ref a2, .ref a3, .ref a4, .ref a5, .ref a6])), (a1, .inl (cj1, 19, .inr (.inl st.1))), (a2, .inl (cj2, 19, .inr (.inl st.2.1))), (a3, .inl (cj3, 19, .inr (.inl (vp_updL st.2.2.1 p1.toNatClampNeg (f_M_greater (st.2.2.1 p1.toNatClampNeg) (st.2.2.2.2.1 p1.toNatClampNeg)))))), (a4, .inl (cj4, 19, .inr (.inl st.2.2.2.1))), (a5, .inl (cj5, 19, .inr (.inl st.2.2.2.2.1))), (a6, .inl (cj6, 19, .inr (.inl st.2.2.2.2.2)))]) H := hP
      have hD : va_D A ([(h0, .inr (4, [.int th, .ref a1, .ref a2, .ref a3, .ref a4, .ref a5, .ref a6])), (a1, .inl (cj1, 19, .inr (.inl st.1))), (a2, .inl (cj2, 19, .inr (.inl st.2.1))), (a3, .inl (cj3, 19, .inr (.inl (vp_updL st.2.2.1 p1.toNatClampNeg (f_M_greater (st.2.2.1 p1.toNatClampNeg) (st.2.2.2.2.1 p1.toNatClampNeg)))))), (a4, .inl (cj4, 19, .inr (.inl st.2.2.2.1))), (a5, .inl (cj5, 19, .inr (.inl st.2.2.2.2.1))), (a6, .inl (cj6, 19, .inr (.inl st.2.2.2.2.2)))]) := hD
      refine lv_aload_n hx hb dM_toUnsigned_56 rfl (lv_at hl 0 rfl) ?_
      refine va_get (D := D) (ci := 4) (v := .ref a4) (C := RM) (T := TM) (N := 7) hx hb hts hi4 hown hK hP 0 rfl rfl 4 (by decide) hk3 (fun _ h9 => h9) rfl dM_toUnsigned_57 ?_
      refine lv_iload_n hx hb dM_toUnsigned_60 rfl (lv_at hl 1 rfl) ?_
      refine lv_aload_n hx hb dM_toUnsigned_61 rfl (lv_at hl 0 rfl) ?_
      refine va_get (D := D) (ci := 4) (v := .ref a4) (C := RM) (T := TM) (N := 7) hx hb hts hi4 hown hK hP 0 rfl rfl 4 (by decide) hk3 (fun _ h9 => h9) rfl dM_toUnsigned_62 ?_
      refine lv_iload_n hx hb dM_toUnsigned_65 rfl (lv_at hl 1 rfl) ?_
      refine va_lald hx hb hK hP 4 3 rfl rfl hq1 dM_toUnsigned_66 ?_
      refine lv_aload_n hx hb dM_toUnsigned_67 rfl (lv_at hl 0 rfl) ?_
      refine va_get (D := D) (ci := 4) (v := .ref a6) (C := RM) (T := TM) (N := 7) hx hb hts hi4 hown hK hP 0 rfl rfl 6 (by decide) hk1 (fun _ h9 => h9) rfl dM_toUnsigned_68 ?_
      refine lv_iload_n hx hb dM_toUnsigned_71 rfl (lv_at hl 1 rfl) ?_
      refine va_lald hx hb hK hP 6 5 rfl rfl hq1 dM_toUnsigned_72 ?_
      refine sp_calll (sp_runS (As := [.long (st.2.2.2.1 p1.toNatClampNeg), .long (st.2.2.2.2.2 p1.toNatClampNeg)]) (rest := [.int p1, .ref a4]) C (c_M_lesser l D (st.2.2.2.1 p1.toNatClampNeg) (st.2.2.2.2.2 p1.toNatClampNeg)) (va_cwS 2 hts (gS wG_c wm_393 wm_394 wm_378 wm_392) rfl rfl rfl (by decide +kernel) ⟨Nat.le_of_ble_eq_true rfl, Nat.le_of_ble_eq_true rfl⟩) hK hP hD [] (by decide) rfl [] rfl rfl hl.1 rfl (Nat.le_of_ble_eq_true rfl) dM_toUnsigned_73 ⟨Nat.le_of_ble_eq_true rfl, Nat.le_of_ble_eq_true rfl⟩) hP hD hS hA [] rfl sp_f0 (fun H locs hP hD hS => ?_)
      have hP : va_P D vwCl ([(h0, .inr (4, [.int th, .ref a1, .ref a2, .ref a3, .ref a4, .ref a5, .ref a6])), (a1, .inl (cj1, 19, .inr (.inl st.1))), (a2, .inl (cj2, 19, .inr (.inl st.2.1))), (a3, .inl (cj3, 19, .inr (.inl (vp_updL st.2.2.1 p1.toNatClampNeg (f_M_greater (st.2.2.1 p1.toNatClampNeg) (st.2.2.2.2.1 p1.toNatClampNeg)))))), (a4, .inl (cj4, 19, .inr (.inl st.2.2.2.1))), (a5, .inl (cj5, 19, .inr (.inl st.2.2.2.2.1))), (a6, .inl (cj6, 19, .inr (.inl st.2.2.2.2.2)))]) H := hP
      have hD : va_D A ([(h0, .inr (4, [.int th, .ref a1, .ref a2, .ref a3, .ref a4, .ref a5, .ref a6])), (a1, .inl (cj1, 19, .inr (.inl st.1))), (a2, .inl (cj2, 19, .inr (.inl st.2.1))), (a3, .inl (cj3, 19, .inr (.inl (vp_updL st.2.2.1 p1.toNatClampNeg (f_M_greater (st.2.2.1 p1.toNatClampNeg) (st.2.2.2.2.1 p1.toNatClampNeg)))))), (a4, .inl (cj4, 19, .inr (.inl st.2.2.2.1))), (a5, .inl (cj5, 19, .inr (.inl st.2.2.2.2.1))), (a6, .inl (cj6, 19, .inr (.inl st.2.2.2.2.2)))]) := hD
      refine va_last hx hb hK hP hD hS 4 3 rfl rfl hq1 dM_toUnsigned_76 (fun H locs hP hD hS => ?_)
      have hP : va_P D vwCl ([(h0, .inr (4, [.int th, .ref a1, .ref a2, .ref a3, .ref a4, .ref a5, .ref a6])), (a1, .inl (cj1, 19, .inr (.inl st.1))), (a2, .inl (cj2, 19, .inr (.inl st.2.1))), (a3, .inl (cj3, 19, .inr (.inl (vp_updL st.2.2.1 p1.toNatClampNeg (f_M_greater (st.2.2.1 p1.toNatClampNeg) (st.2.2.2.2.1 p1.toNatClampNeg)))))), (a4, .inl (cj4, 19, .inr (.inl (vp_updL st.2.2.2.1 p1.toNatClampNeg (f_M_lesser (st.2.2.2.1 p1.toNatClampNeg) (st.2.2.2.2.2 p1.toNatClampNeg)))))), (a5, .inl (cj5, 19, .inr (.inl st.2.2.2.2.1))), (a6, .inl (cj6, 19, .inr (.inl st.2.2.2.2.2)))]) H := hP
      have hD : va_D A ([(h0, .inr (4, [.int th, .ref a1, .ref a2, .ref a3, .ref a4, .ref a5, .ref a6])), (a1, .inl (cj1, 19, .inr (.inl st.1))), (a2, .inl (cj2, 19, .inr (.inl st.2.1))), (a3, .inl (cj3, 19, .inr (.inl (vp_updL st.2.2.1 p1.toNatClampNeg (f_M_greater (st.2.2.1 p1.toNatClampNeg) (st.2.2.2.2.1 p1.toNatClampNeg)))))), (a4, .inl (cj4, 19, .inr (.inl (vp_updL st.2.2.2.1 p1.toNatClampNeg (f_M_lesser (st.2.2.2.1 p1.toNatClampNeg) (st.2.2.2.2.2 p1.toNatClampNeg)))))), (a5, .inl (cj5, 19, .inr (.inl st.2.2.2.2.1))), (a6, .inl (cj6, 19, .inr (.inl st.2.2.2.2.2)))]) := hD
      refine lv_aload_n hx hb dM_toUnsigned_77 rfl (lv_at hl 0 rfl) ?_
      refine lv_iload_n hx hb dM_toUnsigned_78 rfl (lv_at hl 1 rfl) ?_
      refine sp_callz (sp_runV (As := [.int p1]) (rest := []) C (c_M_isEmpty l D h0 a1 a2 a3 a4 a5 a6 cj1 cj2 cj3 cj4 cj5 cj6 th (st.1, st.2.1, vp_updL st.2.2.1 p1.toNatClampNeg (f_M_greater (st.2.2.1 p1.toNatClampNeg) (st.2.2.2.2.1 p1.toNatClampNeg)), vp_updL st.2.2.2.1 p1.toNatClampNeg (f_M_lesser (st.2.2.2.1 p1.toNatClampNeg) (st.2.2.2.2.2 p1.toNatClampNeg)), st.2.2.2.2.1, st.2.2.2.2.2) p1 hq1) (cwV 1 hts (gV wG_c wm_396 wm_397 wm_398 wm_378 wm_395) rfl rfl rfl (by decide +kernel) ⟨Nat.le_of_ble_eq_true rfl, Nat.le_of_ble_eq_true rfl⟩) hK hP hD [0, 1, 2, 3, 4, 5, 6] (by decide) rfl [0, 1, 2, 3, 4, 5] rfl 0 4 rfl rfl rfl rfl hl.1 rfl (Nat.le_of_ble_eq_true rfl) dM_toUnsigned_79 ⟨Nat.le_of_ble_eq_true rfl, Nat.le_of_ble_eq_true rfl⟩) hP hD hS hA [0, 1, 2, 3, 4, 5, 6] rfl (sp_fc (sp_fc (sp_fc (sp_fc (sp_fc (sp_fc (sp_fc sp_f0))))))) (fun H locs z10 hP hD hS => ?_)
      have hP : va_P D vwCl ([(h0, .inr (4, [.int th, .ref a1, .ref a2, .ref a3, .ref a4, .ref a5, .ref a6])), (a1, .inl (cj1, 19, .inr (.inl st.1))), (a2, .inl (cj2, 19, .inr (.inl st.2.1))), (a3, .inl (cj3, 19, .inr (.inl (vp_updL st.2.2.1 p1.toNatClampNeg (f_M_greater (st.2.2.1 p1.toNatClampNeg) (st.2.2.2.2.1 p1.toNatClampNeg)))))), (a4, .inl (cj4, 19, .inr (.inl (vp_updL st.2.2.2.1 p1.toNatClampNeg (f_M_lesser (st.2.2.2.1 p1.toNatClampNeg) (st.2.2.2.2.2 p1.toNatClampNeg)))))), (a5, .inl (cj5, 19, .inr (.inl st.2.2.2.2.1))), (a6, .inl (cj6, 19, .inr (.inl st.2.2.2.2.2)))]) H := hP
      have hD : va_D A ([(h0, .inr (4, [.int th, .ref a1, .ref a2, .ref a3, .ref a4, .ref a5, .ref a6])), (a1, .inl (cj1, 19, .inr (.inl st.1))), (a2, .inl (cj2, 19, .inr (.inl st.2.1))), (a3, .inl (cj3, 19, .inr (.inl (vp_updL st.2.2.1 p1.toNatClampNeg (f_M_greater (st.2.2.1 p1.toNatClampNeg) (st.2.2.2.2.1 p1.toNatClampNeg)))))), (a4, .inl (cj4, 19, .inr (.inl (vp_updL st.2.2.2.1 p1.toNatClampNeg (f_M_lesser (st.2.2.2.1 p1.toNatClampNeg) (st.2.2.2.2.2 p1.toNatClampNeg)))))), (a5, .inl (cj5, 19, .inr (.inl st.2.2.2.2.1))), (a6, .inl (cj6, 19, .inr (.inl st.2.2.2.2.2)))]) := hD
      refine lv_if_ne (tgt := 89) hx hb dM_toUnsigned_82 (by decide) (fun c11 => ?_) (fun c11 => ?_)
      · refine lv_iconst (v := 0) hx hb dM_toUnsigned_89 (by decide) ?_
        have e9 : f_M_toUnsigned st p1 = ((st.1, st.2.1, vp_updL st.2.2.1 p1.toNatClampNeg (f_M_greater (st.2.2.1 p1.toNatClampNeg) (st.2.2.2.2.1 p1.toNatClampNeg)), vp_updL st.2.2.2.1 p1.toNatClampNeg (f_M_lesser (st.2.2.2.1 p1.toNatClampNeg) (st.2.2.2.2.2 p1.toNatClampNeg)), st.2.2.2.2.1, st.2.2.2.2.2), 0) := (if_neg c1).trans ((if_neg c7).trans ((if_neg c11).trans (rfl)))
        rw [sp_fst e9, sp_snd e9]
        exact sp_zret C hAe hP hK hD hS (Or.inl rfl) dM_toUnsigned_90
      · refine lv_iconst (v := 1) hx hb dM_toUnsigned_85 (by decide) ?_
        refine lv_goto (tgt := 90) hx hb dM_toUnsigned_86 (by decide) ?_
        have e9 : f_M_toUnsigned st p1 = ((st.1, st.2.1, vp_updL st.2.2.1 p1.toNatClampNeg (f_M_greater (st.2.2.1 p1.toNatClampNeg) (st.2.2.2.2.1 p1.toNatClampNeg)), vp_updL st.2.2.2.1 p1.toNatClampNeg (f_M_lesser (st.2.2.2.1 p1.toNatClampNeg) (st.2.2.2.2.2 p1.toNatClampNeg)), st.2.2.2.2.1, st.2.2.2.2.2), 1) := (if_neg c1).trans ((if_neg c7).trans ((if_pos c11).trans (rfl)))
        rw [sp_fst e9, sp_snd e9]
        exact sp_zret C hAe hP hK hD hS (Or.inr rfl) dM_toUnsigned_90
def f_M_toBits (st : Md) (p1 : Int32) : Md × Int32 :=
  (let v1 : Int64 := f_M_places (st.2.2.1 p1.toNatClampNeg) (st.2.2.2.1 p1.toNatClampNeg)
  if (lg_cmp ((((st.1 p1.toNatClampNeg) ^^^ (st.2.2.1 p1.toNatClampNeg)) &&& ((st.2.1 p1.toNatClampNeg) ^^^ (-1))) &&& (v1 ^^^ (-1))) 0) = 0 then (if (f_M_isEmpty (vp_updL st.1 p1.toNatClampNeg (((st.1 p1.toNatClampNeg) &&& v1) ||| ((st.2.2.1 p1.toNatClampNeg) &&& (v1 ^^^ (-1)))), vp_updL st.2.1 p1.toNatClampNeg ((st.2.1 p1.toNatClampNeg) &&& v1), st.2.2.1, st.2.2.2.1, st.2.2.2.2.1, st.2.2.2.2.2) p1) = 0 then ((vp_updL st.1 p1.toNatClampNeg (((st.1 p1.toNatClampNeg) &&& v1) ||| ((st.2.2.1 p1.toNatClampNeg) &&& (v1 ^^^ (-1)))), vp_updL st.2.1 p1.toNatClampNeg ((st.2.1 p1.toNatClampNeg) &&& v1), st.2.2.1, st.2.2.2.1, st.2.2.2.2.1, st.2.2.2.2.2), 1)
    else ((vp_updL st.1 p1.toNatClampNeg (((st.1 p1.toNatClampNeg) &&& v1) ||| ((st.2.2.1 p1.toNatClampNeg) &&& (v1 ^^^ (-1)))), vp_updL st.2.1 p1.toNatClampNeg ((st.2.1 p1.toNatClampNeg) &&& v1), st.2.2.1, st.2.2.2.1, st.2.2.2.2.1, st.2.2.2.2.2), 0))
  else (st, 0))
set_option maxHeartbeats 4000000 in
set_option maxRecDepth 100000 in
theorem c_M_toBits (l : Launch) (D : va_G) (h0 : Nat) (a1 : Nat) (a2 : Nat) (a3 : Nat) (a4 : Nat) (a5 : Nat) (a6 : Nat) (cj1 cj2 cj3 cj4 cj5 cj6 : ClassId) (th : Int32) (st : Md) (p1 : Int32) (hq1 : vp_in p1 19) : sp_M l yM_toBits wsM_toBits ({ frames := 2, cells := 0, slots := 0, locals := 44 }) D [.ref h0, .int p1] ([(h0, .inr (4, [.int th, .ref a1, .ref a2, .ref a3, .ref a4, .ref a5, .ref a6])), (a1, .inl (cj1, 19, .inr (.inl st.1))), (a2, .inl (cj2, 19, .inr (.inl st.2.1))), (a3, .inl (cj3, 19, .inr (.inl st.2.2.1))), (a4, .inl (cj4, 19, .inr (.inl st.2.2.2.1))), (a5, .inl (cj5, 19, .inr (.inl st.2.2.2.2.1))), (a6, .inl (cj6, 19, .inr (.inl st.2.2.2.2.2)))]) [(cj1, .long), (cj2, .long), (cj3, .long), (cj4, .long), (cj5, .long), (cj6, .long)] (sp_Qz D ([(h0, .inr (4, [.int th, .ref a1, .ref a2, .ref a3, .ref a4, .ref a5, .ref a6])), (a1, .inl (cj1, 19, .inr (.inl st.1))), (a2, .inl (cj2, 19, .inr (.inl st.2.1))), (a3, .inl (cj3, 19, .inr (.inl st.2.2.1))), (a4, .inl (cj4, 19, .inr (.inl st.2.2.2.1))), (a5, .inl (cj5, 19, .inr (.inl st.2.2.2.2.1))), (a6, .inl (cj6, 19, .inr (.inl st.2.2.2.2.2)))]) ([(h0, .inr (4, [.int th, .ref a1, .ref a2, .ref a3, .ref a4, .ref a5, .ref a6])), (a1, .inl (cj1, 19, .inr (.inl (((f_M_toBits st p1).1).1)))), (a2, .inl (cj2, 19, .inr (.inl (((f_M_toBits st p1).1).2.1)))), (a3, .inl (cj3, 19, .inr (.inl (((f_M_toBits st p1).1).2.2.1)))), (a4, .inl (cj4, 19, .inr (.inl (((f_M_toBits st p1).1).2.2.2.1)))), (a5, .inl (cj5, 19, .inr (.inl (((f_M_toBits st p1).1).2.2.2.2.1)))), (a6, .inl (cj6, 19, .inr (.inl (((f_M_toBits st p1).1).2.2.2.2.2))))]) [(cj1, .long), (cj2, .long), (cj3, .long), (cj4, .long), (cj5, .long), (cj6, .long)] ((f_M_toBits st p1).2)) := by
  refine sp_ofW (cc := cM_toBits) (nL := 4) (ret := (some .boolean)) (own := RM) (by decide) rfl rfl (Nat.le_of_ble_eq_true rfl) ?_
  intro p e s m below meth c A ls hAe hnm C hA hP hK hD hS hl
  have hx := C.1
  have hb := C.2.1
  have hown := C.2.2.2.2.1
  have hts := C.2.2.2.2.2.1
  have hl : lv_has ls 4 [(0, .ref h0), (1, .int p1)] := hl
  have hi4 : ∀ w ∈ u_ws RM TM 7, w ∈ wsM_toBits := fun w h => List.mem_cons_of_mem _ (inM w h)
  have hk0 := hts _ (List.mem_cons_of_mem _ wm_384)
  have hk1 := hts _ (List.mem_cons_of_mem _ wm_385)
  have hk2 := hts _ (List.mem_cons_of_mem _ wm_382)
  have hk3 := hts _ (List.mem_cons_of_mem _ wm_383)
  have hk4 := hts _ (List.mem_cons_of_mem _ wm_381)
  refine lv_aload_n hx hb dM_toBits_0 rfl (lv_at hl 0 rfl) ?_
  refine va_get (D := D) (ci := 4) (v := .ref a3) (C := RM) (T := TM) (N := 7) hx hb hts hi4 hown hK hP 0 rfl rfl 3 (by decide) hk0 (fun _ h9 => h9) rfl dM_toBits_1 ?_
  refine lv_iload_n hx hb dM_toBits_4 rfl (lv_at hl 1 rfl) ?_
  refine va_lald hx hb hK hP 3 2 rfl rfl hq1 dM_toBits_5 ?_
  refine lv_aload_n hx hb dM_toBits_6 rfl (lv_at hl 0 rfl) ?_
  refine va_get (D := D) (ci := 4) (v := .ref a4) (C := RM) (T := TM) (N := 7) hx hb hts hi4 hown hK hP 0 rfl rfl 4 (by decide) hk1 (fun _ h9 => h9) rfl dM_toBits_7 ?_
  refine lv_iload_n hx hb dM_toBits_10 rfl (lv_at hl 1 rfl) ?_
  refine va_lald hx hb hK hP 4 3 rfl rfl hq1 dM_toBits_11 ?_
  refine sp_calll (sp_runS (As := [.long (st.2.2.1 p1.toNatClampNeg), .long (st.2.2.2.1 p1.toNatClampNeg)]) (rest := []) C (c_M_places l D (st.2.2.1 p1.toNatClampNeg) (st.2.2.2.1 p1.toNatClampNeg)) (va_cwS 2 hts (gS wG_c wm_400 wm_401 wm_378 wm_399) rfl rfl rfl (by decide +kernel) ⟨Nat.le_of_ble_eq_true rfl, Nat.le_of_ble_eq_true rfl⟩) hK hP hD [] (by decide) rfl [] rfl rfl hl.1 rfl (Nat.le_of_ble_eq_true rfl) dM_toBits_12 ⟨Nat.le_of_ble_eq_true rfl, Nat.le_of_ble_eq_true rfl⟩) hP hD hS hA [] rfl sp_f0 (fun H locs hP hD hS => ?_)
  have hP : va_P D vwCl ([(h0, .inr (4, [.int th, .ref a1, .ref a2, .ref a3, .ref a4, .ref a5, .ref a6])), (a1, .inl (cj1, 19, .inr (.inl st.1))), (a2, .inl (cj2, 19, .inr (.inl st.2.1))), (a3, .inl (cj3, 19, .inr (.inl st.2.2.1))), (a4, .inl (cj4, 19, .inr (.inl st.2.2.2.1))), (a5, .inl (cj5, 19, .inr (.inl st.2.2.2.2.1))), (a6, .inl (cj6, 19, .inr (.inl st.2.2.2.2.2)))]) H := hP
  have hD : va_D A ([(h0, .inr (4, [.int th, .ref a1, .ref a2, .ref a3, .ref a4, .ref a5, .ref a6])), (a1, .inl (cj1, 19, .inr (.inl st.1))), (a2, .inl (cj2, 19, .inr (.inl st.2.1))), (a3, .inl (cj3, 19, .inr (.inl st.2.2.1))), (a4, .inl (cj4, 19, .inr (.inl st.2.2.2.1))), (a5, .inl (cj5, 19, .inr (.inl st.2.2.2.2.1))), (a6, .inl (cj6, 19, .inr (.inl st.2.2.2.2.2)))]) := hD
  refine lv_topl (fun v1 ev1 => ?_)
  refine lv_lstore_n (lv' := [(2, .long v1), (0, .ref h0), (1, .int p1)]) hx hb dM_toBits_15 rfl hl (by decide) rfl (fun ls hl => ?_)
  refine lv_aload_n hx hb dM_toBits_16 rfl (lv_at hl 1 rfl) ?_
  refine va_get (D := D) (ci := 4) (v := .ref a1) (C := RM) (T := TM) (N := 7) hx hb hts hi4 hown hK hP 0 rfl rfl 1 (by decide) hk2 (fun _ h9 => h9) rfl dM_toBits_17 ?_
  refine lv_iload_n hx hb dM_toBits_20 rfl (lv_at hl 2 rfl) ?_
  refine va_lald hx hb hK hP 1 0 rfl rfl hq1 dM_toBits_21 ?_
  refine lv_aload_n hx hb dM_toBits_22 rfl (lv_at hl 1 rfl) ?_
  refine va_get (D := D) (ci := 4) (v := .ref a3) (C := RM) (T := TM) (N := 7) hx hb hts hi4 hown hK hP 0 rfl rfl 3 (by decide) hk0 (fun _ h9 => h9) rfl dM_toBits_23 ?_
  refine lv_iload_n hx hb dM_toBits_26 rfl (lv_at hl 2 rfl) ?_
  refine va_lald hx hb hK hP 3 2 rfl rfl hq1 dM_toBits_27 ?_
  refine lv_lxor hx hb dM_toBits_28 ?_
  refine lv_aload_n hx hb dM_toBits_29 rfl (lv_at hl 1 rfl) ?_
  refine va_get (D := D) (ci := 4) (v := .ref a2) (C := RM) (T := TM) (N := 7) hx hb hts hi4 hown hK hP 0 rfl rfl 2 (by decide) hk3 (fun _ h9 => h9) rfl dM_toBits_30 ?_
  refine lv_iload_n hx hb dM_toBits_33 rfl (lv_at hl 2 rfl) ?_
  refine va_lald hx hb hK hP 2 1 rfl rfl hq1 dM_toBits_34 ?_
  refine lv_ldc2 (v := (-1)) hx hb hown hk4 dM_toBits_35 ?_
  refine lv_lxor hx hb dM_toBits_38 ?_
  refine lv_land hx hb dM_toBits_39 ?_
  refine lv_lload_n hx hb dM_toBits_40 rfl (lv_at hl 0 rfl) ?_
  refine lv_ldc2 (v := (-1)) hx hb hown hk4 dM_toBits_41 ?_
  refine lv_lxor hx hb dM_toBits_44 ?_
  refine lv_land hx hb dM_toBits_45 ?_
  refine lv_lconst (v := 0) hx hb dM_toBits_46 (by decide) ?_
  refine W.lcmp hx hb dM_toBits_47 ?_
  refine lv_if_eq (tgt := 53) hx hb dM_toBits_48 (by decide) (fun c2 => ?_) (fun c2 => ?_)
  · refine lv_aload_n hx hb dM_toBits_53 rfl (lv_at hl 1 rfl) ?_
    refine va_get (D := D) (ci := 4) (v := .ref a1) (C := RM) (T := TM) (N := 7) hx hb hts hi4 hown hK hP 0 rfl rfl 1 (by decide) hk2 (fun _ h9 => h9) rfl dM_toBits_54 ?_
    refine lv_iload_n hx hb dM_toBits_57 rfl (lv_at hl 2 rfl) ?_
    refine lv_aload_n hx hb dM_toBits_58 rfl (lv_at hl 1 rfl) ?_
    refine va_get (D := D) (ci := 4) (v := .ref a1) (C := RM) (T := TM) (N := 7) hx hb hts hi4 hown hK hP 0 rfl rfl 1 (by decide) hk2 (fun _ h9 => h9) rfl dM_toBits_59 ?_
    refine lv_iload_n hx hb dM_toBits_62 rfl (lv_at hl 2 rfl) ?_
    refine va_lald hx hb hK hP 1 0 rfl rfl hq1 dM_toBits_63 ?_
    refine lv_lload_n hx hb dM_toBits_64 rfl (lv_at hl 0 rfl) ?_
    refine lv_land hx hb dM_toBits_65 ?_
    refine lv_aload_n hx hb dM_toBits_66 rfl (lv_at hl 1 rfl) ?_
    refine va_get (D := D) (ci := 4) (v := .ref a3) (C := RM) (T := TM) (N := 7) hx hb hts hi4 hown hK hP 0 rfl rfl 3 (by decide) hk0 (fun _ h9 => h9) rfl dM_toBits_67 ?_
    refine lv_iload_n hx hb dM_toBits_70 rfl (lv_at hl 2 rfl) ?_
    refine va_lald hx hb hK hP 3 2 rfl rfl hq1 dM_toBits_71 ?_
    refine lv_lload_n hx hb dM_toBits_72 rfl (lv_at hl 0 rfl) ?_
    refine lv_ldc2 (v := (-1)) hx hb hown hk4 dM_toBits_73 ?_
    refine lv_lxor hx hb dM_toBits_76 ?_
    refine lv_land hx hb dM_toBits_77 ?_
    refine lv_lor hx hb dM_toBits_78 ?_
    refine va_last hx hb hK hP hD hS 1 0 rfl rfl hq1 dM_toBits_79 (fun H locs hP hD hS => ?_)
    have hP : va_P D vwCl ([(h0, .inr (4, [.int th, .ref a1, .ref a2, .ref a3, .ref a4, .ref a5, .ref a6])), (a1, .inl (cj1, 19, .inr (.inl (vp_updL st.1 p1.toNatClampNeg (((st.1 p1.toNatClampNeg) &&& v1) ||| ((st.2.2.1 p1.toNatClampNeg) &&& (v1 ^^^ (-1)))))))), (a2, .inl (cj2, 19, .inr (.inl st.2.1))), (a3, .inl (cj3, 19, .inr (.inl st.2.2.1))), (a4, .inl (cj4, 19, .inr (.inl st.2.2.2.1))), (a5, .inl (cj5, 19, .inr (.inl st.2.2.2.2.1))), (a6, .inl (cj6, 19, .inr (.inl st.2.2.2.2.2)))]) H := hP
    have hD : va_D A ([(h0, .inr (4, [.int th, .ref a1, .ref a2, .ref a3, .ref a4, .ref a5, .ref a6])), (a1, .inl (cj1, 19, .inr (.inl (vp_updL st.1 p1.toNatClampNeg (((st.1 p1.toNatClampNeg) &&& v1) ||| ((st.2.2.1 p1.toNatClampNeg) &&& (v1 ^^^ (-1)))))))), (a2, .inl (cj2, 19, .inr (.inl st.2.1))), (a3, .inl (cj3, 19, .inr (.inl st.2.2.1))), (a4, .inl (cj4, 19, .inr (.inl st.2.2.2.1))), (a5, .inl (cj5, 19, .inr (.inl st.2.2.2.2.1))), (a6, .inl (cj6, 19, .inr (.inl st.2.2.2.2.2)))]) := hD
    refine lv_aload_n hx hb dM_toBits_80 rfl (lv_at hl 1 rfl) ?_
    refine va_get (D := D) (ci := 4) (v := .ref a2) (C := RM) (T := TM) (N := 7) hx hb hts hi4 hown hK hP 0 rfl rfl 2 (by decide) hk3 (fun _ h9 => h9) rfl dM_toBits_81 ?_
    refine lv_iload_n hx hb dM_toBits_84 rfl (lv_at hl 2 rfl) ?_
    refine lv_aload_n hx hb dM_toBits_85 rfl (lv_at hl 1 rfl) ?_
    refine va_get (D := D) (ci := 4) (v := .ref a2) (C := RM) (T := TM) (N := 7) hx hb hts hi4 hown hK hP 0 rfl rfl 2 (by decide) hk3 (fun _ h9 => h9) rfl dM_toBits_86 ?_
    refine lv_iload_n hx hb dM_toBits_89 rfl (lv_at hl 2 rfl) ?_
    refine va_lald hx hb hK hP 2 1 rfl rfl hq1 dM_toBits_90 ?_
    refine lv_lload_n hx hb dM_toBits_91 rfl (lv_at hl 0 rfl) ?_
    refine lv_land hx hb dM_toBits_92 ?_
    refine va_last hx hb hK hP hD hS 2 1 rfl rfl hq1 dM_toBits_93 (fun H locs hP hD hS => ?_)
    have hP : va_P D vwCl ([(h0, .inr (4, [.int th, .ref a1, .ref a2, .ref a3, .ref a4, .ref a5, .ref a6])), (a1, .inl (cj1, 19, .inr (.inl (vp_updL st.1 p1.toNatClampNeg (((st.1 p1.toNatClampNeg) &&& v1) ||| ((st.2.2.1 p1.toNatClampNeg) &&& (v1 ^^^ (-1)))))))), (a2, .inl (cj2, 19, .inr (.inl (vp_updL st.2.1 p1.toNatClampNeg ((st.2.1 p1.toNatClampNeg) &&& v1))))), (a3, .inl (cj3, 19, .inr (.inl st.2.2.1))), (a4, .inl (cj4, 19, .inr (.inl st.2.2.2.1))), (a5, .inl (cj5, 19, .inr (.inl st.2.2.2.2.1))), (a6, .inl (cj6, 19, .inr (.inl st.2.2.2.2.2)))]) H := hP
    have hD : va_D A ([(h0, .inr (4, [.int th, .ref a1, .ref a2, .ref a3, .ref a4, .ref a5, .ref a6])), (a1, .inl (cj1, 19, .inr (.inl (vp_updL st.1 p1.toNatClampNeg (((st.1 p1.toNatClampNeg) &&& v1) ||| ((st.2.2.1 p1.toNatClampNeg) &&& (v1 ^^^ (-1)))))))), (a2, .inl (cj2, 19, .inr (.inl (vp_updL st.2.1 p1.toNatClampNeg ((st.2.1 p1.toNatClampNeg) &&& v1))))), (a3, .inl (cj3, 19, .inr (.inl st.2.2.1))), (a4, .inl (cj4, 19, .inr (.inl st.2.2.2.1))), (a5, .inl (cj5, 19, .inr (.inl st.2.2.2.2.1))), (a6, .inl (cj6, 19, .inr (.inl st.2.2.2.2.2)))]) := hD
    refine lv_aload_n hx hb dM_toBits_94 rfl (lv_at hl 1 rfl) ?_
    refine lv_iload_n hx hb dM_toBits_95 rfl (lv_at hl 2 rfl) ?_
    refine sp_callz (sp_runV (As := [.int p1]) (rest := []) C (c_M_isEmpty l D h0 a1 a2 a3 a4 a5 a6 cj1 cj2 cj3 cj4 cj5 cj6 th (vp_updL st.1 p1.toNatClampNeg (((st.1 p1.toNatClampNeg) &&& v1) ||| ((st.2.2.1 p1.toNatClampNeg) &&& (v1 ^^^ (-1)))), vp_updL st.2.1 p1.toNatClampNeg ((st.2.1 p1.toNatClampNeg) &&& v1), st.2.2.1, st.2.2.2.1, st.2.2.2.2.1, st.2.2.2.2.2) p1 hq1) (cwV 1 hts (gV wG_c wm_396 wm_397 wm_398 wm_378 wm_395) rfl rfl rfl (by decide +kernel) ⟨Nat.le_of_ble_eq_true rfl, Nat.le_of_ble_eq_true rfl⟩) hK hP hD [0, 1, 2, 3, 4, 5, 6] (by decide) rfl [0, 1, 2, 3, 4, 5] rfl 0 4 rfl rfl rfl rfl hl.1 rfl (Nat.le_of_ble_eq_true rfl) dM_toBits_96 ⟨Nat.le_of_ble_eq_true rfl, Nat.le_of_ble_eq_true rfl⟩) hP hD hS hA [0, 1, 2, 3, 4, 5, 6] rfl (sp_fc (sp_fc (sp_fc (sp_fc (sp_fc (sp_fc (sp_fc sp_f0))))))) (fun H locs z3 hP hD hS => ?_)
    have hP : va_P D vwCl ([(h0, .inr (4, [.int th, .ref a1, .ref a2, .ref a3, .ref a4, .ref a5, .ref a6])), (a1, .inl (cj1, 19, .inr (.inl (vp_updL st.1 p1.toNatClampNeg (((st.1 p1.toNatClampNeg) &&& v1) ||| ((st.2.2.1 p1.toNatClampNeg) &&& (v1 ^^^ (-1)))))))), (a2, .inl (cj2, 19, .inr (.inl (vp_updL st.2.1 p1.toNatClampNeg ((st.2.1 p1.toNatClampNeg) &&& v1))))), (a3, .inl (cj3, 19, .inr (.inl st.2.2.1))), (a4, .inl (cj4, 19, .inr (.inl st.2.2.2.1))), (a5, .inl (cj5, 19, .inr (.inl st.2.2.2.2.1))), (a6, .inl (cj6, 19, .inr (.inl st.2.2.2.2.2)))]) H := hP
    have hD : va_D A ([(h0, .inr (4, [.int th, .ref a1, .ref a2, .ref a3, .ref a4, .ref a5, .ref a6])), (a1, .inl (cj1, 19, .inr (.inl (vp_updL st.1 p1.toNatClampNeg (((st.1 p1.toNatClampNeg) &&& v1) ||| ((st.2.2.1 p1.toNatClampNeg) &&& (v1 ^^^ (-1)))))))), (a2, .inl (cj2, 19, .inr (.inl (vp_updL st.2.1 p1.toNatClampNeg ((st.2.1 p1.toNatClampNeg) &&& v1))))), (a3, .inl (cj3, 19, .inr (.inl st.2.2.1))), (a4, .inl (cj4, 19, .inr (.inl st.2.2.2.1))), (a5, .inl (cj5, 19, .inr (.inl st.2.2.2.2.1))), (a6, .inl (cj6, 19, .inr (.inl st.2.2.2.2.2)))]) := hD
    refine lv_if_ne (tgt := 106) hx hb dM_toBits_99 (by decide) (fun c4 => ?_) (fun c4 => ?_)
    · refine lv_iconst (v := 0) hx hb dM_toBits_106 (by decide) ?_
      have e9 : f_M_toBits st p1 = ((vp_updL st.1 p1.toNatClampNeg (((st.1 p1.toNatClampNeg) &&& v1) ||| ((st.2.2.1 p1.toNatClampNeg) &&& (v1 ^^^ (-1)))), vp_updL st.2.1 p1.toNatClampNeg ((st.2.1 p1.toNatClampNeg) &&& v1), st.2.2.1, st.2.2.2.1, st.2.2.2.2.1, st.2.2.2.2.2), 0) := by
            subst ev1
            exact (if_pos c2).trans ((if_neg c4).trans (rfl))
      rw [sp_fst e9, sp_snd e9]
      exact sp_zret C hAe hP hK hD hS (Or.inl rfl) dM_toBits_107
    · refine lv_iconst (v := 1) hx hb dM_toBits_102 (by decide) ?_
      refine lv_goto (tgt := 107) hx hb dM_toBits_103 (by decide) ?_
      have e9 : f_M_toBits st p1 = ((vp_updL st.1 p1.toNatClampNeg (((st.1 p1.toNatClampNeg) &&& v1) ||| ((st.2.2.1 p1.toNatClampNeg) &&& (v1 ^^^ (-1)))), vp_updL st.2.1 p1.toNatClampNeg ((st.2.1 p1.toNatClampNeg) &&& v1), st.2.2.1, st.2.2.2.1, st.2.2.2.2.1, st.2.2.2.2.2), 1) := by
            subst ev1
            exact (if_pos c2).trans ((if_pos c4).trans (rfl))
      rw [sp_fst e9, sp_snd e9]
      exact sp_zret C hAe hP hK hD hS (Or.inr rfl) dM_toBits_107
  · refine lv_iconst (v := 0) hx hb dM_toBits_51 (by decide) ?_
    have e9 : f_M_toBits st p1 = (st, 0) := by
          subst ev1
          exact (if_neg c2).trans (rfl)
    rw [sp_fst e9, sp_snd e9]
    exact sp_zret C hAe hP hK hD hS (Or.inl rfl) dM_toBits_52
