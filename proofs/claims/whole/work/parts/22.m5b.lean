theorem wm_418 : (.code yM_isExact cM_isExact 2 (some .boolean) : Cond) ∈ wsG := wG_of 732 (by decide +kernel) (by decide +kernel)
theorem wm_419 : (.methodLink RM 82 yM_isExact : Cond) ∈ wsG := wG_of 729 (by decide +kernel) (by decide +kernel)
theorem wm_420 : (.instanceMethod yM_isExact : Cond) ∈ wsG := wG_of 731 (by decide +kernel) (by decide +kernel)
theorem wm_421 : (.selects RM yM_isExact yM_isExact : Cond) ∈ wsG := wG_of 44 (by decide +kernel) (by decide +kernel)
theorem wm_422 : (.code yM_zeros cM_zeros 3 (some .int) : Cond) ∈ wsG := wG_of 736 (by decide +kernel) (by decide +kernel)
theorem wm_423 : (.methodLink RM 85 yM_zeros : Cond) ∈ wsG := wG_of 733 (by decide +kernel) (by decide +kernel)
theorem wm_424 : (.instanceMethod yM_zeros : Cond) ∈ wsG := wG_of 735 (by decide +kernel) (by decide +kernel)
theorem wm_425 : (.selects RM yM_zeros yM_zeros : Cond) ∈ wsG := wG_of 45 (by decide +kernel) (by decide +kernel)
theorem wm_426 : (.code yM_setExact cM_setExact 4 none : Cond) ∈ wsG := wG_of 644 (by decide +kernel) (by decide +kernel)
theorem wm_427 : (.methodLink RM 71 yM_setExact : Cond) ∈ wsG := wG_of 641 (by decide +kernel) (by decide +kernel)
theorem wm_428 : (.instanceMethod yM_setExact : Cond) ∈ wsG := wG_of 643 (by decide +kernel) (by decide +kernel)
theorem wm_429 : (.selects RM yM_setExact yM_setExact : Cond) ∈ wsG := wG_of 30 (by decide +kernel) (by decide +kernel)
theorem wm_430 : (.code yM_quotient cM_quotient 11 (some .long) : Cond) ∈ wsG := wG_of 743 (by decide +kernel) (by decide +kernel)
theorem wm_431 : (.methodLink RM 91 yM_quotient : Cond) ∈ wsG := wG_of 741 (by decide +kernel) (by decide +kernel)
theorem wm_432 : (.static yM_quotient : Cond) ∈ wsG := wG_of 742 (by decide +kernel) (by decide +kernel)
theorem wm_433 : (.code yM_copy cM_copy 3 none : Cond) ∈ wsG := wG_of 707 (by decide +kernel) (by decide +kernel)
theorem wm_434 : (.methodLink RM 94 yM_copy : Cond) ∈ wsG := wG_of 704 (by decide +kernel) (by decide +kernel)
theorem wm_435 : (.instanceMethod yM_copy : Cond) ∈ wsG := wG_of 706 (by decide +kernel) (by decide +kernel)
theorem wm_436 : (.selects RM yM_copy yM_copy : Cond) ∈ wsG := wG_of 38 (by decide +kernel) (by decide +kernel)
theorem wm_437 : (.constantLong RM 98 2 : Cond) ∈ wsG := wG_of 756 (by decide +kernel) (by decide +kernel)
theorem wm_438 : (.constantLong RM 100 4 : Cond) ∈ wsG := wG_of 757 (by decide +kernel) (by decide +kernel)
theorem dM_multiply_0 : decode cM_multiply 0 = .ok (.aload_n 0, 1) := by decide +kernel
theorem dM_multiply_1 : decode cM_multiply 1 = .ok (.bipush 16, 2) := by decide +kernel
theorem dM_multiply_3 : decode cM_multiply 3 = .ok (.invokevirtual 82, 3) := by decide +kernel
theorem dM_multiply_6 : decode cM_multiply 6 = .ok (.ifCond .eq 34, 3) := by decide +kernel
theorem dM_multiply_9 : decode cM_multiply 9 = .ok (.aload_n 0, 1) := by decide +kernel
theorem dM_multiply_10 : decode cM_multiply 10 = .ok (.bipush 17, 2) := by decide +kernel
theorem dM_multiply_12 : decode cM_multiply 12 = .ok (.invokevirtual 82, 3) := by decide +kernel
theorem dM_multiply_15 : decode cM_multiply 15 = .ok (.ifCond .eq 25, 3) := by decide +kernel
theorem dM_multiply_18 : decode cM_multiply 18 = .ok (.aload_n 0, 1) := by decide +kernel
theorem dM_multiply_19 : decode cM_multiply 19 = .ok (.bipush 18, 2) := by decide +kernel
theorem dM_multiply_21 : decode cM_multiply 21 = .ok (.aload_n 0, 1) := by decide +kernel
theorem dM_multiply_22 : decode cM_multiply 22 = .ok (.getfield 9, 3) := by decide +kernel
theorem dM_multiply_25 : decode cM_multiply 25 = .ok (.bipush 16, 2) := by decide +kernel
theorem dM_multiply_27 : decode cM_multiply 27 = .ok (.laload, 1) := by decide +kernel
theorem dM_multiply_28 : decode cM_multiply 28 = .ok (.aload_n 0, 1) := by decide +kernel
theorem dM_multiply_29 : decode cM_multiply 29 = .ok (.getfield 9, 3) := by decide +kernel
theorem dM_multiply_32 : decode cM_multiply 32 = .ok (.bipush 17, 2) := by decide +kernel
theorem dM_multiply_34 : decode cM_multiply 34 = .ok (.laload, 1) := by decide +kernel
theorem dM_multiply_35 : decode cM_multiply 35 = .ok (.lmul, 1) := by decide +kernel
theorem dM_multiply_36 : decode cM_multiply 36 = .ok (.invokevirtual 71, 3) := by decide +kernel
theorem dM_multiply_39 : decode cM_multiply 39 = .ok (.return_, 1) := by decide +kernel
theorem dM_multiply_40 : decode cM_multiply 40 = .ok (.aload_n 0, 1) := by decide +kernel
theorem dM_multiply_41 : decode cM_multiply 41 = .ok (.bipush 16, 2) := by decide +kernel
theorem dM_multiply_43 : decode cM_multiply 43 = .ok (.invokevirtual 85, 3) := by decide +kernel
theorem dM_multiply_46 : decode cM_multiply 46 = .ok (.aload_n 0, 1) := by decide +kernel
theorem dM_multiply_47 : decode cM_multiply 47 = .ok (.bipush 17, 2) := by decide +kernel
theorem dM_multiply_49 : decode cM_multiply 49 = .ok (.invokevirtual 85, 3) := by decide +kernel
theorem dM_multiply_52 : decode cM_multiply 52 = .ok (.iadd, 1) := by decide +kernel
theorem dM_multiply_53 : decode cM_multiply 53 = .ok (.istore_n 1, 1) := by decide +kernel
theorem dM_multiply_54 : decode cM_multiply 54 = .ok (.aload_n 0, 1) := by decide +kernel
theorem dM_multiply_55 : decode cM_multiply 55 = .ok (.getfield 13, 3) := by decide +kernel
theorem dM_multiply_58 : decode cM_multiply 58 = .ok (.bipush 18, 2) := by decide +kernel
theorem dM_multiply_60 : decode cM_multiply 60 = .ok (.iload_n 1, 1) := by decide +kernel
theorem dM_multiply_61 : decode cM_multiply 61 = .ok (.bipush 63, 2) := by decide +kernel
theorem dM_multiply_63 : decode cM_multiply 63 = .ok (.if_icmp .le 7, 3) := by decide +kernel
theorem dM_multiply_66 : decode cM_multiply 66 = .ok (.lconst 0, 1) := by decide +kernel
theorem dM_multiply_67 : decode cM_multiply 67 = .ok (.goto 8, 3) := by decide +kernel
theorem dM_multiply_70 : decode cM_multiply 70 = .ok (.ldc2_w 38, 3) := by decide +kernel
theorem dM_multiply_73 : decode cM_multiply 73 = .ok (.iload_n 1, 1) := by decide +kernel
theorem dM_multiply_74 : decode cM_multiply 74 = .ok (.lshl, 1) := by decide +kernel
theorem dM_multiply_75 : decode cM_multiply 75 = .ok (.lastore, 1) := by decide +kernel
theorem dM_multiply_76 : decode cM_multiply 76 = .ok (.ldc2_w 89, 3) := by decide +kernel
theorem dM_multiply_79 : decode cM_multiply 79 = .ok (.aload_n 0, 1) := by decide +kernel
theorem dM_multiply_80 : decode cM_multiply 80 = .ok (.getfield 19, 3) := by decide +kernel
theorem dM_multiply_83 : decode cM_multiply 83 = .ok (.bipush 16, 2) := by decide +kernel
theorem dM_multiply_85 : decode cM_multiply 85 = .ok (.laload, 1) := by decide +kernel
theorem dM_multiply_86 : decode cM_multiply 86 = .ok (.invokestatic 34, 3) := by decide +kernel
theorem dM_multiply_89 : decode cM_multiply 89 = .ok (.ifCond .ne 63, 3) := by decide +kernel
theorem dM_multiply_92 : decode cM_multiply 92 = .ok (.ldc2_w 89, 3) := by decide +kernel
theorem dM_multiply_95 : decode cM_multiply 95 = .ok (.aload_n 0, 1) := by decide +kernel
theorem dM_multiply_96 : decode cM_multiply 96 = .ok (.getfield 19, 3) := by decide +kernel
theorem dM_multiply_99 : decode cM_multiply 99 = .ok (.bipush 17, 2) := by decide +kernel
theorem dM_multiply_101 : decode cM_multiply 101 = .ok (.laload, 1) := by decide +kernel
theorem dM_multiply_102 : decode cM_multiply 102 = .ok (.invokestatic 34, 3) := by decide +kernel
theorem dM_multiply_105 : decode cM_multiply 105 = .ok (.ifCond .ne 47, 3) := by decide +kernel
theorem dM_multiply_108 : decode cM_multiply 108 = .ok (.aload_n 0, 1) := by decide +kernel
theorem dM_multiply_109 : decode cM_multiply 109 = .ok (.getfield 16, 3) := by decide +kernel
theorem dM_multiply_112 : decode cM_multiply 112 = .ok (.bipush 18, 2) := by decide +kernel
theorem dM_multiply_114 : decode cM_multiply 114 = .ok (.aload_n 0, 1) := by decide +kernel
theorem dM_multiply_115 : decode cM_multiply 115 = .ok (.getfield 16, 3) := by decide +kernel
theorem dM_multiply_118 : decode cM_multiply 118 = .ok (.bipush 16, 2) := by decide +kernel
theorem dM_multiply_120 : decode cM_multiply 120 = .ok (.laload, 1) := by decide +kernel
theorem dM_multiply_121 : decode cM_multiply 121 = .ok (.aload_n 0, 1) := by decide +kernel
theorem dM_multiply_122 : decode cM_multiply 122 = .ok (.getfield 16, 3) := by decide +kernel
theorem dM_multiply_125 : decode cM_multiply 125 = .ok (.bipush 17, 2) := by decide +kernel
theorem dM_multiply_127 : decode cM_multiply 127 = .ok (.laload, 1) := by decide +kernel
theorem dM_multiply_128 : decode cM_multiply 128 = .ok (.lmul, 1) := by decide +kernel
theorem dM_multiply_129 : decode cM_multiply 129 = .ok (.lastore, 1) := by decide +kernel
theorem dM_multiply_130 : decode cM_multiply 130 = .ok (.aload_n 0, 1) := by decide +kernel
theorem dM_multiply_131 : decode cM_multiply 131 = .ok (.getfield 19, 3) := by decide +kernel
theorem dM_multiply_134 : decode cM_multiply 134 = .ok (.bipush 18, 2) := by decide +kernel
theorem dM_multiply_136 : decode cM_multiply 136 = .ok (.aload_n 0, 1) := by decide +kernel
theorem dM_multiply_137 : decode cM_multiply 137 = .ok (.getfield 19, 3) := by decide +kernel
theorem dM_multiply_140 : decode cM_multiply 140 = .ok (.bipush 16, 2) := by decide +kernel
theorem dM_multiply_142 : decode cM_multiply 142 = .ok (.laload, 1) := by decide +kernel
theorem dM_multiply_143 : decode cM_multiply 143 = .ok (.aload_n 0, 1) := by decide +kernel
theorem dM_multiply_144 : decode cM_multiply 144 = .ok (.getfield 19, 3) := by decide +kernel
theorem dM_multiply_147 : decode cM_multiply 147 = .ok (.bipush 17, 2) := by decide +kernel
theorem dM_multiply_149 : decode cM_multiply 149 = .ok (.laload, 1) := by decide +kernel
theorem dM_multiply_150 : decode cM_multiply 150 = .ok (.lmul, 1) := by decide +kernel
theorem dM_multiply_151 : decode cM_multiply 151 = .ok (.lastore, 1) := by decide +kernel
theorem dM_multiply_152 : decode cM_multiply 152 = .ok (.return_, 1) := by decide +kernel
theorem dM_divide_0 : decode cM_divide 0 = .ok (.aload_n 0, 1) := by decide +kernel
theorem dM_divide_1 : decode cM_divide 1 = .ok (.bipush 17, 2) := by decide +kernel
theorem dM_divide_3 : decode cM_divide 3 = .ok (.invokevirtual 82, 3) := by decide +kernel
theorem dM_divide_6 : decode cM_divide 6 = .ok (.ifCond .eq 25, 3) := by decide +kernel
theorem dM_divide_9 : decode cM_divide 9 = .ok (.aload_n 0, 1) := by decide +kernel
theorem dM_divide_10 : decode cM_divide 10 = .ok (.getfield 9, 3) := by decide +kernel
theorem dM_divide_13 : decode cM_divide 13 = .ok (.bipush 17, 2) := by decide +kernel
theorem dM_divide_15 : decode cM_divide 15 = .ok (.laload, 1) := by decide +kernel
theorem dM_divide_16 : decode cM_divide 16 = .ok (.lconst 0, 1) := by decide +kernel
theorem dM_divide_17 : decode cM_divide 17 = .ok (.lcmp, 1) := by decide +kernel
theorem dM_divide_18 : decode cM_divide 18 = .ok (.ifCond .ne 13, 3) := by decide +kernel
theorem dM_divide_21 : decode cM_divide 21 = .ok (.aload_n 0, 1) := by decide +kernel
theorem dM_divide_22 : decode cM_divide 22 = .ok (.bipush 18, 2) := by decide +kernel
theorem dM_divide_24 : decode cM_divide 24 = .ok (.lconst 0, 1) := by decide +kernel
theorem dM_divide_25 : decode cM_divide 25 = .ok (.invokevirtual 71, 3) := by decide +kernel
theorem dM_divide_28 : decode cM_divide 28 = .ok (.goto 77, 3) := by decide +kernel
theorem dM_divide_31 : decode cM_divide 31 = .ok (.aload_n 0, 1) := by decide +kernel
theorem dM_divide_32 : decode cM_divide 32 = .ok (.bipush 17, 2) := by decide +kernel
theorem dM_divide_34 : decode cM_divide 34 = .ok (.invokevirtual 82, 3) := by decide +kernel
theorem dM_divide_37 : decode cM_divide 37 = .ok (.ifCond .eq 54, 3) := by decide +kernel
theorem dM_divide_40 : decode cM_divide 40 = .ok (.aload_n 0, 1) := by decide +kernel
theorem dM_divide_41 : decode cM_divide 41 = .ok (.getfield 16, 3) := by decide +kernel
theorem dM_divide_44 : decode cM_divide 44 = .ok (.bipush 18, 2) := by decide +kernel
theorem dM_divide_46 : decode cM_divide 46 = .ok (.aload_n 0, 1) := by decide +kernel
theorem dM_divide_47 : decode cM_divide 47 = .ok (.getfield 16, 3) := by decide +kernel
theorem dM_divide_50 : decode cM_divide 50 = .ok (.bipush 16, 2) := by decide +kernel
theorem dM_divide_52 : decode cM_divide 52 = .ok (.laload, 1) := by decide +kernel
theorem dM_divide_53 : decode cM_divide 53 = .ok (.aload_n 0, 1) := by decide +kernel
theorem dM_divide_54 : decode cM_divide 54 = .ok (.getfield 9, 3) := by decide +kernel
theorem dM_divide_57 : decode cM_divide 57 = .ok (.bipush 17, 2) := by decide +kernel
theorem dM_divide_59 : decode cM_divide 59 = .ok (.laload, 1) := by decide +kernel
theorem dM_divide_60 : decode cM_divide 60 = .ok (.invokestatic 91, 3) := by decide +kernel
theorem dM_divide_63 : decode cM_divide 63 = .ok (.lastore, 1) := by decide +kernel
theorem dM_divide_64 : decode cM_divide 64 = .ok (.aload_n 0, 1) := by decide +kernel
theorem dM_divide_65 : decode cM_divide 65 = .ok (.getfield 19, 3) := by decide +kernel
theorem dM_divide_68 : decode cM_divide 68 = .ok (.bipush 18, 2) := by decide +kernel
theorem dM_divide_70 : decode cM_divide 70 = .ok (.aload_n 0, 1) := by decide +kernel
theorem dM_divide_71 : decode cM_divide 71 = .ok (.getfield 19, 3) := by decide +kernel
theorem dM_divide_74 : decode cM_divide 74 = .ok (.bipush 16, 2) := by decide +kernel
theorem dM_divide_76 : decode cM_divide 76 = .ok (.laload, 1) := by decide +kernel
theorem dM_divide_77 : decode cM_divide 77 = .ok (.aload_n 0, 1) := by decide +kernel
theorem dM_divide_78 : decode cM_divide 78 = .ok (.getfield 9, 3) := by decide +kernel
theorem dM_divide_81 : decode cM_divide 81 = .ok (.bipush 17, 2) := by decide +kernel
theorem dM_divide_83 : decode cM_divide 83 = .ok (.laload, 1) := by decide +kernel
theorem dM_divide_84 : decode cM_divide 84 = .ok (.invokestatic 91, 3) := by decide +kernel
theorem dM_divide_87 : decode cM_divide 87 = .ok (.lastore, 1) := by decide +kernel
theorem dM_divide_88 : decode cM_divide 88 = .ok (.goto 17, 3) := by decide +kernel
theorem dM_divide_91 : decode cM_divide 91 = .ok (.aload_n 0, 1) := by decide +kernel
theorem dM_divide_92 : decode cM_divide 92 = .ok (.getfield 19, 3) := by decide +kernel
theorem dM_divide_95 : decode cM_divide 95 = .ok (.bipush 18, 2) := by decide +kernel
theorem dM_divide_97 : decode cM_divide 97 = .ok (.aload_n 0, 1) := by decide +kernel
theorem dM_divide_98 : decode cM_divide 98 = .ok (.getfield 19, 3) := by decide +kernel
theorem dM_divide_101 : decode cM_divide 101 = .ok (.bipush 16, 2) := by decide +kernel
theorem dM_divide_103 : decode cM_divide 103 = .ok (.laload, 1) := by decide +kernel
theorem dM_divide_104 : decode cM_divide 104 = .ok (.lastore, 1) := by decide +kernel
theorem dM_divide_105 : decode cM_divide 105 = .ok (.return_, 1) := by decide +kernel
theorem dM_rest_0 : decode cM_rest 0 = .ok (.aload_n 0, 1) := by decide +kernel
theorem dM_rest_1 : decode cM_rest 1 = .ok (.bipush 17, 2) := by decide +kernel
theorem dM_rest_3 : decode cM_rest 3 = .ok (.invokevirtual 82, 3) := by decide +kernel
theorem dM_rest_6 : decode cM_rest 6 = .ok (.ifCond .eq 39, 3) := by decide +kernel
theorem dM_rest_9 : decode cM_rest 9 = .ok (.aload_n 0, 1) := by decide +kernel
theorem dM_rest_10 : decode cM_rest 10 = .ok (.getfield 9, 3) := by decide +kernel
theorem dM_rest_13 : decode cM_rest 13 = .ok (.bipush 17, 2) := by decide +kernel
theorem dM_rest_15 : decode cM_rest 15 = .ok (.laload, 1) := by decide +kernel
theorem dM_rest_16 : decode cM_rest 16 = .ok (.lconst 0, 1) := by decide +kernel
theorem dM_rest_17 : decode cM_rest 17 = .ok (.lcmp, 1) := by decide +kernel
theorem dM_rest_18 : decode cM_rest 18 = .ok (.ifCond .eq 23, 3) := by decide +kernel
theorem dM_rest_21 : decode cM_rest 21 = .ok (.aload_n 0, 1) := by decide +kernel
theorem dM_rest_22 : decode cM_rest 22 = .ok (.getfield 19, 3) := by decide +kernel
theorem dM_rest_25 : decode cM_rest 25 = .ok (.bipush 16, 2) := by decide +kernel
theorem dM_rest_27 : decode cM_rest 27 = .ok (.laload, 1) := by decide +kernel
theorem dM_rest_28 : decode cM_rest 28 = .ok (.aload_n 0, 1) := by decide +kernel
theorem dM_rest_29 : decode cM_rest 29 = .ok (.getfield 9, 3) := by decide +kernel
theorem dM_rest_32 : decode cM_rest 32 = .ok (.bipush 17, 2) := by decide +kernel
theorem dM_rest_34 : decode cM_rest 34 = .ok (.laload, 1) := by decide +kernel
theorem dM_rest_35 : decode cM_rest 35 = .ok (.invokestatic 34, 3) := by decide +kernel
theorem dM_rest_38 : decode cM_rest 38 = .ok (.ifCond .eq 7, 3) := by decide +kernel
theorem dM_rest_41 : decode cM_rest 41 = .ok (.iconst 1, 1) := by decide +kernel
theorem dM_rest_42 : decode cM_rest 42 = .ok (.goto 4, 3) := by decide +kernel
theorem dM_rest_45 : decode cM_rest 45 = .ok (.iconst 0, 1) := by decide +kernel
theorem dM_rest_46 : decode cM_rest 46 = .ok (.istore_n 1, 1) := by decide +kernel
theorem dM_rest_47 : decode cM_rest 47 = .ok (.iload_n 1, 1) := by decide +kernel
theorem dM_rest_48 : decode cM_rest 48 = .ok (.ifCond .eq 14, 3) := by decide +kernel
theorem dM_rest_51 : decode cM_rest 51 = .ok (.aload_n 0, 1) := by decide +kernel
theorem dM_rest_52 : decode cM_rest 52 = .ok (.bipush 16, 2) := by decide +kernel
theorem dM_rest_54 : decode cM_rest 54 = .ok (.bipush 18, 2) := by decide +kernel
theorem dM_rest_56 : decode cM_rest 56 = .ok (.invokevirtual 94, 3) := by decide +kernel
theorem dM_rest_59 : decode cM_rest 59 = .ok (.goto 38, 3) := by decide +kernel
theorem dM_rest_62 : decode cM_rest 62 = .ok (.aload_n 0, 1) := by decide +kernel
theorem dM_rest_63 : decode cM_rest 63 = .ok (.getfield 19, 3) := by decide +kernel
theorem dM_rest_66 : decode cM_rest 66 = .ok (.bipush 18, 2) := by decide +kernel
theorem dM_rest_68 : decode cM_rest 68 = .ok (.aload_n 0, 1) := by decide +kernel
theorem dM_rest_69 : decode cM_rest 69 = .ok (.bipush 17, 2) := by decide +kernel
theorem dM_rest_71 : decode cM_rest 71 = .ok (.invokevirtual 82, 3) := by decide +kernel
theorem dM_rest_74 : decode cM_rest 74 = .ok (.ifCond .eq 15, 3) := by decide +kernel
theorem dM_rest_77 : decode cM_rest 77 = .ok (.aload_n 0, 1) := by decide +kernel
theorem dM_rest_78 : decode cM_rest 78 = .ok (.getfield 9, 3) := by decide +kernel
theorem dM_rest_81 : decode cM_rest 81 = .ok (.bipush 17, 2) := by decide +kernel
theorem dM_rest_83 : decode cM_rest 83 = .ok (.laload, 1) := by decide +kernel
theorem dM_rest_84 : decode cM_rest 84 = .ok (.lconst 1, 1) := by decide +kernel
theorem dM_rest_85 : decode cM_rest 85 = .ok (.lsub, 1) := by decide +kernel
theorem dM_rest_86 : decode cM_rest 86 = .ok (.goto 10, 3) := by decide +kernel
theorem dM_rest_89 : decode cM_rest 89 = .ok (.aload_n 0, 1) := by decide +kernel
theorem dM_rest_90 : decode cM_rest 90 = .ok (.getfield 19, 3) := by decide +kernel
theorem dM_rest_93 : decode cM_rest 93 = .ok (.bipush 16, 2) := by decide +kernel
theorem dM_rest_95 : decode cM_rest 95 = .ok (.laload, 1) := by decide +kernel
theorem dM_rest_96 : decode cM_rest 96 = .ok (.lastore, 1) := by decide +kernel
theorem dM_rest_97 : decode cM_rest 97 = .ok (.return_, 1) := by decide +kernel
theorem dM_logic_0 : decode cM_logic 0 = .ok (.iload_n 1, 1) := by decide +kernel
theorem dM_logic_1 : decode cM_logic 1 = .ok (.iconst 5, 1) := by decide +kernel
theorem dM_logic_2 : decode cM_logic 2 = .ok (.if_icmp .ne 102, 3) := by decide +kernel
theorem dM_logic_5 : decode cM_logic 5 = .ok (.aload_n 0, 1) := by decide +kernel
theorem dM_logic_6 : decode cM_logic 6 = .ok (.getfield 9, 3) := by decide +kernel
theorem dM_logic_9 : decode cM_logic 9 = .ok (.bipush 18, 2) := by decide +kernel
theorem dM_logic_11 : decode cM_logic 11 = .ok (.aload_n 0, 1) := by decide +kernel
theorem dM_logic_12 : decode cM_logic 12 = .ok (.getfield 9, 3) := by decide +kernel
theorem dM_logic_15 : decode cM_logic 15 = .ok (.bipush 16, 2) := by decide +kernel
theorem dM_logic_17 : decode cM_logic 17 = .ok (.laload, 1) := by decide +kernel
theorem dM_logic_18 : decode cM_logic 18 = .ok (.aload_n 0, 1) := by decide +kernel
theorem dM_logic_19 : decode cM_logic 19 = .ok (.getfield 9, 3) := by decide +kernel
theorem dM_logic_22 : decode cM_logic 22 = .ok (.bipush 17, 2) := by decide +kernel
theorem dM_logic_24 : decode cM_logic 24 = .ok (.laload, 1) := by decide +kernel
theorem dM_logic_25 : decode cM_logic 25 = .ok (.land, 1) := by decide +kernel
theorem dM_logic_26 : decode cM_logic 26 = .ok (.lastore, 1) := by decide +kernel
theorem dM_logic_27 : decode cM_logic 27 = .ok (.aload_n 0, 1) := by decide +kernel
theorem dM_logic_28 : decode cM_logic 28 = .ok (.getfield 13, 3) := by decide +kernel
theorem dM_logic_31 : decode cM_logic 31 = .ok (.bipush 18, 2) := by decide +kernel
theorem dM_logic_33 : decode cM_logic 33 = .ok (.aload_n 0, 1) := by decide +kernel
theorem dM_logic_34 : decode cM_logic 34 = .ok (.getfield 9, 3) := by decide +kernel
theorem dM_logic_37 : decode cM_logic 37 = .ok (.bipush 16, 2) := by decide +kernel
theorem dM_logic_39 : decode cM_logic 39 = .ok (.laload, 1) := by decide +kernel
theorem dM_logic_40 : decode cM_logic 40 = .ok (.aload_n 0, 1) := by decide +kernel
theorem dM_logic_41 : decode cM_logic 41 = .ok (.getfield 13, 3) := by decide +kernel
theorem dM_logic_44 : decode cM_logic 44 = .ok (.bipush 16, 2) := by decide +kernel
theorem dM_logic_46 : decode cM_logic 46 = .ok (.laload, 1) := by decide +kernel
theorem dM_logic_47 : decode cM_logic 47 = .ok (.lor, 1) := by decide +kernel
theorem dM_logic_48 : decode cM_logic 48 = .ok (.aload_n 0, 1) := by decide +kernel
theorem dM_logic_49 : decode cM_logic 49 = .ok (.getfield 9, 3) := by decide +kernel
theorem dM_logic_52 : decode cM_logic 52 = .ok (.bipush 17, 2) := by decide +kernel
theorem dM_logic_54 : decode cM_logic 54 = .ok (.laload, 1) := by decide +kernel
theorem dM_logic_55 : decode cM_logic 55 = .ok (.aload_n 0, 1) := by decide +kernel
theorem dM_logic_56 : decode cM_logic 56 = .ok (.getfield 13, 3) := by decide +kernel
theorem dM_logic_59 : decode cM_logic 59 = .ok (.bipush 17, 2) := by decide +kernel
theorem dM_logic_61 : decode cM_logic 61 = .ok (.laload, 1) := by decide +kernel
theorem dM_logic_62 : decode cM_logic 62 = .ok (.lor, 1) := by decide +kernel
theorem dM_logic_63 : decode cM_logic 63 = .ok (.land, 1) := by decide +kernel
theorem dM_logic_64 : decode cM_logic 64 = .ok (.aload_n 0, 1) := by decide +kernel
theorem dM_logic_65 : decode cM_logic 65 = .ok (.getfield 9, 3) := by decide +kernel
theorem dM_logic_68 : decode cM_logic 68 = .ok (.bipush 18, 2) := by decide +kernel
theorem dM_logic_70 : decode cM_logic 70 = .ok (.laload, 1) := by decide +kernel
theorem dM_logic_71 : decode cM_logic 71 = .ok (.ldc2_w 38, 3) := by decide +kernel
theorem dM_logic_74 : decode cM_logic 74 = .ok (.lxor, 1) := by decide +kernel
theorem dM_logic_75 : decode cM_logic 75 = .ok (.land, 1) := by decide +kernel
theorem dM_logic_76 : decode cM_logic 76 = .ok (.lastore, 1) := by decide +kernel
theorem dM_logic_77 : decode cM_logic 77 = .ok (.aload_n 0, 1) := by decide +kernel
theorem dM_logic_78 : decode cM_logic 78 = .ok (.getfield 19, 3) := by decide +kernel
theorem dM_logic_81 : decode cM_logic 81 = .ok (.bipush 18, 2) := by decide +kernel
theorem dM_logic_83 : decode cM_logic 83 = .ok (.aload_n 0, 1) := by decide +kernel
theorem dM_logic_84 : decode cM_logic 84 = .ok (.getfield 19, 3) := by decide +kernel
theorem dM_logic_87 : decode cM_logic 87 = .ok (.bipush 16, 2) := by decide +kernel
theorem dM_logic_89 : decode cM_logic 89 = .ok (.laload, 1) := by decide +kernel
theorem dM_logic_90 : decode cM_logic 90 = .ok (.aload_n 0, 1) := by decide +kernel
theorem dM_logic_91 : decode cM_logic 91 = .ok (.getfield 19, 3) := by decide +kernel
theorem dM_logic_94 : decode cM_logic 94 = .ok (.bipush 17, 2) := by decide +kernel
theorem dM_logic_96 : decode cM_logic 96 = .ok (.laload, 1) := by decide +kernel
theorem dM_logic_97 : decode cM_logic 97 = .ok (.invokestatic 46, 3) := by decide +kernel
theorem dM_logic_100 : decode cM_logic 100 = .ok (.lastore, 1) := by decide +kernel
theorem dM_logic_101 : decode cM_logic 101 = .ok (.goto 148, 3) := by decide +kernel
theorem dM_logic_104 : decode cM_logic 104 = .ok (.iload_n 1, 1) := by decide +kernel
theorem dM_logic_105 : decode cM_logic 105 = .ok (.bipush 6, 2) := by decide +kernel
theorem dM_logic_107 : decode cM_logic 107 = .ok (.if_icmp .ne 86, 3) := by decide +kernel
theorem dM_logic_110 : decode cM_logic 110 = .ok (.aload_n 0, 1) := by decide +kernel
theorem dM_logic_111 : decode cM_logic 111 = .ok (.getfield 9, 3) := by decide +kernel
theorem dM_logic_114 : decode cM_logic 114 = .ok (.bipush 18, 2) := by decide +kernel
theorem dM_logic_116 : decode cM_logic 116 = .ok (.aload_n 0, 1) := by decide +kernel
theorem dM_logic_117 : decode cM_logic 117 = .ok (.getfield 9, 3) := by decide +kernel
theorem dM_logic_120 : decode cM_logic 120 = .ok (.bipush 16, 2) := by decide +kernel
theorem dM_logic_122 : decode cM_logic 122 = .ok (.laload, 1) := by decide +kernel
theorem dM_logic_123 : decode cM_logic 123 = .ok (.aload_n 0, 1) := by decide +kernel
theorem dM_logic_124 : decode cM_logic 124 = .ok (.getfield 9, 3) := by decide +kernel
theorem dM_logic_127 : decode cM_logic 127 = .ok (.bipush 17, 2) := by decide +kernel
theorem dM_logic_129 : decode cM_logic 129 = .ok (.laload, 1) := by decide +kernel
theorem dM_logic_130 : decode cM_logic 130 = .ok (.lor, 1) := by decide +kernel
theorem dM_logic_131 : decode cM_logic 131 = .ok (.lastore, 1) := by decide +kernel
theorem dM_logic_132 : decode cM_logic 132 = .ok (.aload_n 0, 1) := by decide +kernel
theorem dM_logic_133 : decode cM_logic 133 = .ok (.getfield 13, 3) := by decide +kernel
theorem dM_logic_136 : decode cM_logic 136 = .ok (.bipush 18, 2) := by decide +kernel
theorem dM_logic_138 : decode cM_logic 138 = .ok (.aload_n 0, 1) := by decide +kernel
theorem dM_logic_139 : decode cM_logic 139 = .ok (.getfield 13, 3) := by decide +kernel
theorem dM_logic_142 : decode cM_logic 142 = .ok (.bipush 16, 2) := by decide +kernel
theorem dM_logic_144 : decode cM_logic 144 = .ok (.laload, 1) := by decide +kernel
theorem dM_logic_145 : decode cM_logic 145 = .ok (.aload_n 0, 1) := by decide +kernel
theorem dM_logic_146 : decode cM_logic 146 = .ok (.getfield 13, 3) := by decide +kernel
theorem dM_logic_149 : decode cM_logic 149 = .ok (.bipush 17, 2) := by decide +kernel
theorem dM_logic_151 : decode cM_logic 151 = .ok (.laload, 1) := by decide +kernel
theorem dM_logic_152 : decode cM_logic 152 = .ok (.lor, 1) := by decide +kernel
theorem dM_logic_153 : decode cM_logic 153 = .ok (.aload_n 0, 1) := by decide +kernel
theorem dM_logic_154 : decode cM_logic 154 = .ok (.getfield 9, 3) := by decide +kernel
theorem dM_logic_157 : decode cM_logic 157 = .ok (.bipush 18, 2) := by decide +kernel
theorem dM_logic_159 : decode cM_logic 159 = .ok (.laload, 1) := by decide +kernel
theorem dM_logic_160 : decode cM_logic 160 = .ok (.ldc2_w 38, 3) := by decide +kernel
theorem dM_logic_163 : decode cM_logic 163 = .ok (.lxor, 1) := by decide +kernel
theorem dM_logic_164 : decode cM_logic 164 = .ok (.land, 1) := by decide +kernel
theorem dM_logic_165 : decode cM_logic 165 = .ok (.lastore, 1) := by decide +kernel
theorem dM_logic_166 : decode cM_logic 166 = .ok (.aload_n 0, 1) := by decide +kernel
theorem dM_logic_167 : decode cM_logic 167 = .ok (.getfield 16, 3) := by decide +kernel
theorem dM_logic_170 : decode cM_logic 170 = .ok (.bipush 18, 2) := by decide +kernel
theorem dM_logic_172 : decode cM_logic 172 = .ok (.aload_n 0, 1) := by decide +kernel
theorem dM_logic_173 : decode cM_logic 173 = .ok (.getfield 16, 3) := by decide +kernel
theorem dM_logic_176 : decode cM_logic 176 = .ok (.bipush 16, 2) := by decide +kernel
theorem dM_logic_178 : decode cM_logic 178 = .ok (.laload, 1) := by decide +kernel
theorem dM_logic_179 : decode cM_logic 179 = .ok (.aload_n 0, 1) := by decide +kernel
theorem dM_logic_180 : decode cM_logic 180 = .ok (.getfield 16, 3) := by decide +kernel
theorem dM_logic_183 : decode cM_logic 183 = .ok (.bipush 17, 2) := by decide +kernel
theorem dM_logic_185 : decode cM_logic 185 = .ok (.laload, 1) := by decide +kernel
theorem dM_logic_186 : decode cM_logic 186 = .ok (.invokestatic 42, 3) := by decide +kernel
theorem dM_logic_189 : decode cM_logic 189 = .ok (.lastore, 1) := by decide +kernel
theorem dM_logic_190 : decode cM_logic 190 = .ok (.goto 59, 3) := by decide +kernel
theorem dM_logic_193 : decode cM_logic 193 = .ok (.aload_n 0, 1) := by decide +kernel
theorem dM_logic_194 : decode cM_logic 194 = .ok (.getfield 13, 3) := by decide +kernel
theorem dM_logic_197 : decode cM_logic 197 = .ok (.bipush 18, 2) := by decide +kernel
theorem dM_logic_199 : decode cM_logic 199 = .ok (.aload_n 0, 1) := by decide +kernel
theorem dM_logic_200 : decode cM_logic 200 = .ok (.getfield 13, 3) := by decide +kernel
theorem dM_logic_203 : decode cM_logic 203 = .ok (.bipush 16, 2) := by decide +kernel
theorem dM_logic_205 : decode cM_logic 205 = .ok (.laload, 1) := by decide +kernel
theorem dM_logic_206 : decode cM_logic 206 = .ok (.aload_n 0, 1) := by decide +kernel
theorem dM_logic_207 : decode cM_logic 207 = .ok (.getfield 13, 3) := by decide +kernel
theorem dM_logic_210 : decode cM_logic 210 = .ok (.bipush 17, 2) := by decide +kernel
theorem dM_logic_212 : decode cM_logic 212 = .ok (.laload, 1) := by decide +kernel
theorem dM_logic_213 : decode cM_logic 213 = .ok (.lor, 1) := by decide +kernel
theorem dM_logic_214 : decode cM_logic 214 = .ok (.lastore, 1) := by decide +kernel
theorem dM_logic_215 : decode cM_logic 215 = .ok (.aload_n 0, 1) := by decide +kernel
theorem dM_logic_216 : decode cM_logic 216 = .ok (.getfield 9, 3) := by decide +kernel
theorem dM_logic_219 : decode cM_logic 219 = .ok (.bipush 18, 2) := by decide +kernel
theorem dM_logic_221 : decode cM_logic 221 = .ok (.aload_n 0, 1) := by decide +kernel
theorem dM_logic_222 : decode cM_logic 222 = .ok (.getfield 9, 3) := by decide +kernel
theorem dM_logic_225 : decode cM_logic 225 = .ok (.bipush 16, 2) := by decide +kernel
theorem dM_logic_227 : decode cM_logic 227 = .ok (.laload, 1) := by decide +kernel
theorem dM_logic_228 : decode cM_logic 228 = .ok (.aload_n 0, 1) := by decide +kernel
theorem dM_logic_229 : decode cM_logic 229 = .ok (.getfield 9, 3) := by decide +kernel
theorem dM_logic_232 : decode cM_logic 232 = .ok (.bipush 17, 2) := by decide +kernel
theorem dM_logic_234 : decode cM_logic 234 = .ok (.laload, 1) := by decide +kernel
theorem dM_logic_235 : decode cM_logic 235 = .ok (.lxor, 1) := by decide +kernel
theorem dM_logic_236 : decode cM_logic 236 = .ok (.aload_n 0, 1) := by decide +kernel
theorem dM_logic_237 : decode cM_logic 237 = .ok (.getfield 13, 3) := by decide +kernel
theorem dM_logic_240 : decode cM_logic 240 = .ok (.bipush 18, 2) := by decide +kernel
theorem dM_logic_242 : decode cM_logic 242 = .ok (.laload, 1) := by decide +kernel
theorem dM_logic_243 : decode cM_logic 243 = .ok (.ldc2_w 38, 3) := by decide +kernel
theorem dM_logic_246 : decode cM_logic 246 = .ok (.lxor, 1) := by decide +kernel
theorem dM_logic_247 : decode cM_logic 247 = .ok (.land, 1) := by decide +kernel
theorem dM_logic_248 : decode cM_logic 248 = .ok (.lastore, 1) := by decide +kernel
theorem dM_logic_249 : decode cM_logic 249 = .ok (.return_, 1) := by decide +kernel
theorem dM_shift_0 : decode cM_shift 0 = .ok (.iload_n 1, 1) := by decide +kernel
theorem dM_shift_1 : decode cM_shift 1 = .ok (.bipush 8, 2) := by decide +kernel
theorem dM_shift_3 : decode cM_shift 3 = .ok (.if_icmp .ne 91, 3) := by decide +kernel
theorem dM_shift_6 : decode cM_shift 6 = .ok (.aload_n 0, 1) := by decide +kernel
theorem dM_shift_7 : decode cM_shift 7 = .ok (.getfield 9, 3) := by decide +kernel
theorem dM_shift_10 : decode cM_shift 10 = .ok (.bipush 18, 2) := by decide +kernel
theorem dM_shift_12 : decode cM_shift 12 = .ok (.aload_n 0, 1) := by decide +kernel
theorem dM_shift_13 : decode cM_shift 13 = .ok (.getfield 9, 3) := by decide +kernel
theorem dM_shift_16 : decode cM_shift 16 = .ok (.bipush 16, 2) := by decide +kernel
theorem dM_shift_18 : decode cM_shift 18 = .ok (.laload, 1) := by decide +kernel
theorem dM_shift_19 : decode cM_shift 19 = .ok (.iload_n 2, 1) := by decide +kernel
theorem dM_shift_20 : decode cM_shift 20 = .ok (.lshl, 1) := by decide +kernel
theorem dM_shift_21 : decode cM_shift 21 = .ok (.lastore, 1) := by decide +kernel
theorem dM_shift_22 : decode cM_shift 22 = .ok (.aload_n 0, 1) := by decide +kernel
theorem dM_shift_23 : decode cM_shift 23 = .ok (.getfield 13, 3) := by decide +kernel
theorem dM_shift_26 : decode cM_shift 26 = .ok (.bipush 18, 2) := by decide +kernel
theorem dM_shift_28 : decode cM_shift 28 = .ok (.aload_n 0, 1) := by decide +kernel
theorem dM_shift_29 : decode cM_shift 29 = .ok (.getfield 13, 3) := by decide +kernel
theorem dM_shift_32 : decode cM_shift 32 = .ok (.bipush 16, 2) := by decide +kernel
theorem dM_shift_34 : decode cM_shift 34 = .ok (.laload, 1) := by decide +kernel
theorem dM_shift_35 : decode cM_shift 35 = .ok (.iload_n 2, 1) := by decide +kernel
theorem dM_shift_36 : decode cM_shift 36 = .ok (.lshl, 1) := by decide +kernel
theorem dM_shift_37 : decode cM_shift 37 = .ok (.lastore, 1) := by decide +kernel
theorem dM_shift_38 : decode cM_shift 38 = .ok (.iload_n 2, 1) := by decide +kernel
theorem dM_shift_39 : decode cM_shift 39 = .ok (.ifCond .eq 20, 3) := by decide +kernel
theorem dM_shift_42 : decode cM_shift 42 = .ok (.aload_n 0, 1) := by decide +kernel
theorem dM_shift_43 : decode cM_shift 43 = .ok (.getfield 19, 3) := by decide +kernel
theorem dM_shift_46 : decode cM_shift 46 = .ok (.bipush 16, 2) := by decide +kernel
theorem dM_shift_48 : decode cM_shift 48 = .ok (.laload, 1) := by decide +kernel
theorem dM_shift_49 : decode cM_shift 49 = .ok (.bipush 64, 2) := by decide +kernel
theorem dM_shift_51 : decode cM_shift 51 = .ok (.iload_n 2, 1) := by decide +kernel
theorem dM_shift_52 : decode cM_shift 52 = .ok (.isub, 1) := by decide +kernel
theorem dM_shift_53 : decode cM_shift 53 = .ok (.lushr, 1) := by decide +kernel
theorem dM_shift_54 : decode cM_shift 54 = .ok (.lconst 0, 1) := by decide +kernel
theorem dM_shift_55 : decode cM_shift 55 = .ok (.lcmp, 1) := by decide +kernel
theorem dM_shift_56 : decode cM_shift 56 = .ok (.ifCond .ne 175, 3) := by decide +kernel
theorem dM_shift_59 : decode cM_shift 59 = .ok (.aload_n 0, 1) := by decide +kernel
theorem dM_shift_60 : decode cM_shift 60 = .ok (.getfield 16, 3) := by decide +kernel
theorem dM_shift_63 : decode cM_shift 63 = .ok (.bipush 18, 2) := by decide +kernel
theorem dM_shift_65 : decode cM_shift 65 = .ok (.aload_n 0, 1) := by decide +kernel
theorem dM_shift_66 : decode cM_shift 66 = .ok (.getfield 16, 3) := by decide +kernel
theorem dM_shift_69 : decode cM_shift 69 = .ok (.bipush 16, 2) := by decide +kernel
theorem dM_shift_71 : decode cM_shift 71 = .ok (.laload, 1) := by decide +kernel
theorem dM_shift_72 : decode cM_shift 72 = .ok (.iload_n 2, 1) := by decide +kernel
theorem dM_shift_73 : decode cM_shift 73 = .ok (.lshl, 1) := by decide +kernel
theorem dM_shift_74 : decode cM_shift 74 = .ok (.lastore, 1) := by decide +kernel
theorem dM_shift_75 : decode cM_shift 75 = .ok (.aload_n 0, 1) := by decide +kernel
theorem dM_shift_76 : decode cM_shift 76 = .ok (.getfield 19, 3) := by decide +kernel
theorem dM_shift_79 : decode cM_shift 79 = .ok (.bipush 18, 2) := by decide +kernel
theorem dM_shift_81 : decode cM_shift 81 = .ok (.aload_n 0, 1) := by decide +kernel
theorem dM_shift_82 : decode cM_shift 82 = .ok (.getfield 19, 3) := by decide +kernel
theorem dM_shift_85 : decode cM_shift 85 = .ok (.bipush 16, 2) := by decide +kernel
theorem dM_shift_87 : decode cM_shift 87 = .ok (.laload, 1) := by decide +kernel
theorem dM_shift_88 : decode cM_shift 88 = .ok (.iload_n 2, 1) := by decide +kernel
theorem dM_shift_89 : decode cM_shift 89 = .ok (.lshl, 1) := by decide +kernel
theorem dM_shift_90 : decode cM_shift 90 = .ok (.lastore, 1) := by decide +kernel
theorem dM_shift_91 : decode cM_shift 91 = .ok (.goto 140, 3) := by decide +kernel
theorem dM_shift_94 : decode cM_shift 94 = .ok (.iload_n 1, 1) := by decide +kernel
theorem dM_shift_95 : decode cM_shift 95 = .ok (.bipush 9, 2) := by decide +kernel
theorem dM_shift_97 : decode cM_shift 97 = .ok (.if_icmp .ne 70, 3) := by decide +kernel
theorem dM_shift_100 : decode cM_shift 100 = .ok (.aload_n 0, 1) := by decide +kernel
theorem dM_shift_101 : decode cM_shift 101 = .ok (.getfield 9, 3) := by decide +kernel
theorem dM_shift_104 : decode cM_shift 104 = .ok (.bipush 18, 2) := by decide +kernel
theorem dM_shift_106 : decode cM_shift 106 = .ok (.aload_n 0, 1) := by decide +kernel
theorem dM_shift_107 : decode cM_shift 107 = .ok (.getfield 9, 3) := by decide +kernel
theorem dM_shift_110 : decode cM_shift 110 = .ok (.bipush 16, 2) := by decide +kernel
theorem dM_shift_112 : decode cM_shift 112 = .ok (.laload, 1) := by decide +kernel
theorem dM_shift_113 : decode cM_shift 113 = .ok (.iload_n 2, 1) := by decide +kernel
theorem dM_shift_114 : decode cM_shift 114 = .ok (.lushr, 1) := by decide +kernel
theorem dM_shift_115 : decode cM_shift 115 = .ok (.lastore, 1) := by decide +kernel
theorem dM_shift_116 : decode cM_shift 116 = .ok (.aload_n 0, 1) := by decide +kernel
theorem dM_shift_117 : decode cM_shift 117 = .ok (.getfield 13, 3) := by decide +kernel
theorem dM_shift_120 : decode cM_shift 120 = .ok (.bipush 18, 2) := by decide +kernel
theorem dM_shift_122 : decode cM_shift 122 = .ok (.aload_n 0, 1) := by decide +kernel
theorem dM_shift_123 : decode cM_shift 123 = .ok (.getfield 13, 3) := by decide +kernel
theorem dM_shift_126 : decode cM_shift 126 = .ok (.bipush 16, 2) := by decide +kernel
theorem dM_shift_128 : decode cM_shift 128 = .ok (.laload, 1) := by decide +kernel
theorem dM_shift_129 : decode cM_shift 129 = .ok (.iload_n 2, 1) := by decide +kernel
theorem dM_shift_130 : decode cM_shift 130 = .ok (.lushr, 1) := by decide +kernel
theorem dM_shift_131 : decode cM_shift 131 = .ok (.lastore, 1) := by decide +kernel
theorem dM_shift_132 : decode cM_shift 132 = .ok (.aload_n 0, 1) := by decide +kernel
theorem dM_shift_133 : decode cM_shift 133 = .ok (.getfield 16, 3) := by decide +kernel
theorem dM_shift_136 : decode cM_shift 136 = .ok (.bipush 18, 2) := by decide +kernel
theorem dM_shift_138 : decode cM_shift 138 = .ok (.aload_n 0, 1) := by decide +kernel
theorem dM_shift_139 : decode cM_shift 139 = .ok (.getfield 16, 3) := by decide +kernel
theorem dM_shift_142 : decode cM_shift 142 = .ok (.bipush 16, 2) := by decide +kernel
theorem dM_shift_144 : decode cM_shift 144 = .ok (.laload, 1) := by decide +kernel
theorem dM_shift_145 : decode cM_shift 145 = .ok (.iload_n 2, 1) := by decide +kernel
theorem dM_shift_146 : decode cM_shift 146 = .ok (.lushr, 1) := by decide +kernel
theorem dM_shift_147 : decode cM_shift 147 = .ok (.lastore, 1) := by decide +kernel
theorem dM_shift_148 : decode cM_shift 148 = .ok (.aload_n 0, 1) := by decide +kernel
theorem dM_shift_149 : decode cM_shift 149 = .ok (.getfield 19, 3) := by decide +kernel
theorem dM_shift_152 : decode cM_shift 152 = .ok (.bipush 18, 2) := by decide +kernel
theorem dM_shift_154 : decode cM_shift 154 = .ok (.aload_n 0, 1) := by decide +kernel
theorem dM_shift_155 : decode cM_shift 155 = .ok (.getfield 19, 3) := by decide +kernel
theorem dM_shift_158 : decode cM_shift 158 = .ok (.bipush 16, 2) := by decide +kernel
theorem dM_shift_160 : decode cM_shift 160 = .ok (.laload, 1) := by decide +kernel
theorem dM_shift_161 : decode cM_shift 161 = .ok (.iload_n 2, 1) := by decide +kernel
theorem dM_shift_162 : decode cM_shift 162 = .ok (.lushr, 1) := by decide +kernel
theorem dM_shift_163 : decode cM_shift 163 = .ok (.lastore, 1) := by decide +kernel
theorem dM_shift_164 : decode cM_shift 164 = .ok (.goto 67, 3) := by decide +kernel
theorem dM_shift_167 : decode cM_shift 167 = .ok (.aload_n 0, 1) := by decide +kernel
theorem dM_shift_168 : decode cM_shift 168 = .ok (.getfield 9, 3) := by decide +kernel
theorem dM_shift_171 : decode cM_shift 171 = .ok (.bipush 18, 2) := by decide +kernel
theorem dM_shift_173 : decode cM_shift 173 = .ok (.aload_n 0, 1) := by decide +kernel
theorem dM_shift_174 : decode cM_shift 174 = .ok (.getfield 9, 3) := by decide +kernel
theorem dM_shift_177 : decode cM_shift 177 = .ok (.bipush 16, 2) := by decide +kernel
theorem dM_shift_179 : decode cM_shift 179 = .ok (.laload, 1) := by decide +kernel
theorem dM_shift_180 : decode cM_shift 180 = .ok (.iload_n 2, 1) := by decide +kernel
theorem dM_shift_181 : decode cM_shift 181 = .ok (.lshr, 1) := by decide +kernel
theorem dM_shift_182 : decode cM_shift 182 = .ok (.lastore, 1) := by decide +kernel
theorem dM_shift_183 : decode cM_shift 183 = .ok (.aload_n 0, 1) := by decide +kernel
theorem dM_shift_184 : decode cM_shift 184 = .ok (.getfield 13, 3) := by decide +kernel
theorem dM_shift_187 : decode cM_shift 187 = .ok (.bipush 18, 2) := by decide +kernel
theorem dM_shift_189 : decode cM_shift 189 = .ok (.aload_n 0, 1) := by decide +kernel
theorem dM_shift_190 : decode cM_shift 190 = .ok (.getfield 13, 3) := by decide +kernel
theorem dM_shift_193 : decode cM_shift 193 = .ok (.bipush 16, 2) := by decide +kernel
theorem dM_shift_195 : decode cM_shift 195 = .ok (.laload, 1) := by decide +kernel
theorem dM_shift_196 : decode cM_shift 196 = .ok (.iload_n 2, 1) := by decide +kernel
theorem dM_shift_197 : decode cM_shift 197 = .ok (.lshr, 1) := by decide +kernel
theorem dM_shift_198 : decode cM_shift 198 = .ok (.lastore, 1) := by decide +kernel
theorem dM_shift_199 : decode cM_shift 199 = .ok (.aload_n 0, 1) := by decide +kernel
theorem dM_shift_200 : decode cM_shift 200 = .ok (.getfield 22, 3) := by decide +kernel
theorem dM_shift_203 : decode cM_shift 203 = .ok (.bipush 18, 2) := by decide +kernel
theorem dM_shift_205 : decode cM_shift 205 = .ok (.aload_n 0, 1) := by decide +kernel
theorem dM_shift_206 : decode cM_shift 206 = .ok (.getfield 22, 3) := by decide +kernel
theorem dM_shift_209 : decode cM_shift 209 = .ok (.bipush 16, 2) := by decide +kernel
theorem dM_shift_211 : decode cM_shift 211 = .ok (.laload, 1) := by decide +kernel
theorem dM_shift_212 : decode cM_shift 212 = .ok (.iload_n 2, 1) := by decide +kernel
theorem dM_shift_213 : decode cM_shift 213 = .ok (.lshr, 1) := by decide +kernel
theorem dM_shift_214 : decode cM_shift 214 = .ok (.lastore, 1) := by decide +kernel
theorem dM_shift_215 : decode cM_shift 215 = .ok (.aload_n 0, 1) := by decide +kernel
theorem dM_shift_216 : decode cM_shift 216 = .ok (.getfield 25, 3) := by decide +kernel
theorem dM_shift_219 : decode cM_shift 219 = .ok (.bipush 18, 2) := by decide +kernel
theorem dM_shift_221 : decode cM_shift 221 = .ok (.aload_n 0, 1) := by decide +kernel
theorem dM_shift_222 : decode cM_shift 222 = .ok (.getfield 25, 3) := by decide +kernel
theorem dM_shift_225 : decode cM_shift 225 = .ok (.bipush 16, 2) := by decide +kernel
theorem dM_shift_227 : decode cM_shift 227 = .ok (.laload, 1) := by decide +kernel
theorem dM_shift_228 : decode cM_shift 228 = .ok (.iload_n 2, 1) := by decide +kernel
theorem dM_shift_229 : decode cM_shift 229 = .ok (.lshr, 1) := by decide +kernel
theorem dM_shift_230 : decode cM_shift 230 = .ok (.lastore, 1) := by decide +kernel
theorem dM_shift_231 : decode cM_shift 231 = .ok (.return_, 1) := by decide +kernel
theorem dM_bytesOf_0 : decode cM_bytesOf 0 = .ok (.aload_n 0, 1) := by decide +kernel
theorem dM_bytesOf_1 : decode cM_bytesOf 1 = .ok (.iload_n 1, 1) := by decide +kernel
theorem dM_bytesOf_2 : decode cM_bytesOf 2 = .ok (.invokevirtual 82, 3) := by decide +kernel
theorem dM_bytesOf_5 : decode cM_bytesOf 5 = .ok (.ifCond .eq 39, 3) := by decide +kernel
theorem dM_bytesOf_8 : decode cM_bytesOf 8 = .ok (.aload_n 0, 1) := by decide +kernel
theorem dM_bytesOf_9 : decode cM_bytesOf 9 = .ok (.getfield 9, 3) := by decide +kernel
theorem dM_bytesOf_12 : decode cM_bytesOf 12 = .ok (.iload_n 1, 1) := by decide +kernel
theorem dM_bytesOf_13 : decode cM_bytesOf 13 = .ok (.laload, 1) := by decide +kernel
theorem dM_bytesOf_14 : decode cM_bytesOf 14 = .ok (.ldc2_w 98, 3) := by decide +kernel
theorem dM_bytesOf_17 : decode cM_bytesOf 17 = .ok (.lcmp, 1) := by decide +kernel
theorem dM_bytesOf_18 : decode cM_bytesOf 18 = .ok (.ifCond .eq 16, 3) := by decide +kernel
theorem dM_bytesOf_21 : decode cM_bytesOf 21 = .ok (.aload_n 0, 1) := by decide +kernel
theorem dM_bytesOf_22 : decode cM_bytesOf 22 = .ok (.getfield 9, 3) := by decide +kernel
theorem dM_bytesOf_25 : decode cM_bytesOf 25 = .ok (.iload_n 1, 1) := by decide +kernel
theorem dM_bytesOf_26 : decode cM_bytesOf 26 = .ok (.laload, 1) := by decide +kernel
theorem dM_bytesOf_27 : decode cM_bytesOf 27 = .ok (.ldc2_w 100, 3) := by decide +kernel
theorem dM_bytesOf_30 : decode cM_bytesOf 30 = .ok (.lcmp, 1) := by decide +kernel
theorem dM_bytesOf_31 : decode cM_bytesOf 31 = .ok (.ifCond .ne 13, 3) := by decide +kernel
theorem dM_bytesOf_34 : decode cM_bytesOf 34 = .ok (.aload_n 0, 1) := by decide +kernel
theorem dM_bytesOf_35 : decode cM_bytesOf 35 = .ok (.getfield 9, 3) := by decide +kernel
theorem dM_bytesOf_38 : decode cM_bytesOf 38 = .ok (.iload_n 1, 1) := by decide +kernel
theorem dM_bytesOf_39 : decode cM_bytesOf 39 = .ok (.laload, 1) := by decide +kernel
theorem dM_bytesOf_40 : decode cM_bytesOf 40 = .ok (.l2i, 1) := by decide +kernel
theorem dM_bytesOf_41 : decode cM_bytesOf 41 = .ok (.goto 5, 3) := by decide +kernel
theorem dM_bytesOf_44 : decode cM_bytesOf 44 = .ok (.bipush 8, 2) := by decide +kernel
theorem dM_bytesOf_46 : decode cM_bytesOf 46 = .ok (.ireturn, 1) := by decide +kernel
def f_M_multiply (st : Md) : Md :=
  if (f_M_isExact st 16) = 0 then (if ((f_M_zeros st 16) + (f_M_zeros st 17)) ≤ 63 then (if (f_M_below 4294967295 (st.2.2.2.1 (16 : Int32).toNatClampNeg)) = 0 then (if (f_M_below 4294967295 (st.2.2.2.1 (17 : Int32).toNatClampNeg)) = 0 then (st.1, vp_updL st.2.1 (18 : Int32).toNatClampNeg (((-1) : Int64) <<< (((f_M_zeros st 16) + (f_M_zeros st 17)).toInt64 &&& 63)), vp_updL st.2.2.1 (18 : Int32).toNatClampNeg ((st.2.2.1 (16 : Int32).toNatClampNeg) * (st.2.2.1 (17 : Int32).toNatClampNeg)), vp_updL st.2.2.2.1 (18 : Int32).toNatClampNeg ((st.2.2.2.1 (16 : Int32).toNatClampNeg) * (st.2.2.2.1 (17 : Int32).toNatClampNeg)), st.2.2.2.2.1, st.2.2.2.2.2)
        else (st.1, vp_updL st.2.1 (18 : Int32).toNatClampNeg (((-1) : Int64) <<< (((f_M_zeros st 16) + (f_M_zeros st 17)).toInt64 &&& 63)), st.2.2.1, st.2.2.2.1, st.2.2.2.2.1, st.2.2.2.2.2))
      else (st.1, vp_updL st.2.1 (18 : Int32).toNatClampNeg (((-1) : Int64) <<< (((f_M_zeros st 16) + (f_M_zeros st 17)).toInt64 &&& 63)), st.2.2.1, st.2.2.2.1, st.2.2.2.2.1, st.2.2.2.2.2))
    else if (f_M_below 4294967295 (st.2.2.2.1 (16 : Int32).toNatClampNeg)) = 0 then (if (f_M_below 4294967295 (st.2.2.2.1 (17 : Int32).toNatClampNeg)) = 0 then (st.1, vp_updL st.2.1 (18 : Int32).toNatClampNeg 0, vp_updL st.2.2.1 (18 : Int32).toNatClampNeg ((st.2.2.1 (16 : Int32).toNatClampNeg) * (st.2.2.1 (17 : Int32).toNatClampNeg)), vp_updL st.2.2.2.1 (18 : Int32).toNatClampNeg ((st.2.2.2.1 (16 : Int32).toNatClampNeg) * (st.2.2.2.1 (17 : Int32).toNatClampNeg)), st.2.2.2.2.1, st.2.2.2.2.2)
      else (st.1, vp_updL st.2.1 (18 : Int32).toNatClampNeg 0, st.2.2.1, st.2.2.2.1, st.2.2.2.2.1, st.2.2.2.2.2))
    else (st.1, vp_updL st.2.1 (18 : Int32).toNatClampNeg 0, st.2.2.1, st.2.2.2.1, st.2.2.2.2.1, st.2.2.2.2.2))
  else if (f_M_isExact st 17) = 0 then (if ((f_M_zeros st 16) + (f_M_zeros st 17)) ≤ 63 then (if (f_M_below 4294967295 (st.2.2.2.1 (16 : Int32).toNatClampNeg)) = 0 then (if (f_M_below 4294967295 (st.2.2.2.1 (17 : Int32).toNatClampNeg)) = 0 then (st.1, vp_updL st.2.1 (18 : Int32).toNatClampNeg (((-1) : Int64) <<< (((f_M_zeros st 16) + (f_M_zeros st 17)).toInt64 &&& 63)), vp_updL st.2.2.1 (18 : Int32).toNatClampNeg ((st.2.2.1 (16 : Int32).toNatClampNeg) * (st.2.2.1 (17 : Int32).toNatClampNeg)), vp_updL st.2.2.2.1 (18 : Int32).toNatClampNeg ((st.2.2.2.1 (16 : Int32).toNatClampNeg) * (st.2.2.2.1 (17 : Int32).toNatClampNeg)), st.2.2.2.2.1, st.2.2.2.2.2)
        else (st.1, vp_updL st.2.1 (18 : Int32).toNatClampNeg (((-1) : Int64) <<< (((f_M_zeros st 16) + (f_M_zeros st 17)).toInt64 &&& 63)), st.2.2.1, st.2.2.2.1, st.2.2.2.2.1, st.2.2.2.2.2))
      else (st.1, vp_updL st.2.1 (18 : Int32).toNatClampNeg (((-1) : Int64) <<< (((f_M_zeros st 16) + (f_M_zeros st 17)).toInt64 &&& 63)), st.2.2.1, st.2.2.2.1, st.2.2.2.2.1, st.2.2.2.2.2))
    else if (f_M_below 4294967295 (st.2.2.2.1 (16 : Int32).toNatClampNeg)) = 0 then (if (f_M_below 4294967295 (st.2.2.2.1 (17 : Int32).toNatClampNeg)) = 0 then (st.1, vp_updL st.2.1 (18 : Int32).toNatClampNeg 0, vp_updL st.2.2.1 (18 : Int32).toNatClampNeg ((st.2.2.1 (16 : Int32).toNatClampNeg) * (st.2.2.1 (17 : Int32).toNatClampNeg)), vp_updL st.2.2.2.1 (18 : Int32).toNatClampNeg ((st.2.2.2.1 (16 : Int32).toNatClampNeg) * (st.2.2.2.1 (17 : Int32).toNatClampNeg)), st.2.2.2.2.1, st.2.2.2.2.2)
      else (st.1, vp_updL st.2.1 (18 : Int32).toNatClampNeg 0, st.2.2.1, st.2.2.2.1, st.2.2.2.2.1, st.2.2.2.2.2))
    else (st.1, vp_updL st.2.1 (18 : Int32).toNatClampNeg 0, st.2.2.1, st.2.2.2.1, st.2.2.2.2.1, st.2.2.2.2.2))
  else (f_M_setExact st 18 ((st.1 (16 : Int32).toNatClampNeg) * (st.1 (17 : Int32).toNatClampNeg)))
set_option maxHeartbeats 4000000 in
set_option maxRecDepth 100000 in
theorem c_M_multiply (l : Launch) (D : va_G) (h0 : Nat) (a1 : Nat) (a2 : Nat) (a3 : Nat) (a4 : Nat) (a5 : Nat) (a6 : Nat) (cj1 cj2 cj3 cj4 cj5 cj6 : ClassId) (th : Int32) (st : Md) : sp_M l yM_multiply wsM_multiply ({ frames := 1, cells := 0, slots := 0, locals := 23 }) D [.ref h0] ([(h0, .inr (4, [.int th, .ref a1, .ref a2, .ref a3, .ref a4, .ref a5, .ref a6])), (a1, .inl (cj1, 19, .inr (.inl st.1))), (a2, .inl (cj2, 19, .inr (.inl st.2.1))), (a3, .inl (cj3, 19, .inr (.inl st.2.2.1))), (a4, .inl (cj4, 19, .inr (.inl st.2.2.2.1))), (a5, .inl (cj5, 19, .inr (.inl st.2.2.2.2.1))), (a6, .inl (cj6, 19, .inr (.inl st.2.2.2.2.2)))]) [(cj1, .long), (cj2, .long), (cj3, .long), (cj4, .long), (cj5, .long), (cj6, .long)] (sp_Qv D ([(h0, .inr (4, [.int th, .ref a1, .ref a2, .ref a3, .ref a4, .ref a5, .ref a6])), (a1, .inl (cj1, 19, .inr (.inl st.1))), (a2, .inl (cj2, 19, .inr (.inl st.2.1))), (a3, .inl (cj3, 19, .inr (.inl st.2.2.1))), (a4, .inl (cj4, 19, .inr (.inl st.2.2.2.1))), (a5, .inl (cj5, 19, .inr (.inl st.2.2.2.2.1))), (a6, .inl (cj6, 19, .inr (.inl st.2.2.2.2.2)))]) ([(h0, .inr (4, [.int th, .ref a1, .ref a2, .ref a3, .ref a4, .ref a5, .ref a6])), (a1, .inl (cj1, 19, .inr (.inl ((f_M_multiply st).1)))), (a2, .inl (cj2, 19, .inr (.inl ((f_M_multiply st).2.1)))), (a3, .inl (cj3, 19, .inr (.inl ((f_M_multiply st).2.2.1)))), (a4, .inl (cj4, 19, .inr (.inl ((f_M_multiply st).2.2.2.1)))), (a5, .inl (cj5, 19, .inr (.inl ((f_M_multiply st).2.2.2.2.1)))), (a6, .inl (cj6, 19, .inr (.inl ((f_M_multiply st).2.2.2.2.2))))]) [(cj1, .long), (cj2, .long), (cj3, .long), (cj4, .long), (cj5, .long), (cj6, .long)]) := by
  refine sp_ofW (cc := cM_multiply) (nL := 2) (ret := none) (own := RM) (by decide) rfl rfl (Nat.le_of_ble_eq_true rfl) ?_
  intro p e s m below meth c A ls hAe hnm C hA hP hK hD hS hl
  have hx := C.1
  have hb := C.2.1
  have hown := C.2.2.2.2.1
  have hts := C.2.2.2.2.2.1
  have hl : lv_has ls 2 [(0, .ref h0)] := hl
  have hi4 : ∀ w ∈ u_ws RM TM 7, w ∈ wsM_multiply := fun w h => List.mem_cons_of_mem _ (inM w h)
  have hk0 := hts _ (List.mem_cons_of_mem _ wm_383)
  have hk1 := hts _ (List.mem_cons_of_mem _ wm_381)
  have hk2 := hts _ (List.mem_cons_of_mem _ wm_380)
  have hk3 := hts _ (List.mem_cons_of_mem _ wm_385)
  have hk4 := hts _ (List.mem_cons_of_mem _ wm_384)
  have hk5 := hts _ (List.mem_cons_of_mem _ wm_382)
  refine lv_aload_n hx hb dM_multiply_0 rfl (lv_at hl 0 rfl) ?_
  refine lv_bipush (v := 16) hx hb dM_multiply_1 (by decide) ?_
  refine sp_callz (sp_runV (As := [.int 16]) (rest := []) C (c_M_isExact l D h0 a1 a2 a3 a4 a5 a6 cj1 cj2 cj3 cj4 cj5 cj6 th st 16 (vp_in_iff.mpr (by decide))) (cwV 1 hts (gV wG_c wm_419 wm_420 wm_421 wm_378 wm_418) rfl rfl rfl (by decide +kernel) ⟨Nat.le_of_ble_eq_true rfl, Nat.le_of_ble_eq_true rfl⟩) hK hP hD [0, 1, 2, 3, 4, 5, 6] (by decide) rfl [0, 1, 2, 3, 4, 5] rfl 0 4 rfl rfl rfl rfl hl.1 rfl (Nat.le_of_ble_eq_true rfl) dM_multiply_3 ⟨Nat.le_of_ble_eq_true rfl, Nat.le_of_ble_eq_true rfl⟩) hP hD hS hA [0, 1, 2, 3, 4, 5, 6] rfl (sp_fc (sp_fc (sp_fc (sp_fc (sp_fc (sp_fc (sp_fc sp_f0))))))) (fun H locs z1 hP hD hS => ?_)
  have hP : va_P D vwCl ([(h0, .inr (4, [.int th, .ref a1, .ref a2, .ref a3, .ref a4, .ref a5, .ref a6])), (a1, .inl (cj1, 19, .inr (.inl st.1))), (a2, .inl (cj2, 19, .inr (.inl st.2.1))), (a3, .inl (cj3, 19, .inr (.inl st.2.2.1))), (a4, .inl (cj4, 19, .inr (.inl st.2.2.2.1))), (a5, .inl (cj5, 19, .inr (.inl st.2.2.2.2.1))), (a6, .inl (cj6, 19, .inr (.inl st.2.2.2.2.2)))]) H := hP
  have hD : va_D A ([(h0, .inr (4, [.int th, .ref a1, .ref a2, .ref a3, .ref a4, .ref a5, .ref a6])), (a1, .inl (cj1, 19, .inr (.inl st.1))), (a2, .inl (cj2, 19, .inr (.inl st.2.1))), (a3, .inl (cj3, 19, .inr (.inl st.2.2.1))), (a4, .inl (cj4, 19, .inr (.inl st.2.2.2.1))), (a5, .inl (cj5, 19, .inr (.inl st.2.2.2.2.1))), (a6, .inl (cj6, 19, .inr (.inl st.2.2.2.2.2)))]) := hD
  refine lv_if_eq (tgt := 40) hx hb dM_multiply_6 (by decide) (fun c2 => ?_) (fun c2 => ?_)
  · refine lv_aload_n hx hb dM_multiply_40 rfl (lv_at hl 0 rfl) ?_
    refine lv_bipush (v := 16) hx hb dM_multiply_41 (by decide) ?_
    refine sp_calli (sp_runV (As := [.int 16]) (rest := []) C (c_M_zeros l D h0 a1 a2 a3 a4 a5 a6 cj1 cj2 cj3 cj4 cj5 cj6 th st 16 (vp_in_iff.mpr (by decide))) (cwV 1 hts (gV wG_c wm_423 wm_424 wm_425 wm_378 wm_422) rfl rfl rfl (by decide +kernel) ⟨Nat.le_of_ble_eq_true rfl, Nat.le_of_ble_eq_true rfl⟩) hK hP hD [0, 1, 2, 3, 4, 5, 6] (by decide) rfl [0, 1, 2, 3, 4, 5] rfl 0 4 rfl rfl rfl rfl hl.1 rfl (Nat.le_of_ble_eq_true rfl) dM_multiply_43 ⟨Nat.le_of_ble_eq_true rfl, Nat.le_of_ble_eq_true rfl⟩) hP hD hS hA [0, 1, 2, 3, 4, 5, 6] rfl (sp_fc (sp_fc (sp_fc (sp_fc (sp_fc (sp_fc (sp_fc sp_f0))))))) (fun H locs hP hD hS => ?_)
    have hP : va_P D vwCl ([(h0, .inr (4, [.int th, .ref a1, .ref a2, .ref a3, .ref a4, .ref a5, .ref a6])), (a1, .inl (cj1, 19, .inr (.inl st.1))), (a2, .inl (cj2, 19, .inr (.inl st.2.1))), (a3, .inl (cj3, 19, .inr (.inl st.2.2.1))), (a4, .inl (cj4, 19, .inr (.inl st.2.2.2.1))), (a5, .inl (cj5, 19, .inr (.inl st.2.2.2.2.1))), (a6, .inl (cj6, 19, .inr (.inl st.2.2.2.2.2)))]) H := hP
    have hD : va_D A ([(h0, .inr (4, [.int th, .ref a1, .ref a2, .ref a3, .ref a4, .ref a5, .ref a6])), (a1, .inl (cj1, 19, .inr (.inl st.1))), (a2, .inl (cj2, 19, .inr (.inl st.2.1))), (a3, .inl (cj3, 19, .inr (.inl st.2.2.1))), (a4, .inl (cj4, 19, .inr (.inl st.2.2.2.1))), (a5, .inl (cj5, 19, .inr (.inl st.2.2.2.2.1))), (a6, .inl (cj6, 19, .inr (.inl st.2.2.2.2.2)))]) := hD
    refine lv_aload_n hx hb dM_multiply_46 rfl (lv_at hl 0 rfl) ?_
    refine lv_bipush (v := 17) hx hb dM_multiply_47 (by decide) ?_
    refine sp_calli (sp_runV (As := [.int 17]) (rest := [.int (f_M_zeros st 16)]) C (c_M_zeros l D h0 a1 a2 a3 a4 a5 a6 cj1 cj2 cj3 cj4 cj5 cj6 th st 17 (vp_in_iff.mpr (by decide))) (cwV 1 hts (gV wG_c wm_423 wm_424 wm_425 wm_378 wm_422) rfl rfl rfl (by decide +kernel) ⟨Nat.le_of_ble_eq_true rfl, Nat.le_of_ble_eq_true rfl⟩) hK hP hD [0, 1, 2, 3, 4, 5, 6] (by decide) rfl [0, 1, 2, 3, 4, 5] rfl 0 4 rfl rfl rfl rfl hl.1 rfl (Nat.le_of_ble_eq_true rfl) dM_multiply_49 ⟨Nat.le_of_ble_eq_true rfl, Nat.le_of_ble_eq_true rfl⟩) hP hD hS hA [0, 1, 2, 3, 4, 5, 6] rfl (sp_fc (sp_fc (sp_fc (sp_fc (sp_fc (sp_fc (sp_fc sp_f0))))))) (fun H locs hP hD hS => ?_)
    have hP : va_P D vwCl ([(h0, .inr (4, [.int th, .ref a1, .ref a2, .ref a3, .ref a4, .ref a5, .ref a6])), (a1, .inl (cj1, 19, .inr (.inl st.1))), (a2, .inl (cj2, 19, .inr (.inl st.2.1))), (a3, .inl (cj3, 19, .inr (.inl st.2.2.1))), (a4, .inl (cj4, 19, .inr (.inl st.2.2.2.1))), (a5, .inl (cj5, 19, .inr (.inl st.2.2.2.2.1))), (a6, .inl (cj6, 19, .inr (.inl st.2.2.2.2.2)))]) H := hP
    have hD : va_D A ([(h0, .inr (4, [.int th, .ref a1, .ref a2, .ref a3, .ref a4, .ref a5, .ref a6])), (a1, .inl (cj1, 19, .inr (.inl st.1))), (a2, .inl (cj2, 19, .inr (.inl st.2.1))), (a3, .inl (cj3, 19, .inr (.inl st.2.2.1))), (a4, .inl (cj4, 19, .inr (.inl st.2.2.2.1))), (a5, .inl (cj5, 19, .inr (.inl st.2.2.2.2.1))), (a6, .inl (cj6, 19, .inr (.inl st.2.2.2.2.2)))]) := hD
    refine lv_iadd hx hb dM_multiply_52 ?_
    refine lv_istore_n (lv' := [(1, .int ((f_M_zeros st 16) + (f_M_zeros st 17))), (0, .ref h0)]) hx hb dM_multiply_53 rfl hl (by decide) rfl (fun ls hl => ?_)
    refine lv_aload_n hx hb dM_multiply_54 rfl (lv_at hl 1 rfl) ?_
    refine va_get (D := D) (ci := 4) (v := .ref a2) (C := RM) (T := TM) (N := 7) hx hb hts hi4 hown hK hP 0 rfl rfl 2 (by decide) hk0 (fun _ h9 => h9) rfl dM_multiply_55 ?_
    refine lv_bipush (v := 18) hx hb dM_multiply_58 (by decide) ?_
    refine lv_iload_n hx hb dM_multiply_60 rfl (lv_at hl 0 rfl) ?_
    refine lv_bipush (v := 63) hx hb dM_multiply_61 (by decide) ?_
    refine lv_icmp_le (tgt := 70) hx hb dM_multiply_63 (by decide) (fun c3 => ?_) (fun c3 => ?_)
    · refine lv_ldc2 (v := (-1)) hx hb hown hk1 dM_multiply_70 ?_
      refine lv_iload_n hx hb dM_multiply_73 rfl (lv_at hl 0 rfl) ?_
      refine lv_lshl (v := ((-1) : Int64) <<< (((f_M_zeros st 16) + (f_M_zeros st 17)).toInt64 &&& 63)) hx hb dM_multiply_74 rfl ?_
      refine va_last hx hb hK hP hD hS 2 1 rfl rfl (vp_in_iff.mpr (by decide)) dM_multiply_75 (fun H locs hP hD hS => ?_)
      have hP : va_P D vwCl ([(h0, .inr (4, [.int th, .ref a1, .ref a2, .ref a3, .ref a4, .ref a5, .ref a6])), (a1, .inl (cj1, 19, .inr (.inl st.1))), (a2, .inl (cj2, 19, .inr (.inl (vp_updL st.2.1 (18 : Int32).toNatClampNeg (((-1) : Int64) <<< (((f_M_zeros st 16) + (f_M_zeros st 17)).toInt64 &&& 63)))))), (a3, .inl (cj3, 19, .inr (.inl st.2.2.1))), (a4, .inl (cj4, 19, .inr (.inl st.2.2.2.1))), (a5, .inl (cj5, 19, .inr (.inl st.2.2.2.2.1))), (a6, .inl (cj6, 19, .inr (.inl st.2.2.2.2.2)))]) H := hP
      have hD : va_D A ([(h0, .inr (4, [.int th, .ref a1, .ref a2, .ref a3, .ref a4, .ref a5, .ref a6])), (a1, .inl (cj1, 19, .inr (.inl st.1))), (a2, .inl (cj2, 19, .inr (.inl (vp_updL st.2.1 (18 : Int32).toNatClampNeg (((-1) : Int64) <<< (((f_M_zeros st 16) + (f_M_zeros st 17)).toInt64 &&& 63)))))), (a3, .inl (cj3, 19, .inr (.inl st.2.2.1))), (a4, .inl (cj4, 19, .inr (.inl st.2.2.2.1))), (a5, .inl (cj5, 19, .inr (.inl st.2.2.2.2.1))), (a6, .inl (cj6, 19, .inr (.inl st.2.2.2.2.2)))]) := hD
      refine lv_ldc2 (v := 4294967295) hx hb hown hk2 dM_multiply_76 ?_
      refine lv_aload_n hx hb dM_multiply_79 rfl (lv_at hl 1 rfl) ?_
      refine va_get (D := D) (ci := 4) (v := .ref a4) (C := RM) (T := TM) (N := 7) hx hb hts hi4 hown hK hP 0 rfl rfl 4 (by decide) hk3 (fun _ h9 => h9) rfl dM_multiply_80 ?_
      refine lv_bipush (v := 16) hx hb dM_multiply_83 (by decide) ?_
      refine va_lald hx hb hK hP 4 3 rfl rfl (vp_in_iff.mpr (by decide)) dM_multiply_85 ?_
      refine sp_callz (sp_runS (As := [.long 4294967295, .long (st.2.2.2.1 (16 : Int32).toNatClampNeg)]) (rest := []) C (c_M_below l D 4294967295 (st.2.2.2.1 (16 : Int32).toNatClampNeg)) (va_cwS 2 hts (gS wG_c wm_376 wm_377 wm_378 wm_375) rfl rfl rfl (by decide +kernel) ⟨Nat.le_of_ble_eq_true rfl, Nat.le_of_ble_eq_true rfl⟩) hK hP hD [] (by decide) rfl [] rfl rfl hl.1 rfl (Nat.le_of_ble_eq_true rfl) dM_multiply_86 ⟨Nat.le_of_ble_eq_true rfl, Nat.le_of_ble_eq_true rfl⟩) hP hD hS hA [] rfl sp_f0 (fun H locs z4 hP hD hS => ?_)
      have hP : va_P D vwCl ([(h0, .inr (4, [.int th, .ref a1, .ref a2, .ref a3, .ref a4, .ref a5, .ref a6])), (a1, .inl (cj1, 19, .inr (.inl st.1))), (a2, .inl (cj2, 19, .inr (.inl (vp_updL st.2.1 (18 : Int32).toNatClampNeg (((-1) : Int64) <<< (((f_M_zeros st 16) + (f_M_zeros st 17)).toInt64 &&& 63)))))), (a3, .inl (cj3, 19, .inr (.inl st.2.2.1))), (a4, .inl (cj4, 19, .inr (.inl st.2.2.2.1))), (a5, .inl (cj5, 19, .inr (.inl st.2.2.2.2.1))), (a6, .inl (cj6, 19, .inr (.inl st.2.2.2.2.2)))]) H := hP
      have hD : va_D A ([(h0, .inr (4, [.int th, .ref a1, .ref a2, .ref a3, .ref a4, .ref a5, .ref a6])), (a1, .inl (cj1, 19, .inr (.inl st.1))), (a2, .inl (cj2, 19, .inr (.inl (vp_updL st.2.1 (18 : Int32).toNatClampNeg (((-1) : Int64) <<< (((f_M_zeros st 16) + (f_M_zeros st 17)).toInt64 &&& 63)))))), (a3, .inl (cj3, 19, .inr (.inl st.2.2.1))), (a4, .inl (cj4, 19, .inr (.inl st.2.2.2.1))), (a5, .inl (cj5, 19, .inr (.inl st.2.2.2.2.1))), (a6, .inl (cj6, 19, .inr (.inl st.2.2.2.2.2)))]) := hD
      refine lv_if_ne (tgt := 152) hx hb dM_multiply_89 (by decide) (fun c5 => ?_) (fun c5 => ?_)
      · have e9 : f_M_multiply st = (st.1, vp_updL st.2.1 (18 : Int32).toNatClampNeg (((-1) : Int64) <<< (((f_M_zeros st 16) + (f_M_zeros st 17)).toInt64 &&& 63)), st.2.2.1, st.2.2.2.1, st.2.2.2.2.1, st.2.2.2.2.2) := (if_pos c2).trans ((if_pos c3).trans ((if_neg c5).trans (rfl)))
        rw [e9]
        exact sp_vret C hAe hP hK hD hS dM_multiply_152
      · refine lv_ldc2 (v := 4294967295) hx hb hown hk2 dM_multiply_92 ?_
        refine lv_aload_n hx hb dM_multiply_95 rfl (lv_at hl 1 rfl) ?_
        refine va_get (D := D) (ci := 4) (v := .ref a4) (C := RM) (T := TM) (N := 7) hx hb hts hi4 hown hK hP 0 rfl rfl 4 (by decide) hk3 (fun _ h9 => h9) rfl dM_multiply_96 ?_
        refine lv_bipush (v := 17) hx hb dM_multiply_99 (by decide) ?_
        refine va_lald hx hb hK hP 4 3 rfl rfl (vp_in_iff.mpr (by decide)) dM_multiply_101 ?_
        refine sp_callz (sp_runS (As := [.long 4294967295, .long (st.2.2.2.1 (17 : Int32).toNatClampNeg)]) (rest := []) C (c_M_below l D 4294967295 (st.2.2.2.1 (17 : Int32).toNatClampNeg)) (va_cwS 2 hts (gS wG_c wm_376 wm_377 wm_378 wm_375) rfl rfl rfl (by decide +kernel) ⟨Nat.le_of_ble_eq_true rfl, Nat.le_of_ble_eq_true rfl⟩) hK hP hD [] (by decide) rfl [] rfl rfl hl.1 rfl (Nat.le_of_ble_eq_true rfl) dM_multiply_102 ⟨Nat.le_of_ble_eq_true rfl, Nat.le_of_ble_eq_true rfl⟩) hP hD hS hA [] rfl sp_f0 (fun H locs z6 hP hD hS => ?_)
        have hP : va_P D vwCl ([(h0, .inr (4, [.int th, .ref a1, .ref a2, .ref a3, .ref a4, .ref a5, .ref a6])), (a1, .inl (cj1, 19, .inr (.inl st.1))), (a2, .inl (cj2, 19, .inr (.inl (vp_updL st.2.1 (18 : Int32).toNatClampNeg (((-1) : Int64) <<< (((f_M_zeros st 16) + (f_M_zeros st 17)).toInt64 &&& 63)))))), (a3, .inl (cj3, 19, .inr (.inl st.2.2.1))), (a4, .inl (cj4, 19, .inr (.inl st.2.2.2.1))), (a5, .inl (cj5, 19, .inr (.inl st.2.2.2.2.1))), (a6, .inl (cj6, 19, .inr (.inl st.2.2.2.2.2)))]) H := hP
        have hD : va_D A ([(h0, .inr (4, [.int th, .ref a1, .ref a2, .ref a3, .ref a4, .ref a5, .ref a6])), (a1, .inl (cj1, 19, .inr (.inl st.1))), (a2, .inl (cj2, 19, .inr (.inl (vp_updL st.2.1 (18 : Int32).toNatClampNeg (((-1) : Int64) <<< (((f_M_zeros st 16) + (f_M_zeros st 17)).toInt64 &&& 63)))))), (a3, .inl (cj3, 19, .inr (.inl st.2.2.1))), (a4, .inl (cj4, 19, .inr (.inl st.2.2.2.1))), (a5, .inl (cj5, 19, .inr (.inl st.2.2.2.2.1))), (a6, .inl (cj6, 19, .inr (.inl st.2.2.2.2.2)))]) := hD
        refine lv_if_ne (tgt := 152) hx hb dM_multiply_105 (by decide) (fun c7 => ?_) (fun c7 => ?_)
        · have e9 : f_M_multiply st = (st.1, vp_updL st.2.1 (18 : Int32).toNatClampNeg (((-1) : Int64) <<< (((f_M_zeros st 16) + (f_M_zeros st 17)).toInt64 &&& 63)), st.2.2.1, st.2.2.2.1, st.2.2.2.2.1, st.2.2.2.2.2) := (if_pos c2).trans ((if_pos c3).trans ((if_pos c5).trans ((if_neg c7).trans (rfl))))
          rw [e9]
          exact sp_vret C hAe hP hK hD hS dM_multiply_152
        · refine lv_aload_n hx hb dM_multiply_108 rfl (lv_at hl 1 rfl) ?_
          refine va_get (D := D) (ci := 4) (v := .ref a3) (C := RM) (T := TM) (N := 7) hx hb hts hi4 hown hK hP 0 rfl rfl 3 (by decide) hk4 (fun _ h9 => h9) rfl dM_multiply_109 ?_
          refine lv_bipush (v := 18) hx hb dM_multiply_112 (by decide) ?_
          refine lv_aload_n hx hb dM_multiply_114 rfl (lv_at hl 1 rfl) ?_
          refine va_get (D := D) (ci := 4) (v := .ref a3) (C := RM) (T := TM) (N := 7) hx hb hts hi4 hown hK hP 0 rfl rfl 3 (by decide) hk4 (fun _ h9 => h9) rfl dM_multiply_115 ?_
          refine lv_bipush (v := 16) hx hb dM_multiply_118 (by decide) ?_
          refine va_lald hx hb hK hP 3 2 rfl rfl (vp_in_iff.mpr (by decide)) dM_multiply_120 ?_
          refine lv_aload_n hx hb dM_multiply_121 rfl (lv_at hl 1 rfl) ?_
          refine va_get (D := D) (ci := 4) (v := .ref a3) (C := RM) (T := TM) (N := 7) hx hb hts hi4 hown hK hP 0 rfl rfl 3 (by decide) hk4 (fun _ h9 => h9) rfl dM_multiply_122 ?_
          refine lv_bipush (v := 17) hx hb dM_multiply_125 (by decide) ?_
          refine va_lald hx hb hK hP 3 2 rfl rfl (vp_in_iff.mpr (by decide)) dM_multiply_127 ?_
          refine lv_lmul hx hb dM_multiply_128 ?_
          refine va_last hx hb hK hP hD hS 3 2 rfl rfl (vp_in_iff.mpr (by decide)) dM_multiply_129 (fun H locs hP hD hS => ?_)
          have hP : va_P D vwCl ([(h0, .inr (4, [.int th, .ref a1, .ref a2, .ref a3, .ref a4, .ref a5, .ref a6])), (a1, .inl (cj1, 19, .inr (.inl st.1))), (a2, .inl (cj2, 19, .inr (.inl (vp_updL st.2.1 (18 : Int32).toNatClampNeg (((-1) : Int64) <<< (((f_M_zeros st 16) + (f_M_zeros st 17)).toInt64 &&& 63)))))), (a3, .inl (cj3, 19, .inr (.inl (vp_updL st.2.2.1 (18 : Int32).toNatClampNeg ((st.2.2.1 (16 : Int32).toNatClampNeg) * (st.2.2.1 (17 : Int32).toNatClampNeg)))))), (a4, .inl (cj4, 19, .inr (.inl st.2.2.2.1))), (a5, .inl (cj5, 19, .inr (.inl st.2.2.2.2.1))), (a6, .inl (cj6, 19, .inr (.inl st.2.2.2.2.2)))]) H := hP
          have hD : va_D A ([(h0, .inr (4, [.int th, .ref a1, .ref a2, .ref a3, .ref a4, .ref a5, .ref a6])), (a1, .inl (cj1, 19, .inr (.inl st.1))), (a2, .inl (cj2, 19, .inr (.inl (vp_updL st.2.1 (18 : Int32).toNatClampNeg (((-1) : Int64) <<< (((f_M_zeros st 16) + (f_M_zeros st 17)).toInt64 &&& 63)))))), (a3, .inl (cj3, 19, .inr (.inl (vp_updL st.2.2.1 (18 : Int32).toNatClampNeg ((st.2.2.1 (16 : Int32).toNatClampNeg) * (st.2.2.1 (17 : Int32).toNatClampNeg)))))), (a4, .inl (cj4, 19, .inr (.inl st.2.2.2.1))), (a5, .inl (cj5, 19, .inr (.inl st.2.2.2.2.1))), (a6, .inl (cj6, 19, .inr (.inl st.2.2.2.2.2)))]) := hD
          refine lv_aload_n hx hb dM_multiply_130 rfl (lv_at hl 1 rfl) ?_
          refine va_get (D := D) (ci := 4) (v := .ref a4) (C := RM) (T := TM) (N := 7) hx hb hts hi4 hown hK hP 0 rfl rfl 4 (by decide) hk3 (fun _ h9 => h9) rfl dM_multiply_131 ?_
          refine lv_bipush (v := 18) hx hb dM_multiply_134 (by decide) ?_
          refine lv_aload_n hx hb dM_multiply_136 rfl (lv_at hl 1 rfl) ?_
          refine va_get (D := D) (ci := 4) (v := .ref a4) (C := RM) (T := TM) (N := 7) hx hb hts hi4 hown hK hP 0 rfl rfl 4 (by decide) hk3 (fun _ h9 => h9) rfl dM_multiply_137 ?_
          refine lv_bipush (v := 16) hx hb dM_multiply_140 (by decide) ?_
          refine va_lald hx hb hK hP 4 3 rfl rfl (vp_in_iff.mpr (by decide)) dM_multiply_142 ?_
          refine lv_aload_n hx hb dM_multiply_143 rfl (lv_at hl 1 rfl) ?_
          refine va_get (D := D) (ci := 4) (v := .ref a4) (C := RM) (T := TM) (N := 7) hx hb hts hi4 hown hK hP 0 rfl rfl 4 (by decide) hk3 (fun _ h9 => h9) rfl dM_multiply_144 ?_
          refine lv_bipush (v := 17) hx hb dM_multiply_147 (by decide) ?_
          refine va_lald hx hb hK hP 4 3 rfl rfl (vp_in_iff.mpr (by decide)) dM_multiply_149 ?_
          refine lv_lmul hx hb dM_multiply_150 ?_
          refine va_last hx hb hK hP hD hS 4 3 rfl rfl (vp_in_iff.mpr (by decide)) dM_multiply_151 (fun H locs hP hD hS => ?_)
          have hP : va_P D vwCl ([(h0, .inr (4, [.int th, .ref a1, .ref a2, .ref a3, .ref a4, .ref a5, .ref a6])), (a1, .inl (cj1, 19, .inr (.inl st.1))), (a2, .inl (cj2, 19, .inr (.inl (vp_updL st.2.1 (18 : Int32).toNatClampNeg (((-1) : Int64) <<< (((f_M_zeros st 16) + (f_M_zeros st 17)).toInt64 &&& 63)))))), (a3, .inl (cj3, 19, .inr (.inl (vp_updL st.2.2.1 (18 : Int32).toNatClampNeg ((st.2.2.1 (16 : Int32).toNatClampNeg) * (st.2.2.1 (17 : Int32).toNatClampNeg)))))), (a4, .inl (cj4, 19, .inr (.inl (vp_updL st.2.2.2.1 (18 : Int32).toNatClampNeg ((st.2.2.2.1 (16 : Int32).toNatClampNeg) * (st.2.2.2.1 (17 : Int32).toNatClampNeg)))))), (a5, .inl (cj5, 19, .inr (.inl st.2.2.2.2.1))), (a6, .inl (cj6, 19, .inr (.inl st.2.2.2.2.2)))]) H := hP
          have hD : va_D A ([(h0, .inr (4, [.int th, .ref a1, .ref a2, .ref a3, .ref a4, .ref a5, .ref a6])), (a1, .inl (cj1, 19, .inr (.inl st.1))), (a2, .inl (cj2, 19, .inr (.inl (vp_updL st.2.1 (18 : Int32).toNatClampNeg (((-1) : Int64) <<< (((f_M_zeros st 16) + (f_M_zeros st 17)).toInt64 &&& 63)))))), (a3, .inl (cj3, 19, .inr (.inl (vp_updL st.2.2.1 (18 : Int32).toNatClampNeg ((st.2.2.1 (16 : Int32).toNatClampNeg) * (st.2.2.1 (17 : Int32).toNatClampNeg)))))), (a4, .inl (cj4, 19, .inr (.inl (vp_updL st.2.2.2.1 (18 : Int32).toNatClampNeg ((st.2.2.2.1 (16 : Int32).toNatClampNeg) * (st.2.2.2.1 (17 : Int32).toNatClampNeg)))))), (a5, .inl (cj5, 19, .inr (.inl st.2.2.2.2.1))), (a6, .inl (cj6, 19, .inr (.inl st.2.2.2.2.2)))]) := hD
          have e9 : f_M_multiply st = (st.1, vp_updL st.2.1 (18 : Int32).toNatClampNeg (((-1) : Int64) <<< (((f_M_zeros st 16) + (f_M_zeros st 17)).toInt64 &&& 63)), vp_updL st.2.2.1 (18 : Int32).toNatClampNeg ((st.2.2.1 (16 : Int32).toNatClampNeg) * (st.2.2.1 (17 : Int32).toNatClampNeg)), vp_updL st.2.2.2.1 (18 : Int32).toNatClampNeg ((st.2.2.2.1 (16 : Int32).toNatClampNeg) * (st.2.2.2.1 (17 : Int32).toNatClampNeg)), st.2.2.2.2.1, st.2.2.2.2.2) := (if_pos c2).trans ((if_pos c3).trans ((if_pos c5).trans ((if_pos c7).trans (rfl))))
          rw [e9]
          exact sp_vret C hAe hP hK hD hS dM_multiply_152
    · refine lv_lconst (v := 0) hx hb dM_multiply_66 (by decide) ?_
      refine lv_goto (tgt := 75) hx hb dM_multiply_67 (by decide) ?_
      refine va_last hx hb hK hP hD hS 2 1 rfl rfl (vp_in_iff.mpr (by decide)) dM_multiply_75 (fun H locs hP hD hS => ?_)
      have hP : va_P D vwCl ([(h0, .inr (4, [.int th, .ref a1, .ref a2, .ref a3, .ref a4, .ref a5, .ref a6])), (a1, .inl (cj1, 19, .inr (.inl st.1))), (a2, .inl (cj2, 19, .inr (.inl (vp_updL st.2.1 (18 : Int32).toNatClampNeg 0)))), (a3, .inl (cj3, 19, .inr (.inl st.2.2.1))), (a4, .inl (cj4, 19, .inr (.inl st.2.2.2.1))), (a5, .inl (cj5, 19, .inr (.inl st.2.2.2.2.1))), (a6, .inl (cj6, 19, .inr (.inl st.2.2.2.2.2)))]) H := hP
      have hD : va_D A ([(h0, .inr (4, [.int th, .ref a1, .ref a2, .ref a3, .ref a4, .ref a5, .ref a6])), (a1, .inl (cj1, 19, .inr (.inl st.1))), (a2, .inl (cj2, 19, .inr (.inl (vp_updL st.2.1 (18 : Int32).toNatClampNeg 0)))), (a3, .inl (cj3, 19, .inr (.inl st.2.2.1))), (a4, .inl (cj4, 19, .inr (.inl st.2.2.2.1))), (a5, .inl (cj5, 19, .inr (.inl st.2.2.2.2.1))), (a6, .inl (cj6, 19, .inr (.inl st.2.2.2.2.2)))]) := hD
      refine lv_ldc2 (v := 4294967295) hx hb hown hk2 dM_multiply_76 ?_
      refine lv_aload_n hx hb dM_multiply_79 rfl (lv_at hl 1 rfl) ?_
      refine va_get (D := D) (ci := 4) (v := .ref a4) (C := RM) (T := TM) (N := 7) hx hb hts hi4 hown hK hP 0 rfl rfl 4 (by decide) hk3 (fun _ h9 => h9) rfl dM_multiply_80 ?_
      refine lv_bipush (v := 16) hx hb dM_multiply_83 (by decide) ?_
      refine va_lald hx hb hK hP 4 3 rfl rfl (vp_in_iff.mpr (by decide)) dM_multiply_85 ?_
      refine sp_callz (sp_runS (As := [.long 4294967295, .long (st.2.2.2.1 (16 : Int32).toNatClampNeg)]) (rest := []) C (c_M_below l D 4294967295 (st.2.2.2.1 (16 : Int32).toNatClampNeg)) (va_cwS 2 hts (gS wG_c wm_376 wm_377 wm_378 wm_375) rfl rfl rfl (by decide +kernel) ⟨Nat.le_of_ble_eq_true rfl, Nat.le_of_ble_eq_true rfl⟩) hK hP hD [] (by decide) rfl [] rfl rfl hl.1 rfl (Nat.le_of_ble_eq_true rfl) dM_multiply_86 ⟨Nat.le_of_ble_eq_true rfl, Nat.le_of_ble_eq_true rfl⟩) hP hD hS hA [] rfl sp_f0 (fun H locs z8 hP hD hS => ?_)
      have hP : va_P D vwCl ([(h0, .inr (4, [.int th, .ref a1, .ref a2, .ref a3, .ref a4, .ref a5, .ref a6])), (a1, .inl (cj1, 19, .inr (.inl st.1))), (a2, .inl (cj2, 19, .inr (.inl (vp_updL st.2.1 (18 : Int32).toNatClampNeg 0)))), (a3, .inl (cj3, 19, .inr (.inl st.2.2.1))), (a4, .inl (cj4, 19, .inr (.inl st.2.2.2.1))), (a5, .inl (cj5, 19, .inr (.inl st.2.2.2.2.1))), (a6, .inl (cj6, 19, .inr (.inl st.2.2.2.2.2)))]) H := hP
      have hD : va_D A ([(h0, .inr (4, [.int th, .ref a1, .ref a2, .ref a3, .ref a4, .ref a5, .ref a6])), (a1, .inl (cj1, 19, .inr (.inl st.1))), (a2, .inl (cj2, 19, .inr (.inl (vp_updL st.2.1 (18 : Int32).toNatClampNeg 0)))), (a3, .inl (cj3, 19, .inr (.inl st.2.2.1))), (a4, .inl (cj4, 19, .inr (.inl st.2.2.2.1))), (a5, .inl (cj5, 19, .inr (.inl st.2.2.2.2.1))), (a6, .inl (cj6, 19, .inr (.inl st.2.2.2.2.2)))]) := hD
      refine lv_if_ne (tgt := 152) hx hb dM_multiply_89 (by decide) (fun c9 => ?_) (fun c9 => ?_)
      · have e9 : f_M_multiply st = (st.1, vp_updL st.2.1 (18 : Int32).toNatClampNeg 0, st.2.2.1, st.2.2.2.1, st.2.2.2.2.1, st.2.2.2.2.2) := (if_pos c2).trans ((if_neg c3).trans ((if_neg c9).trans (rfl)))
        rw [e9]
        exact sp_vret C hAe hP hK hD hS dM_multiply_152
      · refine lv_ldc2 (v := 4294967295) hx hb hown hk2 dM_multiply_92 ?_
        refine lv_aload_n hx hb dM_multiply_95 rfl (lv_at hl 1 rfl) ?_
        refine va_get (D := D) (ci := 4) (v := .ref a4) (C := RM) (T := TM) (N := 7) hx hb hts hi4 hown hK hP 0 rfl rfl 4 (by decide) hk3 (fun _ h9 => h9) rfl dM_multiply_96 ?_
        refine lv_bipush (v := 17) hx hb dM_multiply_99 (by decide) ?_
        refine va_lald hx hb hK hP 4 3 rfl rfl (vp_in_iff.mpr (by decide)) dM_multiply_101 ?_
        refine sp_callz (sp_runS (As := [.long 4294967295, .long (st.2.2.2.1 (17 : Int32).toNatClampNeg)]) (rest := []) C (c_M_below l D 4294967295 (st.2.2.2.1 (17 : Int32).toNatClampNeg)) (va_cwS 2 hts (gS wG_c wm_376 wm_377 wm_378 wm_375) rfl rfl rfl (by decide +kernel) ⟨Nat.le_of_ble_eq_true rfl, Nat.le_of_ble_eq_true rfl⟩) hK hP hD [] (by decide) rfl [] rfl rfl hl.1 rfl (Nat.le_of_ble_eq_true rfl) dM_multiply_102 ⟨Nat.le_of_ble_eq_true rfl, Nat.le_of_ble_eq_true rfl⟩) hP hD hS hA [] rfl sp_f0 (fun H locs z10 hP hD hS => ?_)
        have hP : va_P D vwCl ([(h0, .inr (4, [.int th, .ref a1, .ref a2, .ref a3, .ref a4, .ref a5, .ref a6])), (a1, .inl (cj1, 19, .inr (.inl st.1))), (a2, .inl (cj2, 19, .inr (.inl (vp_updL st.2.1 (18 : Int32).toNatClampNeg 0)))), (a3, .inl (cj3, 19, .inr (.inl st.2.2.1))), (a4, .inl (cj4, 19, .inr (.inl st.2.2.2.1))), (a5, .inl (cj5, 19, .inr (.inl st.2.2.2.2.1))), (a6, .inl (cj6, 19, .inr (.inl st.2.2.2.2.2)))]) H := hP
        have hD : va_D A ([(h0, .inr (4, [.int th, .ref a1, .ref a2, .ref a3, .ref a4, .ref a5, .ref a6])), (a1, .inl (cj1, 19, .inr (.inl st.1))), (a2, .inl (cj2, 19, .inr (.inl (vp_updL st.2.1 (18 : Int32).toNatClampNeg 0)))), (a3, .inl (cj3, 19, .inr (.inl st.2.2.1))), (a4, .inl (cj4, 19, .inr (.inl st.2.2.2.1))), (a5, .inl (cj5, 19, .inr (.inl st.2.2.2.2.1))), (a6, .inl (cj6, 19, .inr (.inl st.2.2.2.2.2)))]) := hD
        refine lv_if_ne (tgt := 152) hx hb dM_multiply_105 (by decide) (fun c11 => ?_) (fun c11 => ?_)
        · have e9 : f_M_multiply st = (st.1, vp_updL st.2.1 (18 : Int32).toNatClampNeg 0, st.2.2.1, st.2.2.2.1, st.2.2.2.2.1, st.2.2.2.2.2) := (if_pos c2).trans ((if_neg c3).trans ((if_pos c9).trans ((if_neg c11).trans (rfl))))
          rw [e9]
          exact sp_vret C hAe hP hK hD hS dM_multiply_152
        · refine lv_aload_n hx hb dM_multiply_108 rfl (lv_at hl 1 rfl) ?_
          refine va_get (D := D) (ci := 4) (v := .ref a3) (C := RM) (T := TM) (N := 7) hx hb hts hi4 hown hK hP 0 rfl rfl 3 (by decide) hk4 (fun _ h9 => h9) rfl dM_multiply_109 ?_
          refine lv_bipush (v := 18) hx hb dM_multiply_112 (by decide) ?_
          refine lv_aload_n hx hb dM_multiply_114 rfl (lv_at hl 1 rfl) ?_
          refine va_get (D := D) (ci := 4) (v := .ref a3) (C := RM) (T := TM) (N := 7) hx hb hts hi4 hown hK hP 0 rfl rfl 3 (by decide) hk4 (fun _ h9 => h9) rfl dM_multiply_115 ?_
          refine lv_bipush (v := 16) hx hb dM_multiply_118 (by decide) ?_
          refine va_lald hx hb hK hP 3 2 rfl rfl (vp_in_iff.mpr (by decide)) dM_multiply_120 ?_
          refine lv_aload_n hx hb dM_multiply_121 rfl (lv_at hl 1 rfl) ?_
          refine va_get (D := D) (ci := 4) (v := .ref a3) (C := RM) (T := TM) (N := 7) hx hb hts hi4 hown hK hP 0 rfl rfl 3 (by decide) hk4 (fun _ h9 => h9) rfl dM_multiply_122 ?_
          refine lv_bipush (v := 17) hx hb dM_multiply_125 (by decide) ?_
          refine va_lald hx hb hK hP 3 2 rfl rfl (vp_in_iff.mpr (by decide)) dM_multiply_127 ?_
          refine lv_lmul hx hb dM_multiply_128 ?_
          refine va_last hx hb hK hP hD hS 3 2 rfl rfl (vp_in_iff.mpr (by decide)) dM_multiply_129 (fun H locs hP hD hS => ?_)
          have hP : va_P D vwCl ([(h0, .inr (4, [.int th, .ref a1, .ref a2, .ref a3, .ref a4, .ref a5, .ref a6])), (a1, .inl (cj1, 19, .inr (.inl st.1))), (a2, .inl (cj2, 19, .inr (.inl (vp_updL st.2.1 (18 : Int32).toNatClampNeg 0)))), (a3, .inl (cj3, 19, .inr (.inl (vp_updL st.2.2.1 (18 : Int32).toNatClampNeg ((st.2.2.1 (16 : Int32).toNatClampNeg) * (st.2.2.1 (17 : Int32).toNatClampNeg)))))), (a4, .inl (cj4, 19, .inr (.inl st.2.2.2.1))), (a5, .inl (cj5, 19, .inr (.inl st.2.2.2.2.1))), (a6, .inl (cj6, 19, .inr (.inl st.2.2.2.2.2)))]) H := hP
          have hD : va_D A ([(h0, .inr (4, [.int th, .ref a1, .ref a2, .ref a3, .ref a4, .ref a5, .ref a6])), (a1, .inl (cj1, 19, .inr (.inl st.1))), (a2, .inl (cj2, 19, .inr (.inl (vp_updL st.2.1 (18 : Int32).toNatClampNeg 0)))), (a3, .inl (cj3, 19, .inr (.inl (vp_updL st.2.2.1 (18 : Int32).toNatClampNeg ((st.2.2.1 (16 : Int32).toNatClampNeg) * (st.2.2.1 (17 : Int32).toNatClampNeg)))))), (a4, .inl (cj4, 19, .inr (.inl st.2.2.2.1))), (a5, .inl (cj5, 19, .inr (.inl st.2.2.2.2.1))), (a6, .inl (cj6, 19, .inr (.inl st.2.2.2.2.2)))]) := hD
          refine lv_aload_n hx hb dM_multiply_130 rfl (lv_at hl 1 rfl) ?_
          refine va_get (D := D) (ci := 4) (v := .ref a4) (C := RM) (T := TM) (N := 7) hx hb hts hi4 hown hK hP 0 rfl rfl 4 (by decide) hk3 (fun _ h9 => h9) rfl dM_multiply_131 ?_
          refine lv_bipush (v := 18) hx hb dM_multiply_134 (by decide) ?_
          refine lv_aload_n hx hb dM_multiply_136 rfl (lv_at hl 1 rfl) ?_
          refine va_get (D := D) (ci := 4) (v := .ref a4) (C := RM) (T := TM) (N := 7) hx hb hts hi4 hown hK hP 0 rfl rfl 4 (by decide) hk3 (fun _ h9 => h9) rfl dM_multiply_137 ?_
          refine lv_bipush (v := 16) hx hb dM_multiply_140 (by decide) ?_
          refine va_lald hx hb hK hP 4 3 rfl rfl (vp_in_iff.mpr (by decide)) dM_multiply_142 ?_
          refine lv_aload_n hx hb dM_multiply_143 rfl (lv_at hl 1 rfl) ?_
          refine va_get (D := D) (ci := 4) (v := .ref a4) (C := RM) (T := TM) (N := 7) hx hb hts hi4 hown hK hP 0 rfl rfl 4 (by decide) hk3 (fun _ h9 => h9) rfl dM_multiply_144 ?_
          refine lv_bipush (v := 17) hx hb dM_multiply_147 (by decide) ?_
          refine va_lald hx hb hK hP 4 3 rfl rfl (vp_in_iff.mpr (by decide)) dM_multiply_149 ?_
          refine lv_lmul hx hb dM_multiply_150 ?_
          refine va_last hx hb hK hP hD hS 4 3 rfl rfl (vp_in_iff.mpr (by decide)) dM_multiply_151 (fun H locs hP hD hS => ?_)
          have hP : va_P D vwCl ([(h0, .inr (4, [.int th, .ref a1, .ref a2, .ref a3, .ref a4, .ref a5, .ref a6])), (a1, .inl (cj1, 19, .inr (.inl st.1))), (a2, .inl (cj2, 19, .inr (.inl (vp_updL st.2.1 (18 : Int32).toNatClampNeg 0)))), (a3, .inl (cj3, 19, .inr (.inl (vp_updL st.2.2.1 (18 : Int32).toNatClampNeg ((st.2.2.1 (16 : Int32).toNatClampNeg) * (st.2.2.1 (17 : Int32).toNatClampNeg)))))), (a4, .inl (cj4, 19, .inr (.inl (vp_updL st.2.2.2.1 (18 : Int32).toNatClampNeg ((st.2.2.2.1 (16 : Int32).toNatClampNeg) * (st.2.2.2.1 (17 : Int32).toNatClampNeg)))))), (a5, .inl (cj5, 19, .inr (.inl st.2.2.2.2.1))), (a6, .inl (cj6, 19, .inr (.inl st.2.2.2.2.2)))]) H := hP
          have hD : va_D A ([(h0, .inr (4, [.int th, .ref a1, .ref a2, .ref a3, .ref a4, .ref a5, .ref a6])), (a1, .inl (cj1, 19, .inr (.inl st.1))), (a2, .inl (cj2, 19, .inr (.inl (vp_updL st.2.1 (18 : Int32).toNatClampNeg 0)))), (a3, .inl (cj3, 19, .inr (.inl (vp_updL st.2.2.1 (18 : Int32).toNatClampNeg ((st.2.2.1 (16 : Int32).toNatClampNeg) * (st.2.2.1 (17 : Int32).toNatClampNeg)))))), (a4, .inl (cj4, 19, .inr (.inl (vp_updL st.2.2.2.1 (18 : Int32).toNatClampNeg ((st.2.2.2.1 (16 : Int32).toNatClampNeg) * (st.2.2.2.1 (17 : Int32).toNatClampNeg)))))), (a5, .inl (cj5, 19, .inr (.inl st.2.2.2.2.1))), (a6, .inl (cj6, 19, .inr (.inl st.2.2.2.2.2)))]) := hD
          have e9 : f_M_multiply st = (st.1, vp_updL st.2.1 (18 : Int32).toNatClampNeg 0, vp_updL st.2.2.1 (18 : Int32).toNatClampNeg ((st.2.2.1 (16 : Int32).toNatClampNeg) * (st.2.2.1 (17 : Int32).toNatClampNeg)), vp_updL st.2.2.2.1 (18 : Int32).toNatClampNeg ((st.2.2.2.1 (16 : Int32).toNatClampNeg) * (st.2.2.2.1 (17 : Int32).toNatClampNeg)), st.2.2.2.2.1, st.2.2.2.2.2) := (if_pos c2).trans ((if_neg c3).trans ((if_pos c9).trans ((if_pos c11).trans (rfl))))
          rw [e9]
          exact sp_vret C hAe hP hK hD hS dM_multiply_152
  · refine lv_aload_n hx hb dM_multiply_9 rfl (lv_at hl 0 rfl) ?_
    refine lv_bipush (v := 17) hx hb dM_multiply_10 (by decide) ?_
    refine sp_callz (sp_runV (As := [.int 17]) (rest := []) C (c_M_isExact l D h0 a1 a2 a3 a4 a5 a6 cj1 cj2 cj3 cj4 cj5 cj6 th st 17 (vp_in_iff.mpr (by decide))) (cwV 1 hts (gV wG_c wm_419 wm_420 wm_421 wm_378 wm_418) rfl rfl rfl (by decide +kernel) ⟨Nat.le_of_ble_eq_true rfl, Nat.le_of_ble_eq_true rfl⟩) hK hP hD [0, 1, 2, 3, 4, 5, 6] (by decide) rfl [0, 1, 2, 3, 4, 5] rfl 0 4 rfl rfl rfl rfl hl.1 rfl (Nat.le_of_ble_eq_true rfl) dM_multiply_12 ⟨Nat.le_of_ble_eq_true rfl, Nat.le_of_ble_eq_true rfl⟩) hP hD hS hA [0, 1, 2, 3, 4, 5, 6] rfl (sp_fc (sp_fc (sp_fc (sp_fc (sp_fc (sp_fc (sp_fc sp_f0))))))) (fun H locs z12 hP hD hS => ?_)
    have hP : va_P D vwCl ([(h0, .inr (4, [.int th, .ref a1, .ref a2, .ref a3, .ref a4, .ref a5, .ref a6])), (a1, .inl (cj1, 19, .inr (.inl st.1))), (a2, .inl (cj2, 19, .inr (.inl st.2.1))), (a3, .inl (cj3, 19, .inr (.inl st.2.2.1))), (a4, .inl (cj4, 19, .inr (.inl st.2.2.2.1))), (a5, .inl (cj5, 19, .inr (.inl st.2.2.2.2.1))), (a6, .inl (cj6, 19, .inr (.inl st.2.2.2.2.2)))]) H := hP
    have hD : va_D A ([(h0, .inr (4, [.int th, .ref a1, .ref a2, .ref a3, .ref a4, .ref a5, .ref a6])), (a1, .inl (cj1, 19, .inr (.inl st.1))), (a2, .inl (cj2, 19, .inr (.inl st.2.1))), (a3, .inl (cj3, 19, .inr (.inl st.2.2.1))), (a4, .inl (cj4, 19, .inr (.inl st.2.2.2.1))), (a5, .inl (cj5, 19, .inr (.inl st.2.2.2.2.1))), (a6, .inl (cj6, 19, .inr (.inl st.2.2.2.2.2)))]) := hD
    refine lv_if_eq (tgt := 40) hx hb dM_multiply_15 (by decide) (fun c13 => ?_) (fun c13 => ?_)
    · refine lv_aload_n hx hb dM_multiply_40 rfl (lv_at hl 0 rfl) ?_
      refine lv_bipush (v := 16) hx hb dM_multiply_41 (by decide) ?_
      refine sp_calli (sp_runV (As := [.int 16]) (rest := []) C (c_M_zeros l D h0 a1 a2 a3 a4 a5 a6 cj1 cj2 cj3 cj4 cj5 cj6 th st 16 (vp_in_iff.mpr (by decide))) (cwV 1 hts (gV wG_c wm_423 wm_424 wm_425 wm_378 wm_422) rfl rfl rfl (by decide +kernel) ⟨Nat.le_of_ble_eq_true rfl, Nat.le_of_ble_eq_true rfl⟩) hK hP hD [0, 1, 2, 3, 4, 5, 6] (by decide) rfl [0, 1, 2, 3, 4, 5] rfl 0 4 rfl rfl rfl rfl hl.1 rfl (Nat.le_of_ble_eq_true rfl) dM_multiply_43 ⟨Nat.le_of_ble_eq_true rfl, Nat.le_of_ble_eq_true rfl⟩) hP hD hS hA [0, 1, 2, 3, 4, 5, 6] rfl (sp_fc (sp_fc (sp_fc (sp_fc (sp_fc (sp_fc (sp_fc sp_f0))))))) (fun H locs hP hD hS => ?_)
      have hP : va_P D vwCl ([(h0, .inr (4, [.int th, .ref a1, .ref a2, .ref a3, .ref a4, .ref a5, .ref a6])), (a1, .inl (cj1, 19, .inr (.inl st.1))), (a2, .inl (cj2, 19, .inr (.inl st.2.1))), (a3, .inl (cj3, 19, .inr (.inl st.2.2.1))), (a4, .inl (cj4, 19, .inr (.inl st.2.2.2.1))), (a5, .inl (cj5, 19, .inr (.inl st.2.2.2.2.1))), (a6, .inl (cj6, 19, .inr (.inl st.2.2.2.2.2)))]) H := hP
      have hD : va_D A ([(h0, .inr (4, [.int th, .ref a1, .ref a2, .ref a3, .ref a4, .ref a5, .ref a6])), (a1, .inl (cj1, 19, .inr (.inl st.1))), (a2, .inl (cj2, 19, .inr (.inl st.2.1))), (a3, .inl (cj3, 19, .inr (.inl st.2.2.1))), (a4, .inl (cj4, 19, .inr (.inl st.2.2.2.1))), (a5, .inl (cj5, 19, .inr (.inl st.2.2.2.2.1))), (a6, .inl (cj6, 19, .inr (.inl st.2.2.2.2.2)))]) := hD
      refine lv_aload_n hx hb dM_multiply_46 rfl (lv_at hl 0 rfl) ?_
      refine lv_bipush (v := 17) hx hb dM_multiply_47 (by decide) ?_
      refine sp_calli (sp_runV (As := [.int 17]) (rest := [.int (f_M_zeros st 16)]) C (c_M_zeros l D h0 a1 a2 a3 a4 a5 a6 cj1 cj2 cj3 cj4 cj5 cj6 th st 17 (vp_in_iff.mpr (by decide))) (cwV 1 hts (gV wG_c wm_423 wm_424 wm_425 wm_378 wm_422) rfl rfl rfl (by decide +kernel) ⟨Nat.le_of_ble_eq_true rfl, Nat.le_of_ble_eq_true rfl⟩) hK hP hD [0, 1, 2, 3, 4, 5, 6] (by decide) rfl [0, 1, 2, 3, 4, 5] rfl 0 4 rfl rfl rfl rfl hl.1 rfl (Nat.le_of_ble_eq_true rfl) dM_multiply_49 ⟨Nat.le_of_ble_eq_true rfl, Nat.le_of_ble_eq_true rfl⟩) hP hD hS hA [0, 1, 2, 3, 4, 5, 6] rfl (sp_fc (sp_fc (sp_fc (sp_fc (sp_fc (sp_fc (sp_fc sp_f0))))))) (fun H locs hP hD hS => ?_)
      have hP : va_P D vwCl ([(h0, .inr (4, [.int th, .ref a1, .ref a2, .ref a3, .ref a4, .ref a5, .ref a6])), (a1, .inl (cj1, 19, .inr (.inl st.1))), (a2, .inl (cj2, 19, .inr (.inl st.2.1))), (a3, .inl (cj3, 19, .inr (.inl st.2.2.1))), (a4, .inl (cj4, 19, .inr (.inl st.2.2.2.1))), (a5, .inl (cj5, 19, .inr (.inl st.2.2.2.2.1))), (a6, .inl (cj6, 19, .inr (.inl st.2.2.2.2.2)))]) H := hP
      have hD : va_D A ([(h0, .inr (4, [.int th, .ref a1, .ref a2, .ref a3, .ref a4, .ref a5, .ref a6])), (a1, .inl (cj1, 19, .inr (.inl st.1))), (a2, .inl (cj2, 19, .inr (.inl st.2.1))), (a3, .inl (cj3, 19, .inr (.inl st.2.2.1))), (a4, .inl (cj4, 19, .inr (.inl st.2.2.2.1))), (a5, .inl (cj5, 19, .inr (.inl st.2.2.2.2.1))), (a6, .inl (cj6, 19, .inr (.inl st.2.2.2.2.2)))]) := hD
      refine lv_iadd hx hb dM_multiply_52 ?_
      refine lv_istore_n (lv' := [(1, .int ((f_M_zeros st 16) + (f_M_zeros st 17))), (0, .ref h0)]) hx hb dM_multiply_53 rfl hl (by decide) rfl (fun ls hl => ?_)
      refine lv_aload_n hx hb dM_multiply_54 rfl (lv_at hl 1 rfl) ?_
      refine va_get (D := D) (ci := 4) (v := .ref a2) (C := RM) (T := TM) (N := 7) hx hb hts hi4 hown hK hP 0 rfl rfl 2 (by decide) hk0 (fun _ h9 => h9) rfl dM_multiply_55 ?_
      refine lv_bipush (v := 18) hx hb dM_multiply_58 (by decide) ?_
      refine lv_iload_n hx hb dM_multiply_60 rfl (lv_at hl 0 rfl) ?_
      refine lv_bipush (v := 63) hx hb dM_multiply_61 (by decide) ?_
      refine lv_icmp_le (tgt := 70) hx hb dM_multiply_63 (by decide) (fun c14 => ?_) (fun c14 => ?_)
      · refine lv_ldc2 (v := (-1)) hx hb hown hk1 dM_multiply_70 ?_
        refine lv_iload_n hx hb dM_multiply_73 rfl (lv_at hl 0 rfl) ?_
        refine lv_lshl (v := ((-1) : Int64) <<< (((f_M_zeros st 16) + (f_M_zeros st 17)).toInt64 &&& 63)) hx hb dM_multiply_74 rfl ?_
        refine va_last hx hb hK hP hD hS 2 1 rfl rfl (vp_in_iff.mpr (by decide)) dM_multiply_75 (fun H locs hP hD hS => ?_)
        have hP : va_P D vwCl ([(h0, .inr (4, [.int th, .ref a1, .ref a2, .ref a3, .ref a4, .ref a5, .ref a6])), (a1, .inl (cj1, 19, .inr (.inl st.1))), (a2, .inl (cj2, 19, .inr (.inl (vp_updL st.2.1 (18 : Int32).toNatClampNeg (((-1) : Int64) <<< (((f_M_zeros st 16) + (f_M_zeros st 17)).toInt64 &&& 63)))))), (a3, .inl (cj3, 19, .inr (.inl st.2.2.1))), (a4, .inl (cj4, 19, .inr (.inl st.2.2.2.1))), (a5, .inl (cj5, 19, .inr (.inl st.2.2.2.2.1))), (a6, .inl (cj6, 19, .inr (.inl st.2.2.2.2.2)))]) H := hP
        have hD : va_D A ([(h0, .inr (4, [.int th, .ref a1, .ref a2, .ref a3, .ref a4, .ref a5, .ref a6])), (a1, .inl (cj1, 19, .inr (.inl st.1))), (a2, .inl (cj2, 19, .inr (.inl (vp_updL st.2.1 (18 : Int32).toNatClampNeg (((-1) : Int64) <<< (((f_M_zeros st 16) + (f_M_zeros st 17)).toInt64 &&& 63)))))), (a3, .inl (cj3, 19, .inr (.inl st.2.2.1))), (a4, .inl (cj4, 19, .inr (.inl st.2.2.2.1))), (a5, .inl (cj5, 19, .inr (.inl st.2.2.2.2.1))), (a6, .inl (cj6, 19, .inr (.inl st.2.2.2.2.2)))]) := hD
        refine lv_ldc2 (v := 4294967295) hx hb hown hk2 dM_multiply_76 ?_
        refine lv_aload_n hx hb dM_multiply_79 rfl (lv_at hl 1 rfl) ?_
        refine va_get (D := D) (ci := 4) (v := .ref a4) (C := RM) (T := TM) (N := 7) hx hb hts hi4 hown hK hP 0 rfl rfl 4 (by decide) hk3 (fun _ h9 => h9) rfl dM_multiply_80 ?_
        refine lv_bipush (v := 16) hx hb dM_multiply_83 (by decide) ?_
        refine va_lald hx hb hK hP 4 3 rfl rfl (vp_in_iff.mpr (by decide)) dM_multiply_85 ?_
        refine sp_callz (sp_runS (As := [.long 4294967295, .long (st.2.2.2.1 (16 : Int32).toNatClampNeg)]) (rest := []) C (c_M_below l D 4294967295 (st.2.2.2.1 (16 : Int32).toNatClampNeg)) (va_cwS 2 hts (gS wG_c wm_376 wm_377 wm_378 wm_375) rfl rfl rfl (by decide +kernel) ⟨Nat.le_of_ble_eq_true rfl, Nat.le_of_ble_eq_true rfl⟩) hK hP hD [] (by decide) rfl [] rfl rfl hl.1 rfl (Nat.le_of_ble_eq_true rfl) dM_multiply_86 ⟨Nat.le_of_ble_eq_true rfl, Nat.le_of_ble_eq_true rfl⟩) hP hD hS hA [] rfl sp_f0 (fun H locs z15 hP hD hS => ?_)
        have hP : va_P D vwCl ([(h0, .inr (4, [.int th, .ref a1, .ref a2, .ref a3, .ref a4, .ref a5, .ref a6])), (a1, .inl (cj1, 19, .inr (.inl st.1))), (a2, .inl (cj2, 19, .inr (.inl (vp_updL st.2.1 (18 : Int32).toNatClampNeg (((-1) : Int64) <<< (((f_M_zeros st 16) + (f_M_zeros st 17)).toInt64 &&& 63)))))), (a3, .inl (cj3, 19, .inr (.inl st.2.2.1))), (a4, .inl (cj4, 19, .inr (.inl st.2.2.2.1))), (a5, .inl (cj5, 19, .inr (.inl st.2.2.2.2.1))), (a6, .inl (cj6, 19, .inr (.inl st.2.2.2.2.2)))]) H := hP
        have hD : va_D A ([(h0, .inr (4, [.int th, .ref a1, .ref a2, .ref a3, .ref a4, .ref a5, .ref a6])), (a1, .inl (cj1, 19, .inr (.inl st.1))), (a2, .inl (cj2, 19, .inr (.inl (vp_updL st.2.1 (18 : Int32).toNatClampNeg (((-1) : Int64) <<< (((f_M_zeros st 16) + (f_M_zeros st 17)).toInt64 &&& 63)))))), (a3, .inl (cj3, 19, .inr (.inl st.2.2.1))), (a4, .inl (cj4, 19, .inr (.inl st.2.2.2.1))), (a5, .inl (cj5, 19, .inr (.inl st.2.2.2.2.1))), (a6, .inl (cj6, 19, .inr (.inl st.2.2.2.2.2)))]) := hD
        refine lv_if_ne (tgt := 152) hx hb dM_multiply_89 (by decide) (fun c16 => ?_) (fun c16 => ?_)
        · have e9 : f_M_multiply st = (st.1, vp_updL st.2.1 (18 : Int32).toNatClampNeg (((-1) : Int64) <<< (((f_M_zeros st 16) + (f_M_zeros st 17)).toInt64 &&& 63)), st.2.2.1, st.2.2.2.1, st.2.2.2.2.1, st.2.2.2.2.2) := (if_neg c2).trans ((if_pos c13).trans ((if_pos c14).trans ((if_neg c16).trans (rfl))))
          rw [e9]
          exact sp_vret C hAe hP hK hD hS dM_multiply_152
        · refine lv_ldc2 (v := 4294967295) hx hb hown hk2 dM_multiply_92 ?_
          refine lv_aload_n hx hb dM_multiply_95 rfl (lv_at hl 1 rfl) ?_
          refine va_get (D := D) (ci := 4) (v := .ref a4) (C := RM) (T := TM) (N := 7) hx hb hts hi4 hown hK hP 0 rfl rfl 4 (by decide) hk3 (fun _ h9 => h9) rfl dM_multiply_96 ?_
          refine lv_bipush (v := 17) hx hb dM_multiply_99 (by decide) ?_
          refine va_lald hx hb hK hP 4 3 rfl rfl (vp_in_iff.mpr (by decide)) dM_multiply_101 ?_
          refine sp_callz (sp_runS (As := [.long 4294967295, .long (st.2.2.2.1 (17 : Int32).toNatClampNeg)]) (rest := []) C (c_M_below l D 4294967295 (st.2.2.2.1 (17 : Int32).toNatClampNeg)) (va_cwS 2 hts (gS wG_c wm_376 wm_377 wm_378 wm_375) rfl rfl rfl (by decide +kernel) ⟨Nat.le_of_ble_eq_true rfl, Nat.le_of_ble_eq_true rfl⟩) hK hP hD [] (by decide) rfl [] rfl rfl hl.1 rfl (Nat.le_of_ble_eq_true rfl) dM_multiply_102 ⟨Nat.le_of_ble_eq_true rfl, Nat.le_of_ble_eq_true rfl⟩) hP hD hS hA [] rfl sp_f0 (fun H locs z17 hP hD hS => ?_)
          have hP : va_P D vwCl ([(h0, .inr (4, [.int th, .ref a1, .ref a2, .ref a3, .ref a4, .ref a5, .ref a6])), (a1, .inl (cj1, 19, .inr (.inl st.1))), (a2, .inl (cj2, 19, .inr (.inl (vp_updL st.2.1 (18 : Int32).toNatClampNeg (((-1) : Int64) <<< (((f_M_zeros st 16) + (f_M_zeros st 17)).toInt64 &&& 63)))))), (a3, .inl (cj3, 19, .inr (.inl st.2.2.1))), (a4, .inl (cj4, 19, .inr (.inl st.2.2.2.1))), (a5, .inl (cj5, 19, .inr (.inl st.2.2.2.2.1))), (a6, .inl (cj6, 19, .inr (.inl st.2.2.2.2.2)))]) H := hP
          have hD : va_D A ([(h0, .inr (4, [.int th, .ref a1, .ref a2, .ref a3, .ref a4, .ref a5, .ref a6])), (a1, .inl (cj1, 19, .inr (.inl st.1))), (a2, .inl (cj2, 19, .inr (.inl (vp_updL st.2.1 (18 : Int32).toNatClampNeg (((-1) : Int64) <<< (((f_M_zeros st 16) + (f_M_zeros st 17)).toInt64 &&& 63)))))), (a3, .inl (cj3, 19, .inr (.inl st.2.2.1))), (a4, .inl (cj4, 19, .inr (.inl st.2.2.2.1))), (a5, .inl (cj5, 19, .inr (.inl st.2.2.2.2.1))), (a6, .inl (cj6, 19, .inr (.inl st.2.2.2.2.2)))]) := hD
          refine lv_if_ne (tgt := 152) hx hb dM_multiply_105 (by decide) (fun c18 => ?_) (fun c18 => ?_)
          · have e9 : f_M_multiply st = (st.1, vp_updL st.2.1 (18 : Int32).toNatClampNeg (((-1) : Int64) <<< (((f_M_zeros st 16) + (f_M_zeros st 17)).toInt64 &&& 63)), st.2.2.1, st.2.2.2.1, st.2.2.2.2.1, st.2.2.2.2.2) := (if_neg c2).trans ((if_pos c13).trans ((if_pos c14).trans ((if_pos c16).trans ((if_neg c18).trans (rfl)))))
            rw [e9]
            exact sp_vret C hAe hP hK hD hS dM_multiply_152
          · refine lv_aload_n hx hb dM_multiply_108 rfl (lv_at hl 1 rfl) ?_
            refine va_get (D := D) (ci := 4) (v := .ref a3) (C := RM) (T := TM) (N := 7) hx hb hts hi4 hown hK hP 0 rfl rfl 3 (by decide) hk4 (fun _ h9 => h9) rfl dM_multiply_109 ?_
            refine lv_bipush (v := 18) hx hb dM_multiply_112 (by decide) ?_
            refine lv_aload_n hx hb dM_multiply_114 rfl (lv_at hl 1 rfl) ?_
            refine va_get (D := D) (ci := 4) (v := .ref a3) (C := RM) (T := TM) (N := 7) hx hb hts hi4 hown hK hP 0 rfl rfl 3 (by decide) hk4 (fun _ h9 => h9) rfl dM_multiply_115 ?_
            refine lv_bipush (v := 16) hx hb dM_multiply_118 (by decide) ?_
            refine va_lald hx hb hK hP 3 2 rfl rfl (vp_in_iff.mpr (by decide)) dM_multiply_120 ?_
            refine lv_aload_n hx hb dM_multiply_121 rfl (lv_at hl 1 rfl) ?_
            refine va_get (D := D) (ci := 4) (v := .ref a3) (C := RM) (T := TM) (N := 7) hx hb hts hi4 hown hK hP 0 rfl rfl 3 (by decide) hk4 (fun _ h9 => h9) rfl dM_multiply_122 ?_
            refine lv_bipush (v := 17) hx hb dM_multiply_125 (by decide) ?_
            refine va_lald hx hb hK hP 3 2 rfl rfl (vp_in_iff.mpr (by decide)) dM_multiply_127 ?_
            refine lv_lmul hx hb dM_multiply_128 ?_
            refine va_last hx hb hK hP hD hS 3 2 rfl rfl (vp_in_iff.mpr (by decide)) dM_multiply_129 (fun H locs hP hD hS => ?_)
            have hP : va_P D vwCl ([(h0, .inr (4, [.int th, .ref a1, .ref a2, .ref a3, .ref a4, .ref a5, .ref a6])), (a1, .inl (cj1, 19, .inr (.inl st.1))), (a2, .inl (cj2, 19, .inr (.inl (vp_updL st.2.1 (18 : Int32).toNatClampNeg (((-1) : Int64) <<< (((f_M_zeros st 16) + (f_M_zeros st 17)).toInt64 &&& 63)))))), (a3, .inl (cj3, 19, .inr (.inl (vp_updL st.2.2.1 (18 : Int32).toNatClampNeg ((st.2.2.1 (16 : Int32).toNatClampNeg) * (st.2.2.1 (17 : Int32).toNatClampNeg)))))), (a4, .inl (cj4, 19, .inr (.inl st.2.2.2.1))), (a5, .inl (cj5, 19, .inr (.inl st.2.2.2.2.1))), (a6, .inl (cj6, 19, .inr (.inl st.2.2.2.2.2)))]) H := hP
            have hD : va_D A ([(h0, .inr (4, [.int th, .ref a1, .ref a2, .ref a3, .ref a4, .ref a5, .ref a6])), (a1, .inl (cj1, 19, .inr (.inl st.1))), (a2, .inl (cj2, 19, .inr (.inl (vp_updL st.2.1 (18 : Int32).toNatClampNeg (((-1) : Int64) <<< (((f_M_zeros st 16) + (f_M_zeros st 17)).toInt64 &&& 63)))))), (a3, .inl (cj3, 19, .inr (.inl (vp_updL st.2.2.1 (18 : Int32).toNatClampNeg ((st.2.2.1 (16 : Int32).toNatClampNeg) * (st.2.2.1 (17 : Int32).toNatClampNeg)))))), (a4, .inl (cj4, 19, .inr (.inl st.2.2.2.1))), (a5, .inl (cj5, 19, .inr (.inl st.2.2.2.2.1))), (a6, .inl (cj6, 19, .inr (.inl st.2.2.2.2.2)))]) := hD
            refine lv_aload_n hx hb dM_multiply_130 rfl (lv_at hl 1 rfl) ?_
            refine va_get (D := D) (ci := 4) (v := .ref a4) (C := RM) (T := TM) (N := 7) hx hb hts hi4 hown hK hP 0 rfl rfl 4 (by decide) hk3 (fun _ h9 => h9) rfl dM_multiply_131 ?_
            refine lv_bipush (v := 18) hx hb dM_multiply_134 (by decide) ?_
            refine lv_aload_n hx hb dM_multiply_136 rfl (lv_at hl 1 rfl) ?_
            refine va_get (D := D) (ci := 4) (v := .ref a4) (C := RM) (T := TM) (N := 7) hx hb hts hi4 hown hK hP 0 rfl rfl 4 (by decide) hk3 (fun _ h9 => h9) rfl dM_multiply_137 ?_
            refine lv_bipush (v := 16) hx hb dM_multiply_140 (by decide) ?_
            refine va_lald hx hb hK hP 4 3 rfl rfl (vp_in_iff.mpr (by decide)) dM_multiply_142 ?_
            refine lv_aload_n hx hb dM_multiply_143 rfl (lv_at hl 1 rfl) ?_
            refine va_get (D := D) (ci := 4) (v := .ref a4) (C := RM) (T := TM) (N := 7) hx hb hts hi4 hown hK hP 0 rfl rfl 4 (by decide) hk3 (fun _ h9 => h9) rfl dM_multiply_144 ?_
            refine lv_bipush (v := 17) hx hb dM_multiply_147 (by decide) ?_
            refine va_lald hx hb hK hP 4 3 rfl rfl (vp_in_iff.mpr (by decide)) dM_multiply_149 ?_
            refine lv_lmul hx hb dM_multiply_150 ?_
            refine va_last hx hb hK hP hD hS 4 3 rfl rfl (vp_in_iff.mpr (by decide)) dM_multiply_151 (fun H locs hP hD hS => ?_)
            have hP : va_P D vwCl ([(h0, .inr (4, [.int th, .ref a1, .ref a2, .ref a3, .ref a4, .ref a5, .ref a6])), (a1, .inl (cj1, 19, .inr (.inl st.1))), (a2, .inl (cj2, 19, .inr (.inl (vp_updL st.2.1 (18 : Int32).toNatClampNeg (((-1) : Int64) <<< (((f_M_zeros st 16) + (f_M_zeros st 17)).toInt64 &&& 63)))))), (a3, .inl (cj3, 19, .inr (.inl (vp_updL st.2.2.1 (18 : Int32).toNatClampNeg ((st.2.2.1 (16 : Int32).toNatClampNeg) * (st.2.2.1 (17 : Int32).toNatClampNeg)))))), (a4, .inl (cj4, 19, .inr (.inl (vp_updL st.2.2.2.1 (18 : Int32).toNatClampNeg ((st.2.2.2.1 (16 : Int32).toNatClampNeg) * (st.2.2.2.1 (17 : Int32).toNatClampNeg)))))), (a5, .inl (cj5, 19, .inr (.inl st.2.2.2.2.1))), (a6, .inl (cj6, 19, .inr (.inl st.2.2.2.2.2)))]) H := hP
            have hD : va_D A ([(h0, .inr (4, [.int th, .ref a1, .ref a2, .ref a3, .ref a4, .ref a5, .ref a6])), (a1, .inl (cj1, 19, .inr (.inl st.1))), (a2, .inl (cj2, 19, .inr (.inl (vp_updL st.2.1 (18 : Int32).toNatClampNeg (((-1) : Int64) <<< (((f_M_zeros st 16) + (f_M_zeros st 17)).toInt64 &&& 63)))))), (a3, .inl (cj3, 19, .inr (.inl (vp_updL st.2.2.1 (18 : Int32).toNatClampNeg ((st.2.2.1 (16 : Int32).toNatClampNeg) * (st.2.2.1 (17 : Int32).toNatClampNeg)))))), (a4, .inl (cj4, 19, .inr (.inl (vp_updL st.2.2.2.1 (18 : Int32).toNatClampNeg ((st.2.2.2.1 (16 : Int32).toNatClampNeg) * (st.2.2.2.1 (17 : Int32).toNatClampNeg)))))), (a5, .inl (cj5, 19, .inr (.inl st.2.2.2.2.1))), (a6, .inl (cj6, 19, .inr (.inl st.2.2.2.2.2)))]) := hD
            have e9 : f_M_multiply st = (st.1, vp_updL st.2.1 (18 : Int32).toNatClampNeg (((-1) : Int64) <<< (((f_M_zeros st 16) + (f_M_zeros st 17)).toInt64 &&& 63)), vp_updL st.2.2.1 (18 : Int32).toNatClampNeg ((st.2.2.1 (16 : Int32).toNatClampNeg) * (st.2.2.1 (17 : Int32).toNatClampNeg)), vp_updL st.2.2.2.1 (18 : Int32).toNatClampNeg ((st.2.2.2.1 (16 : Int32).toNatClampNeg) * (st.2.2.2.1 (17 : Int32).toNatClampNeg)), st.2.2.2.2.1, st.2.2.2.2.2) := (if_neg c2).trans ((if_pos c13).trans ((if_pos c14).trans ((if_pos c16).trans ((if_pos c18).trans (rfl)))))
            rw [e9]
            exact sp_vret C hAe hP hK hD hS dM_multiply_152
      · refine lv_lconst (v := 0) hx hb dM_multiply_66 (by decide) ?_
        refine lv_goto (tgt := 75) hx hb dM_multiply_67 (by decide) ?_
        refine va_last hx hb hK hP hD hS 2 1 rfl rfl (vp_in_iff.mpr (by decide)) dM_multiply_75 (fun H locs hP hD hS => ?_)
        have hP : va_P D vwCl ([(h0, .inr (4, [.int th, .ref a1, .ref a2, .ref a3, .ref a4, .ref a5, .ref a6])), (a1, .inl (cj1, 19, .inr (.inl st.1))), (a2, .inl (cj2, 19, .inr (.inl (vp_updL st.2.1 (18 : Int32).toNatClampNeg 0)))), (a3, .inl (cj3, 19, .inr (.inl st.2.2.1))), (a4, .inl (cj4, 19, .inr (.inl st.2.2.2.1))), (a5, .inl (cj5, 19, .inr (.inl st.2.2.2.2.1))), (a6, .inl (cj6, 19, .inr (.inl st.2.2.2.2.2)))]) H := hP
        have hD : va_D A ([(h0, .inr (4, [.int th, .ref a1, .ref a2, .ref a3, .ref a4, .ref a5, .ref a6])), (a1, .inl (cj1, 19, .inr (.inl st.1))), (a2, .inl (cj2, 19, .inr (.inl (vp_updL st.2.1 (18 : Int32).toNatClampNeg 0)))), (a3, .inl (cj3, 19, .inr (.inl st.2.2.1))), (a4, .inl (cj4, 19, .inr (.inl st.2.2.2.1))), (a5, .inl (cj5, 19, .inr (.inl st.2.2.2.2.1))), (a6, .inl (cj6, 19, .inr (.inl st.2.2.2.2.2)))]) := hD
        refine lv_ldc2 (v := 4294967295) hx hb hown hk2 dM_multiply_76 ?_
        refine lv_aload_n hx hb dM_multiply_79 rfl (lv_at hl 1 rfl) ?_
        refine va_get (D := D) (ci := 4) (v := .ref a4) (C := RM) (T := TM) (N := 7) hx hb hts hi4 hown hK hP 0 rfl rfl 4 (by decide) hk3 (fun _ h9 => h9) rfl dM_multiply_80 ?_
        refine lv_bipush (v := 16) hx hb dM_multiply_83 (by decide) ?_
        refine va_lald hx hb hK hP 4 3 rfl rfl (vp_in_iff.mpr (by decide)) dM_multiply_85 ?_
        refine sp_callz (sp_runS (As := [.long 4294967295, .long (st.2.2.2.1 (16 : Int32).toNatClampNeg)]) (rest := []) C (c_M_below l D 4294967295 (st.2.2.2.1 (16 : Int32).toNatClampNeg)) (va_cwS 2 hts (gS wG_c wm_376 wm_377 wm_378 wm_375) rfl rfl rfl (by decide +kernel) ⟨Nat.le_of_ble_eq_true rfl, Nat.le_of_ble_eq_true rfl⟩) hK hP hD [] (by decide) rfl [] rfl rfl hl.1 rfl (Nat.le_of_ble_eq_true rfl) dM_multiply_86 ⟨Nat.le_of_ble_eq_true rfl, Nat.le_of_ble_eq_true rfl⟩) hP hD hS hA [] rfl sp_f0 (fun H locs z19 hP hD hS => ?_)
        have hP : va_P D vwCl ([(h0, .inr (4, [.int th, .ref a1, .ref a2, .ref a3, .ref a4, .ref a5, .ref a6])), (a1, .inl (cj1, 19, .inr (.inl st.1))), (a2, .inl (cj2, 19, .inr (.inl (vp_updL st.2.1 (18 : Int32).toNatClampNeg 0)))), (a3, .inl (cj3, 19, .inr (.inl st.2.2.1))), (a4, .inl (cj4, 19, .inr (.inl st.2.2.2.1))), (a5, .inl (cj5, 19, .inr (.inl st.2.2.2.2.1))), (a6, .inl (cj6, 19, .inr (.inl st.2.2.2.2.2)))]) H := hP
        have hD : va_D A ([(h0, .inr (4, [.int th, .ref a1, .ref a2, .ref a3, .ref a4, .ref a5, .ref a6])), (a1, .inl (cj1, 19, .inr (.inl st.1))), (a2, .inl (cj2, 19, .inr (.inl (vp_updL st.2.1 (18 : Int32).toNatClampNeg 0)))), (a3, .inl (cj3, 19, .inr (.inl st.2.2.1))), (a4, .inl (cj4, 19, .inr (.inl st.2.2.2.1))), (a5, .inl (cj5, 19, .inr (.inl st.2.2.2.2.1))), (a6, .inl (cj6, 19, .inr (.inl st.2.2.2.2.2)))]) := hD
        refine lv_if_ne (tgt := 152) hx hb dM_multiply_89 (by decide) (fun c20 => ?_) (fun c20 => ?_)
        · have e9 : f_M_multiply st = (st.1, vp_updL st.2.1 (18 : Int32).toNatClampNeg 0, st.2.2.1, st.2.2.2.1, st.2.2.2.2.1, st.2.2.2.2.2) := (if_neg c2).trans ((if_pos c13).trans ((if_neg c14).trans ((if_neg c20).trans (rfl))))
          rw [e9]
          exact sp_vret C hAe hP hK hD hS dM_multiply_152
        · refine lv_ldc2 (v := 4294967295) hx hb hown hk2 dM_multiply_92 ?_
          refine lv_aload_n hx hb dM_multiply_95 rfl (lv_at hl 1 rfl) ?_
          refine va_get (D := D) (ci := 4) (v := .ref a4) (C := RM) (T := TM) (N := 7) hx hb hts hi4 hown hK hP 0 rfl rfl 4 (by decide) hk3 (fun _ h9 => h9) rfl dM_multiply_96 ?_
          refine lv_bipush (v := 17) hx hb dM_multiply_99 (by decide) ?_
          refine va_lald hx hb hK hP 4 3 rfl rfl (vp_in_iff.mpr (by decide)) dM_multiply_101 ?_
          refine sp_callz (sp_runS (As := [.long 4294967295, .long (st.2.2.2.1 (17 : Int32).toNatClampNeg)]) (rest := []) C (c_M_below l D 4294967295 (st.2.2.2.1 (17 : Int32).toNatClampNeg)) (va_cwS 2 hts (gS wG_c wm_376 wm_377 wm_378 wm_375) rfl rfl rfl (by decide +kernel) ⟨Nat.le_of_ble_eq_true rfl, Nat.le_of_ble_eq_true rfl⟩) hK hP hD [] (by decide) rfl [] rfl rfl hl.1 rfl (Nat.le_of_ble_eq_true rfl) dM_multiply_102 ⟨Nat.le_of_ble_eq_true rfl, Nat.le_of_ble_eq_true rfl⟩) hP hD hS hA [] rfl sp_f0 (fun H locs z21 hP hD hS => ?_)
          have hP : va_P D vwCl ([(h0, .inr (4, [.int th, .ref a1, .ref a2, .ref a3, .ref a4, .ref a5, .ref a6])), (a1, .inl (cj1, 19, .inr (.inl st.1))), (a2, .inl (cj2, 19, .inr (.inl (vp_updL st.2.1 (18 : Int32).toNatClampNeg 0)))), (a3, .inl (cj3, 19, .inr (.inl st.2.2.1))), (a4, .inl (cj4, 19, .inr (.inl st.2.2.2.1))), (a5, .inl (cj5, 19, .inr (.inl st.2.2.2.2.1))), (a6, .inl (cj6, 19, .inr (.inl st.2.2.2.2.2)))]) H := hP
          have hD : va_D A ([(h0, .inr (4, [.int th, .ref a1, .ref a2, .ref a3, .ref a4, .ref a5, .ref a6])), (a1, .inl (cj1, 19, .inr (.inl st.1))), (a2, .inl (cj2, 19, .inr (.inl (vp_updL st.2.1 (18 : Int32).toNatClampNeg 0)))), (a3, .inl (cj3, 19, .inr (.inl st.2.2.1))), (a4, .inl (cj4, 19, .inr (.inl st.2.2.2.1))), (a5, .inl (cj5, 19, .inr (.inl st.2.2.2.2.1))), (a6, .inl (cj6, 19, .inr (.inl st.2.2.2.2.2)))]) := hD
          refine lv_if_ne (tgt := 152) hx hb dM_multiply_105 (by decide) (fun c22 => ?_) (fun c22 => ?_)
          · have e9 : f_M_multiply st = (st.1, vp_updL st.2.1 (18 : Int32).toNatClampNeg 0, st.2.2.1, st.2.2.2.1, st.2.2.2.2.1, st.2.2.2.2.2) := (if_neg c2).trans ((if_pos c13).trans ((if_neg c14).trans ((if_pos c20).trans ((if_neg c22).trans (rfl)))))
            rw [e9]
            exact sp_vret C hAe hP hK hD hS dM_multiply_152
          · refine lv_aload_n hx hb dM_multiply_108 rfl (lv_at hl 1 rfl) ?_
            refine va_get (D := D) (ci := 4) (v := .ref a3) (C := RM) (T := TM) (N := 7) hx hb hts hi4 hown hK hP 0 rfl rfl 3 (by decide) hk4 (fun _ h9 => h9) rfl dM_multiply_109 ?_
            refine lv_bipush (v := 18) hx hb dM_multiply_112 (by decide) ?_
            refine lv_aload_n hx hb dM_multiply_114 rfl (lv_at hl 1 rfl) ?_
            refine va_get (D := D) (ci := 4) (v := .ref a3) (C := RM) (T := TM) (N := 7) hx hb hts hi4 hown hK hP 0 rfl rfl 3 (by decide) hk4 (fun _ h9 => h9) rfl dM_multiply_115 ?_
            refine lv_bipush (v := 16) hx hb dM_multiply_118 (by decide) ?_
            refine va_lald hx hb hK hP 3 2 rfl rfl (vp_in_iff.mpr (by decide)) dM_multiply_120 ?_
            refine lv_aload_n hx hb dM_multiply_121 rfl (lv_at hl 1 rfl) ?_
            refine va_get (D := D) (ci := 4) (v := .ref a3) (C := RM) (T := TM) (N := 7) hx hb hts hi4 hown hK hP 0 rfl rfl 3 (by decide) hk4 (fun _ h9 => h9) rfl dM_multiply_122 ?_
            refine lv_bipush (v := 17) hx hb dM_multiply_125 (by decide) ?_
            refine va_lald hx hb hK hP 3 2 rfl rfl (vp_in_iff.mpr (by decide)) dM_multiply_127 ?_
            refine lv_lmul hx hb dM_multiply_128 ?_
            refine va_last hx hb hK hP hD hS 3 2 rfl rfl (vp_in_iff.mpr (by decide)) dM_multiply_129 (fun H locs hP hD hS => ?_)
            have hP : va_P D vwCl ([(h0, .inr (4, [.int th, .ref a1, .ref a2, .ref a3, .ref a4, .ref a5, .ref a6])), (a1, .inl (cj1, 19, .inr (.inl st.1))), (a2, .inl (cj2, 19, .inr (.inl (vp_updL st.2.1 (18 : Int32).toNatClampNeg 0)))), (a3, .inl (cj3, 19, .inr (.inl (vp_updL st.2.2.1 (18 : Int32).toNatClampNeg ((st.2.2.1 (16 : Int32).toNatClampNeg) * (st.2.2.1 (17 : Int32).toNatClampNeg)))))), (a4, .inl (cj4, 19, .inr (.inl st.2.2.2.1))), (a5, .inl (cj5, 19, .inr (.inl st.2.2.2.2.1))), (a6, .inl (cj6, 19, .inr (.inl st.2.2.2.2.2)))]) H := hP
            have hD : va_D A ([(h0, .inr (4, [.int th, .ref a1, .ref a2, .ref a3, .ref a4, .ref a5, .ref a6])), (a1, .inl (cj1, 19, .inr (.inl st.1))), (a2, .inl (cj2, 19, .inr (.inl (vp_updL st.2.1 (18 : Int32).toNatClampNeg 0)))), (a3, .inl (cj3, 19, .inr (.inl (vp_updL st.2.2.1 (18 : Int32).toNatClampNeg ((st.2.2.1 (16 : Int32).toNatClampNeg) * (st.2.2.1 (17 : Int32).toNatClampNeg)))))), (a4, .inl (cj4, 19, .inr (.inl st.2.2.2.1))), (a5, .inl (cj5, 19, .inr (.inl st.2.2.2.2.1))), (a6, .inl (cj6, 19, .inr (.inl st.2.2.2.2.2)))]) := hD
            refine lv_aload_n hx hb dM_multiply_130 rfl (lv_at hl 1 rfl) ?_
            refine va_get (D := D) (ci := 4) (v := .ref a4) (C := RM) (T := TM) (N := 7) hx hb hts hi4 hown hK hP 0 rfl rfl 4 (by decide) hk3 (fun _ h9 => h9) rfl dM_multiply_131 ?_
            refine lv_bipush (v := 18) hx hb dM_multiply_134 (by decide) ?_
            refine lv_aload_n hx hb dM_multiply_136 rfl (lv_at hl 1 rfl) ?_
            refine va_get (D := D) (ci := 4) (v := .ref a4) (C := RM) (T := TM) (N := 7) hx hb hts hi4 hown hK hP 0 rfl rfl 4 (by decide) hk3 (fun _ h9 => h9) rfl dM_multiply_137 ?_
            refine lv_bipush (v := 16) hx hb dM_multiply_140 (by decide) ?_
            refine va_lald hx hb hK hP 4 3 rfl rfl (vp_in_iff.mpr (by decide)) dM_multiply_142 ?_
            refine lv_aload_n hx hb dM_multiply_143 rfl (lv_at hl 1 rfl) ?_
            refine va_get (D := D) (ci := 4) (v := .ref a4) (C := RM) (T := TM) (N := 7) hx hb hts hi4 hown hK hP 0 rfl rfl 4 (by decide) hk3 (fun _ h9 => h9) rfl dM_multiply_144 ?_
            refine lv_bipush (v := 17) hx hb dM_multiply_147 (by decide) ?_
            refine va_lald hx hb hK hP 4 3 rfl rfl (vp_in_iff.mpr (by decide)) dM_multiply_149 ?_
            refine lv_lmul hx hb dM_multiply_150 ?_
            refine va_last hx hb hK hP hD hS 4 3 rfl rfl (vp_in_iff.mpr (by decide)) dM_multiply_151 (fun H locs hP hD hS => ?_)
            have hP : va_P D vwCl ([(h0, .inr (4, [.int th, .ref a1, .ref a2, .ref a3, .ref a4, .ref a5, .ref a6])), (a1, .inl (cj1, 19, .inr (.inl st.1))), (a2, .inl (cj2, 19, .inr (.inl (vp_updL st.2.1 (18 : Int32).toNatClampNeg 0)))), (a3, .inl (cj3, 19, .inr (.inl (vp_updL st.2.2.1 (18 : Int32).toNatClampNeg ((st.2.2.1 (16 : Int32).toNatClampNeg) * (st.2.2.1 (17 : Int32).toNatClampNeg)))))), (a4, .inl (cj4, 19, .inr (.inl (vp_updL st.2.2.2.1 (18 : Int32).toNatClampNeg ((st.2.2.2.1 (16 : Int32).toNatClampNeg) * (st.2.2.2.1 (17 : Int32).toNatClampNeg)))))), (a5, .inl (cj5, 19, .inr (.inl st.2.2.2.2.1))), (a6, .inl (cj6, 19, .inr (.inl st.2.2.2.2.2)))]) H := hP
            have hD : va_D A ([(h0, .inr (4, [.int th, .ref a1, .ref a2, .ref a3, .ref a4, .ref a5, .ref a6])), (a1, .inl (cj1, 19, .inr (.inl st.1))), (a2, .inl (cj2, 19, .inr (.inl (vp_updL st.2.1 (18 : Int32).toNatClampNeg 0)))), (a3, .inl (cj3, 19, .inr (.inl (vp_updL st.2.2.1 (18 : Int32).toNatClampNeg ((st.2.2.1 (16 : Int32).toNatClampNeg) * (st.2.2.1 (17 : Int32).toNatClampNeg)))))), (a4, .inl (cj4, 19, .inr (.inl (vp_updL st.2.2.2.1 (18 : Int32).toNatClampNeg ((st.2.2.2.1 (16 : Int32).toNatClampNeg) * (st.2.2.2.1 (17 : Int32).toNatClampNeg)))))), (a5, .inl (cj5, 19, .inr (.inl st.2.2.2.2.1))), (a6, .inl (cj6, 19, .inr (.inl st.2.2.2.2.2)))]) := hD
            have e9 : f_M_multiply st = (st.1, vp_updL st.2.1 (18 : Int32).toNatClampNeg 0, vp_updL st.2.2.1 (18 : Int32).toNatClampNeg ((st.2.2.1 (16 : Int32).toNatClampNeg) * (st.2.2.1 (17 : Int32).toNatClampNeg)), vp_updL st.2.2.2.1 (18 : Int32).toNatClampNeg ((st.2.2.2.1 (16 : Int32).toNatClampNeg) * (st.2.2.2.1 (17 : Int32).toNatClampNeg)), st.2.2.2.2.1, st.2.2.2.2.2) := (if_neg c2).trans ((if_pos c13).trans ((if_neg c14).trans ((if_pos c20).trans ((if_pos c22).trans (rfl)))))
            rw [e9]
            exact sp_vret C hAe hP hK hD hS dM_multiply_152
    · refine lv_aload_n hx hb dM_multiply_18 rfl (lv_at hl 0 rfl) ?_
      refine lv_bipush (v := 18) hx hb dM_multiply_19 (by decide) ?_
      refine lv_aload_n hx hb dM_multiply_21 rfl (lv_at hl 0 rfl) ?_
      refine va_get (D := D) (ci := 4) (v := .ref a1) (C := RM) (T := TM) (N := 7) hx hb hts hi4 hown hK hP 0 rfl rfl 1 (by decide) hk5 (fun _ h9 => h9) rfl dM_multiply_22 ?_
      refine lv_bipush (v := 16) hx hb dM_multiply_25 (by decide) ?_
      refine va_lald hx hb hK hP 1 0 rfl rfl (vp_in_iff.mpr (by decide)) dM_multiply_27 ?_
      refine lv_aload_n hx hb dM_multiply_28 rfl (lv_at hl 0 rfl) ?_
      refine va_get (D := D) (ci := 4) (v := .ref a1) (C := RM) (T := TM) (N := 7) hx hb hts hi4 hown hK hP 0 rfl rfl 1 (by decide) hk5 (fun _ h9 => h9) rfl dM_multiply_29 ?_
      refine lv_bipush (v := 17) hx hb dM_multiply_32 (by decide) ?_
      refine va_lald hx hb hK hP 1 0 rfl rfl (vp_in_iff.mpr (by decide)) dM_multiply_34 ?_
      refine lv_lmul hx hb dM_multiply_35 ?_
      refine sp_callv (sp_runV (As := [.int 18, .long ((st.1 (16 : Int32).toNatClampNeg) * (st.1 (17 : Int32).toNatClampNeg))]) (rest := []) C (c_M_setExact l D h0 a1 a2 a3 a4 a5 a6 cj1 cj2 cj3 cj4 cj5 cj6 th st 18 ((st.1 (16 : Int32).toNatClampNeg) * (st.1 (17 : Int32).toNatClampNeg)) (vp_in_iff.mpr (by decide))) (cwV 2 hts (gV wG_c wm_427 wm_428 wm_429 wm_378 wm_426) rfl rfl rfl (by decide +kernel) ⟨Nat.le_of_ble_eq_true rfl, Nat.le_of_ble_eq_true rfl⟩) hK hP hD [0, 1, 2, 3, 4, 5, 6] (by decide) rfl [0, 1, 2, 3, 4, 5] rfl 0 4 rfl rfl rfl rfl hl.1 rfl (Nat.le_of_ble_eq_true rfl) dM_multiply_36 ⟨Nat.le_of_ble_eq_true rfl, Nat.le_of_ble_eq_true rfl⟩) hP hD hS hA [0, 1, 2, 3, 4, 5, 6] rfl (sp_fc (sp_fc (sp_fc (sp_fc (sp_fc (sp_fc (sp_fc sp_f0))))))) (fun H locs hP hD hS => ?_)
      have hP : va_P D vwCl ([(h0, .inr (4, [.int th, .ref a1, .ref a2, .ref a3, .ref a4, .ref a5, .ref a6])), (a1, .inl (cj1, 19, .inr (.inl ((f_M_setExact st 18 ((st.1 (16 : Int32).toNatClampNeg) * (st.1 (17 : Int32).toNatClampNeg))).1)))), (a2, .inl (cj2, 19, .inr (.inl ((f_M_setExact st 18 ((st.1 (16 : Int32).toNatClampNeg) * (st.1 (17 : Int32).toNatClampNeg))).2.1)))), (a3, .inl (cj3, 19, .inr (.inl ((f_M_setExact st 18 ((st.1 (16 : Int32).toNatClampNeg) * (st.1 (17 : Int32).toNatClampNeg))).2.2.1)))), (a4, .inl (cj4, 19, .inr (.inl ((f_M_setExact st 18 ((st.1 (16 : Int32).toNatClampNeg) * (st.1 (17 : Int32).toNatClampNeg))).2.2.2.1)))), (a5, .inl (cj5, 19, .inr (.inl ((f_M_setExact st 18 ((st.1 (16 : Int32).toNatClampNeg) * (st.1 (17 : Int32).toNatClampNeg))).2.2.2.2.1)))), (a6, .inl (cj6, 19, .inr (.inl ((f_M_setExact st 18 ((st.1 (16 : Int32).toNatClampNeg) * (st.1 (17 : Int32).toNatClampNeg))).2.2.2.2.2))))]) H := hP
      have hD : va_D A ([(h0, .inr (4, [.int th, .ref a1, .ref a2, .ref a3, .ref a4, .ref a5, .ref a6])), (a1, .inl (cj1, 19, .inr (.inl ((f_M_setExact st 18 ((st.1 (16 : Int32).toNatClampNeg) * (st.1 (17 : Int32).toNatClampNeg))).1)))), (a2, .inl (cj2, 19, .inr (.inl ((f_M_setExact st 18 ((st.1 (16 : Int32).toNatClampNeg) * (st.1 (17 : Int32).toNatClampNeg))).2.1)))), (a3, .inl (cj3, 19, .inr (.inl ((f_M_setExact st 18 ((st.1 (16 : Int32).toNatClampNeg) * (st.1 (17 : Int32).toNatClampNeg))).2.2.1)))), (a4, .inl (cj4, 19, .inr (.inl ((f_M_setExact st 18 ((st.1 (16 : Int32).toNatClampNeg) * (st.1 (17 : Int32).toNatClampNeg))).2.2.2.1)))), (a5, .inl (cj5, 19, .inr (.inl ((f_M_setExact st 18 ((st.1 (16 : Int32).toNatClampNeg) * (st.1 (17 : Int32).toNatClampNeg))).2.2.2.2.1)))), (a6, .inl (cj6, 19, .inr (.inl ((f_M_setExact st 18 ((st.1 (16 : Int32).toNatClampNeg) * (st.1 (17 : Int32).toNatClampNeg))).2.2.2.2.2))))]) := hD
      have e9 : f_M_multiply st = (f_M_setExact st 18 ((st.1 (16 : Int32).toNatClampNeg) * (st.1 (17 : Int32).toNatClampNeg))) := (if_neg c2).trans ((if_neg c13).trans (rfl))
      rw [e9]
      exact sp_vret C hAe hP hK hD hS dM_multiply_39
def f_M_divide (st : Md) : Md :=
  if (f_M_isExact st 17) = 0 then (st.1, st.2.1, st.2.2.1, vp_updL st.2.2.2.1 (18 : Int32).toNatClampNeg (st.2.2.2.1 (16 : Int32).toNatClampNeg), st.2.2.2.2.1, st.2.2.2.2.2)
  else if (lg_cmp (st.1 (17 : Int32).toNatClampNeg) 0) = 0 then (f_M_setExact st 18 0)
  else (st.1, st.2.1, vp_updL st.2.2.1 (18 : Int32).toNatClampNeg (f_M_quotient (st.2.2.1 (16 : Int32).toNatClampNeg) (st.1 (17 : Int32).toNatClampNeg)), vp_updL st.2.2.2.1 (18 : Int32).toNatClampNeg (f_M_quotient (st.2.2.2.1 (16 : Int32).toNatClampNeg) (st.1 (17 : Int32).toNatClampNeg)), st.2.2.2.2.1, st.2.2.2.2.2)
set_option maxHeartbeats 4000000 in
set_option maxRecDepth 100000 in
theorem c_M_divide (l : Launch) (D : va_G) (h0 : Nat) (a1 : Nat) (a2 : Nat) (a3 : Nat) (a4 : Nat) (a5 : Nat) (a6 : Nat) (cj1 cj2 cj3 cj4 cj5 cj6 : ClassId) (th : Int32) (st : Md) : sp_M l yM_divide wsM_divide ({ frames := 2, cells := 0, slots := 0, locals := 53 }) D [.ref h0] ([(h0, .inr (4, [.int th, .ref a1, .ref a2, .ref a3, .ref a4, .ref a5, .ref a6])), (a1, .inl (cj1, 19, .inr (.inl st.1))), (a2, .inl (cj2, 19, .inr (.inl st.2.1))), (a3, .inl (cj3, 19, .inr (.inl st.2.2.1))), (a4, .inl (cj4, 19, .inr (.inl st.2.2.2.1))), (a5, .inl (cj5, 19, .inr (.inl st.2.2.2.2.1))), (a6, .inl (cj6, 19, .inr (.inl st.2.2.2.2.2)))]) [(cj1, .long), (cj2, .long), (cj3, .long), (cj4, .long), (cj5, .long), (cj6, .long)] (sp_Qv D ([(h0, .inr (4, [.int th, .ref a1, .ref a2, .ref a3, .ref a4, .ref a5, .ref a6])), (a1, .inl (cj1, 19, .inr (.inl st.1))), (a2, .inl (cj2, 19, .inr (.inl st.2.1))), (a3, .inl (cj3, 19, .inr (.inl st.2.2.1))), (a4, .inl (cj4, 19, .inr (.inl st.2.2.2.1))), (a5, .inl (cj5, 19, .inr (.inl st.2.2.2.2.1))), (a6, .inl (cj6, 19, .inr (.inl st.2.2.2.2.2)))]) ([(h0, .inr (4, [.int th, .ref a1, .ref a2, .ref a3, .ref a4, .ref a5, .ref a6])), (a1, .inl (cj1, 19, .inr (.inl ((f_M_divide st).1)))), (a2, .inl (cj2, 19, .inr (.inl ((f_M_divide st).2.1)))), (a3, .inl (cj3, 19, .inr (.inl ((f_M_divide st).2.2.1)))), (a4, .inl (cj4, 19, .inr (.inl ((f_M_divide st).2.2.2.1)))), (a5, .inl (cj5, 19, .inr (.inl ((f_M_divide st).2.2.2.2.1)))), (a6, .inl (cj6, 19, .inr (.inl ((f_M_divide st).2.2.2.2.2))))]) [(cj1, .long), (cj2, .long), (cj3, .long), (cj4, .long), (cj5, .long), (cj6, .long)]) := by
  refine sp_ofW (cc := cM_divide) (nL := 1) (ret := none) (own := RM) (by decide) rfl rfl (Nat.le_of_ble_eq_true rfl) ?_
  intro p e s m below meth c A ls hAe hnm C hA hP hK hD hS hl
  have hx := C.1
  have hb := C.2.1
  have hown := C.2.2.2.2.1
  have hts := C.2.2.2.2.2.1
  have hl : lv_has ls 1 [(0, .ref h0)] := hl
  have hi4 : ∀ w ∈ u_ws RM TM 7, w ∈ wsM_divide := fun w h => List.mem_cons_of_mem _ (inM w h)
  have hk0 := hts _ (List.mem_cons_of_mem _ wm_385)
  have hk1 := hts _ (List.mem_cons_of_mem _ wm_382)
  have hk2 := hts _ (List.mem_cons_of_mem _ wm_384)
  refine lv_aload_n hx hb dM_divide_0 rfl (lv_at hl 0 rfl) ?_
  refine lv_bipush (v := 17) hx hb dM_divide_1 (by decide) ?_
  refine sp_callz (sp_runV (As := [.int 17]) (rest := []) C (c_M_isExact l D h0 a1 a2 a3 a4 a5 a6 cj1 cj2 cj3 cj4 cj5 cj6 th st 17 (vp_in_iff.mpr (by decide))) (cwV 1 hts (gV wG_c wm_419 wm_420 wm_421 wm_378 wm_418) rfl rfl rfl (by decide +kernel) ⟨Nat.le_of_ble_eq_true rfl, Nat.le_of_ble_eq_true rfl⟩) hK hP hD [0, 1, 2, 3, 4, 5, 6] (by decide) rfl [0, 1, 2, 3, 4, 5] rfl 0 4 rfl rfl rfl rfl hl.1 rfl (Nat.le_of_ble_eq_true rfl) dM_divide_3 ⟨Nat.le_of_ble_eq_true rfl, Nat.le_of_ble_eq_true rfl⟩) hP hD hS hA [0, 1, 2, 3, 4, 5, 6] rfl (sp_fc (sp_fc (sp_fc (sp_fc (sp_fc (sp_fc (sp_fc sp_f0))))))) (fun H locs z1 hP hD hS => ?_)
  have hP : va_P D vwCl ([(h0, .inr (4, [.int th, .ref a1, .ref a2, .ref a3, .ref a4, .ref a5, .ref a6])), (a1, .inl (cj1, 19, .inr (.inl st.1))), (a2, .inl (cj2, 19, .inr (.inl st.2.1))), (a3, .inl (cj3, 19, .inr (.inl st.2.2.1))), (a4, .inl (cj4, 19, .inr (.inl st.2.2.2.1))), (a5, .inl (cj5, 19, .inr (.inl st.2.2.2.2.1))), (a6, .inl (cj6, 19, .inr (.inl st.2.2.2.2.2)))]) H := hP
  have hD : va_D A ([(h0, .inr (4, [.int th, .ref a1, .ref a2, .ref a3, .ref a4, .ref a5, .ref a6])), (a1, .inl (cj1, 19, .inr (.inl st.1))), (a2, .inl (cj2, 19, .inr (.inl st.2.1))), (a3, .inl (cj3, 19, .inr (.inl st.2.2.1))), (a4, .inl (cj4, 19, .inr (.inl st.2.2.2.1))), (a5, .inl (cj5, 19, .inr (.inl st.2.2.2.2.1))), (a6, .inl (cj6, 19, .inr (.inl st.2.2.2.2.2)))]) := hD
  refine lv_if_eq (tgt := 31) hx hb dM_divide_6 (by decide) (fun c2 => ?_) (fun c2 => ?_)
  · refine lv_aload_n hx hb dM_divide_31 rfl (lv_at hl 0 rfl) ?_
    refine lv_bipush (v := 17) hx hb dM_divide_32 (by decide) ?_
    refine sp_callz (sp_runV (As := [.int 17]) (rest := []) C (c_M_isExact l D h0 a1 a2 a3 a4 a5 a6 cj1 cj2 cj3 cj4 cj5 cj6 th st 17 (vp_in_iff.mpr (by decide))) (cwV 1 hts (gV wG_c wm_419 wm_420 wm_421 wm_378 wm_418) rfl rfl rfl (by decide +kernel) ⟨Nat.le_of_ble_eq_true rfl, Nat.le_of_ble_eq_true rfl⟩) hK hP hD [0, 1, 2, 3, 4, 5, 6] (by decide) rfl [0, 1, 2, 3, 4, 5] rfl 0 4 rfl rfl rfl rfl hl.1 rfl (Nat.le_of_ble_eq_true rfl) dM_divide_34 ⟨Nat.le_of_ble_eq_true rfl, Nat.le_of_ble_eq_true rfl⟩) hP hD hS hA [0, 1, 2, 3, 4, 5, 6] rfl (sp_fc (sp_fc (sp_fc (sp_fc (sp_fc (sp_fc (sp_fc sp_f0))))))) (fun H locs z3 hP hD hS => ?_)
    have hP : va_P D vwCl ([(h0, .inr (4, [.int th, .ref a1, .ref a2, .ref a3, .ref a4, .ref a5, .ref a6])), (a1, .inl (cj1, 19, .inr (.inl st.1))), (a2, .inl (cj2, 19, .inr (.inl st.2.1))), (a3, .inl (cj3, 19, .inr (.inl st.2.2.1))), (a4, .inl (cj4, 19, .inr (.inl st.2.2.2.1))), (a5, .inl (cj5, 19, .inr (.inl st.2.2.2.2.1))), (a6, .inl (cj6, 19, .inr (.inl st.2.2.2.2.2)))]) H := hP
    have hD : va_D A ([(h0, .inr (4, [.int th, .ref a1, .ref a2, .ref a3, .ref a4, .ref a5, .ref a6])), (a1, .inl (cj1, 19, .inr (.inl st.1))), (a2, .inl (cj2, 19, .inr (.inl st.2.1))), (a3, .inl (cj3, 19, .inr (.inl st.2.2.1))), (a4, .inl (cj4, 19, .inr (.inl st.2.2.2.1))), (a5, .inl (cj5, 19, .inr (.inl st.2.2.2.2.1))), (a6, .inl (cj6, 19, .inr (.inl st.2.2.2.2.2)))]) := hD
    refine lv_if_eq (tgt := 91) hx hb dM_divide_37 (by decide) (fun _ => ?_) (fun h9 => absurd c2 h9)
    refine lv_aload_n hx hb dM_divide_91 rfl (lv_at hl 0 rfl) ?_
    refine va_get (D := D) (ci := 4) (v := .ref a4) (C := RM) (T := TM) (N := 7) hx hb hts hi4 hown hK hP 0 rfl rfl 4 (by decide) hk0 (fun _ h9 => h9) rfl dM_divide_92 ?_
    refine lv_bipush (v := 18) hx hb dM_divide_95 (by decide) ?_
    refine lv_aload_n hx hb dM_divide_97 rfl (lv_at hl 0 rfl) ?_
    refine va_get (D := D) (ci := 4) (v := .ref a4) (C := RM) (T := TM) (N := 7) hx hb hts hi4 hown hK hP 0 rfl rfl 4 (by decide) hk0 (fun _ h9 => h9) rfl dM_divide_98 ?_
    refine lv_bipush (v := 16) hx hb dM_divide_101 (by decide) ?_
    refine va_lald hx hb hK hP 4 3 rfl rfl (vp_in_iff.mpr (by decide)) dM_divide_103 ?_
    refine va_last hx hb hK hP hD hS 4 3 rfl rfl (vp_in_iff.mpr (by decide)) dM_divide_104 (fun H locs hP hD hS => ?_)
    have hP : va_P D vwCl ([(h0, .inr (4, [.int th, .ref a1, .ref a2, .ref a3, .ref a4, .ref a5, .ref a6])), (a1, .inl (cj1, 19, .inr (.inl st.1))), (a2, .inl (cj2, 19, .inr (.inl st.2.1))), (a3, .inl (cj3, 19, .inr (.inl st.2.2.1))), (a4, .inl (cj4, 19, .inr (.inl (vp_updL st.2.2.2.1 (18 : Int32).toNatClampNeg (st.2.2.2.1 (16 : Int32).toNatClampNeg))))), (a5, .inl (cj5, 19, .inr (.inl st.2.2.2.2.1))), (a6, .inl (cj6, 19, .inr (.inl st.2.2.2.2.2)))]) H := hP
    have hD : va_D A ([(h0, .inr (4, [.int th, .ref a1, .ref a2, .ref a3, .ref a4, .ref a5, .ref a6])), (a1, .inl (cj1, 19, .inr (.inl st.1))), (a2, .inl (cj2, 19, .inr (.inl st.2.1))), (a3, .inl (cj3, 19, .inr (.inl st.2.2.1))), (a4, .inl (cj4, 19, .inr (.inl (vp_updL st.2.2.2.1 (18 : Int32).toNatClampNeg (st.2.2.2.1 (16 : Int32).toNatClampNeg))))), (a5, .inl (cj5, 19, .inr (.inl st.2.2.2.2.1))), (a6, .inl (cj6, 19, .inr (.inl st.2.2.2.2.2)))]) := hD
    have e9 : f_M_divide st = (st.1, st.2.1, st.2.2.1, vp_updL st.2.2.2.1 (18 : Int32).toNatClampNeg (st.2.2.2.1 (16 : Int32).toNatClampNeg), st.2.2.2.2.1, st.2.2.2.2.2) := (if_pos c2).trans (rfl)
    rw [e9]
    exact sp_vret C hAe hP hK hD hS dM_divide_105
  · refine lv_aload_n hx hb dM_divide_9 rfl (lv_at hl 0 rfl) ?_
    refine va_get (D := D) (ci := 4) (v := .ref a1) (C := RM) (T := TM) (N := 7) hx hb hts hi4 hown hK hP 0 rfl rfl 1 (by decide) hk1 (fun _ h9 => h9) rfl dM_divide_10 ?_
    refine lv_bipush (v := 17) hx hb dM_divide_13 (by decide) ?_
    refine va_lald hx hb hK hP 1 0 rfl rfl (vp_in_iff.mpr (by decide)) dM_divide_15 ?_
    refine lv_lconst (v := 0) hx hb dM_divide_16 (by decide) ?_
    refine W.lcmp hx hb dM_divide_17 ?_
    refine lv_if_ne (tgt := 31) hx hb dM_divide_18 (by decide) (fun c5 => ?_) (fun c5 => ?_)
    · refine lv_aload_n hx hb dM_divide_31 rfl (lv_at hl 0 rfl) ?_
      refine lv_bipush (v := 17) hx hb dM_divide_32 (by decide) ?_
      refine sp_callz (sp_runV (As := [.int 17]) (rest := []) C (c_M_isExact l D h0 a1 a2 a3 a4 a5 a6 cj1 cj2 cj3 cj4 cj5 cj6 th st 17 (vp_in_iff.mpr (by decide))) (cwV 1 hts (gV wG_c wm_419 wm_420 wm_421 wm_378 wm_418) rfl rfl rfl (by decide +kernel) ⟨Nat.le_of_ble_eq_true rfl, Nat.le_of_ble_eq_true rfl⟩) hK hP hD [0, 1, 2, 3, 4, 5, 6] (by decide) rfl [0, 1, 2, 3, 4, 5] rfl 0 4 rfl rfl rfl rfl hl.1 rfl (Nat.le_of_ble_eq_true rfl) dM_divide_34 ⟨Nat.le_of_ble_eq_true rfl, Nat.le_of_ble_eq_true rfl⟩) hP hD hS hA [0, 1, 2, 3, 4, 5, 6] rfl (sp_fc (sp_fc (sp_fc (sp_fc (sp_fc (sp_fc (sp_fc sp_f0))))))) (fun H locs z6 hP hD hS => ?_)
      have hP : va_P D vwCl ([(h0, .inr (4, [.int th, .ref a1, .ref a2, .ref a3, .ref a4, .ref a5, .ref a6])), (a1, .inl (cj1, 19, .inr (.inl st.1))), (a2, .inl (cj2, 19, .inr (.inl st.2.1))), (a3, .inl (cj3, 19, .inr (.inl st.2.2.1))), (a4, .inl (cj4, 19, .inr (.inl st.2.2.2.1))), (a5, .inl (cj5, 19, .inr (.inl st.2.2.2.2.1))), (a6, .inl (cj6, 19, .inr (.inl st.2.2.2.2.2)))]) H := hP
      have hD : va_D A ([(h0, .inr (4, [.int th, .ref a1, .ref a2, .ref a3, .ref a4, .ref a5, .ref a6])), (a1, .inl (cj1, 19, .inr (.inl st.1))), (a2, .inl (cj2, 19, .inr (.inl st.2.1))), (a3, .inl (cj3, 19, .inr (.inl st.2.2.1))), (a4, .inl (cj4, 19, .inr (.inl st.2.2.2.1))), (a5, .inl (cj5, 19, .inr (.inl st.2.2.2.2.1))), (a6, .inl (cj6, 19, .inr (.inl st.2.2.2.2.2)))]) := hD
      refine lv_if_eq (tgt := 91) hx hb dM_divide_37 (by decide) (fun h9 => absurd h9 c2) (fun _ => ?_)
      refine lv_aload_n hx hb dM_divide_40 rfl (lv_at hl 0 rfl) ?_
      refine va_get (D := D) (ci := 4) (v := .ref a3) (C := RM) (T := TM) (N := 7) hx hb hts hi4 hown hK hP 0 rfl rfl 3 (by decide) hk2 (fun _ h9 => h9) rfl dM_divide_41 ?_
      refine lv_bipush (v := 18) hx hb dM_divide_44 (by decide) ?_
      refine lv_aload_n hx hb dM_divide_46 rfl (lv_at hl 0 rfl) ?_
      refine va_get (D := D) (ci := 4) (v := .ref a3) (C := RM) (T := TM) (N := 7) hx hb hts hi4 hown hK hP 0 rfl rfl 3 (by decide) hk2 (fun _ h9 => h9) rfl dM_divide_47 ?_
      refine lv_bipush (v := 16) hx hb dM_divide_50 (by decide) ?_
      refine va_lald hx hb hK hP 3 2 rfl rfl (vp_in_iff.mpr (by decide)) dM_divide_52 ?_
      refine lv_aload_n hx hb dM_divide_53 rfl (lv_at hl 0 rfl) ?_
      refine va_get (D := D) (ci := 4) (v := .ref a1) (C := RM) (T := TM) (N := 7) hx hb hts hi4 hown hK hP 0 rfl rfl 1 (by decide) hk1 (fun _ h9 => h9) rfl dM_divide_54 ?_
      refine lv_bipush (v := 17) hx hb dM_divide_57 (by decide) ?_
      refine va_lald hx hb hK hP 1 0 rfl rfl (vp_in_iff.mpr (by decide)) dM_divide_59 ?_
      refine sp_calll (sp_runS (As := [.long (st.2.2.1 (16 : Int32).toNatClampNeg), .long (st.1 (17 : Int32).toNatClampNeg)]) (rest := [.int 18, .ref a3]) C (c_M_quotient l D (st.2.2.1 (16 : Int32).toNatClampNeg) (st.1 (17 : Int32).toNatClampNeg)) (va_cwS 2 hts (gS wG_c wm_431 wm_432 wm_378 wm_430) rfl rfl rfl (by decide +kernel) ⟨Nat.le_of_ble_eq_true rfl, Nat.le_of_ble_eq_true rfl⟩) hK hP hD [] (by decide) rfl [] rfl rfl hl.1 rfl (Nat.le_of_ble_eq_true rfl) dM_divide_60 ⟨Nat.le_of_ble_eq_true rfl, Nat.le_of_ble_eq_true rfl⟩) hP hD hS hA [] rfl sp_f0 (fun H locs hP hD hS => ?_)
      have hP : va_P D vwCl ([(h0, .inr (4, [.int th, .ref a1, .ref a2, .ref a3, .ref a4, .ref a5, .ref a6])), (a1, .inl (cj1, 19, .inr (.inl st.1))), (a2, .inl (cj2, 19, .inr (.inl st.2.1))), (a3, .inl (cj3, 19, .inr (.inl st.2.2.1))), (a4, .inl (cj4, 19, .inr (.inl st.2.2.2.1))), (a5, .inl (cj5, 19, .inr (.inl st.2.2.2.2.1))), (a6, .inl (cj6, 19, .inr (.inl st.2.2.2.2.2)))]) H := hP
      have hD : va_D A ([(h0, .inr (4, [.int th, .ref a1, .ref a2, .ref a3, .ref a4, .ref a5, .ref a6])), (a1, .inl (cj1, 19, .inr (.inl st.1))), (a2, .inl (cj2, 19, .inr (.inl st.2.1))), (a3, .inl (cj3, 19, .inr (.inl st.2.2.1))), (a4, .inl (cj4, 19, .inr (.inl st.2.2.2.1))), (a5, .inl (cj5, 19, .inr (.inl st.2.2.2.2.1))), (a6, .inl (cj6, 19, .inr (.inl st.2.2.2.2.2)))]) := hD
      refine va_last hx hb hK hP hD hS 3 2 rfl rfl (vp_in_iff.mpr (by decide)) dM_divide_63 (fun H locs hP hD hS => ?_)
      have hP : va_P D vwCl ([(h0, .inr (4, [.int th, .ref a1, .ref a2, .ref a3, .ref a4, .ref a5, .ref a6])), (a1, .inl (cj1, 19, .inr (.inl st.1))), (a2, .inl (cj2, 19, .inr (.inl st.2.1))), (a3, .inl (cj3, 19, .inr (.inl (vp_updL st.2.2.1 (18 : Int32).toNatClampNeg (f_M_quotient (st.2.2.1 (16 : Int32).toNatClampNeg) (st.1 (17 : Int32).toNatClampNeg)))))), (a4, .inl (cj4, 19, .inr (.inl st.2.2.2.1))), (a5, .inl (cj5, 19, .inr (.inl st.2.2.2.2.1))), (a6, .inl (cj6, 19, .inr (.inl st.2.2.2.2.2)))]) H := hP
      have hD : va_D A ([(h0, .inr (4, [.int th, .ref a1, .ref a2, .ref a3, .ref a4, .ref a5, .ref a6])), (a1, .inl (cj1, 19, .inr (.inl st.1))), (a2, .inl (cj2, 19, .inr (.inl st.2.1))), (a3, .inl (cj3, 19, .inr (.inl (vp_updL st.2.2.1 (18 : Int32).toNatClampNeg (f_M_quotient (st.2.2.1 (16 : Int32).toNatClampNeg) (st.1 (17 : Int32).toNatClampNeg)))))), (a4, .inl (cj4, 19, .inr (.inl st.2.2.2.1))), (a5, .inl (cj5, 19, .inr (.inl st.2.2.2.2.1))), (a6, .inl (cj6, 19, .inr (.inl st.2.2.2.2.2)))]) := hD
      refine lv_aload_n hx hb dM_divide_64 rfl (lv_at hl 0 rfl) ?_
      refine va_get (D := D) (ci := 4) (v := .ref a4) (C := RM) (T := TM) (N := 7) hx hb hts hi4 hown hK hP 0 rfl rfl 4 (by decide) hk0 (fun _ h9 => h9) rfl dM_divide_65 ?_
      refine lv_bipush (v := 18) hx hb dM_divide_68 (by decide) ?_
      refine lv_aload_n hx hb dM_divide_70 rfl (lv_at hl 0 rfl) ?_
      refine va_get (D := D) (ci := 4) (v := .ref a4) (C := RM) (T := TM) (N := 7) hx hb hts hi4 hown hK hP 0 rfl rfl 4 (by decide) hk0 (fun _ h9 => h9) rfl dM_divide_71 ?_
      refine lv_bipush (v := 16) hx hb dM_divide_74 (by decide) ?_
      refine va_lald hx hb hK hP 4 3 rfl rfl (vp_in_iff.mpr (by decide)) dM_divide_76 ?_
      refine lv_aload_n hx hb dM_divide_77 rfl (lv_at hl 0 rfl) ?_
      refine va_get (D := D) (ci := 4) (v := .ref a1) (C := RM) (T := TM) (N := 7) hx hb hts hi4 hown hK hP 0 rfl rfl 1 (by decide) hk1 (fun _ h9 => h9) rfl dM_divide_78 ?_
      refine lv_bipush (v := 17) hx hb dM_divide_81 (by decide) ?_
      refine va_lald hx hb hK hP 1 0 rfl rfl (vp_in_iff.mpr (by decide)) dM_divide_83 ?_
      refine sp_calll (sp_runS (As := [.long (st.2.2.2.1 (16 : Int32).toNatClampNeg), .long (st.1 (17 : Int32).toNatClampNeg)]) (rest := [.int 18, .ref a4]) C (c_M_quotient l D (st.2.2.2.1 (16 : Int32).toNatClampNeg) (st.1 (17 : Int32).toNatClampNeg)) (va_cwS 2 hts (gS wG_c wm_431 wm_432 wm_378 wm_430) rfl rfl rfl (by decide +kernel) ⟨Nat.le_of_ble_eq_true rfl, Nat.le_of_ble_eq_true rfl⟩) hK hP hD [] (by decide) rfl [] rfl rfl hl.1 rfl (Nat.le_of_ble_eq_true rfl) dM_divide_84 ⟨Nat.le_of_ble_eq_true rfl, Nat.le_of_ble_eq_true rfl⟩) hP hD hS hA [] rfl sp_f0 (fun H locs hP hD hS => ?_)
      have hP : va_P D vwCl ([(h0, .inr (4, [.int th, .ref a1, .ref a2, .ref a3, .ref a4, .ref a5, .ref a6])), (a1, .inl (cj1, 19, .inr (.inl st.1))), (a2, .inl (cj2, 19, .inr (.inl st.2.1))), (a3, .inl (cj3, 19, .inr (.inl (vp_updL st.2.2.1 (18 : Int32).toNatClampNeg (f_M_quotient (st.2.2.1 (16 : Int32).toNatClampNeg) (st.1 (17 : Int32).toNatClampNeg)))))), (a4, .inl (cj4, 19, .inr (.inl st.2.2.2.1))), (a5, .inl (cj5, 19, .inr (.inl st.2.2.2.2.1))), (a6, .inl (cj6, 19, .inr (.inl st.2.2.2.2.2)))]) H := hP
      have hD : va_D A ([(h0, .inr (4, [.int th, .ref a1, .ref a2, .ref a3, .ref a4, .ref a5, .ref a6])), (a1, .inl (cj1, 19, .inr (.inl st.1))), (a2, .inl (cj2, 19, .inr (.inl st.2.1))), (a3, .inl (cj3, 19, .inr (.inl (vp_updL st.2.2.1 (18 : Int32).toNatClampNeg (f_M_quotient (st.2.2.1 (16 : Int32).toNatClampNeg) (st.1 (17 : Int32).toNatClampNeg)))))), (a4, .inl (cj4, 19, .inr (.inl st.2.2.2.1))), (a5, .inl (cj5, 19, .inr (.inl st.2.2.2.2.1))), (a6, .inl (cj6, 19, .inr (.inl st.2.2.2.2.2)))]) := hD
      refine va_last hx hb hK hP hD hS 4 3 rfl rfl (vp_in_iff.mpr (by decide)) dM_divide_87 (fun H locs hP hD hS => ?_)
      have hP : va_P D vwCl ([(h0, .inr (4, [.int th, .ref a1, .ref a2, .ref a3, .ref a4, .ref a5, .ref a6])), (a1, .inl (cj1, 19, .inr (.inl st.1))), (a2, .inl (cj2, 19, .inr (.inl st.2.1))), (a3, .inl (cj3, 19, .inr (.inl (vp_updL st.2.2.1 (18 : Int32).toNatClampNeg (f_M_quotient (st.2.2.1 (16 : Int32).toNatClampNeg) (st.1 (17 : Int32).toNatClampNeg)))))), (a4, .inl (cj4, 19, .inr (.inl (vp_updL st.2.2.2.1 (18 : Int32).toNatClampNeg (f_M_quotient (st.2.2.2.1 (16 : Int32).toNatClampNeg) (st.1 (17 : Int32).toNatClampNeg)))))), (a5, .inl (cj5, 19, .inr (.inl st.2.2.2.2.1))), (a6, .inl (cj6, 19, .inr (.inl st.2.2.2.2.2)))]) H := hP
      have hD : va_D A ([(h0, .inr (4, [.int th, .ref a1, .ref a2, .ref a3, .ref a4, .ref a5, .ref a6])), (a1, .inl (cj1, 19, .inr (.inl st.1))), (a2, .inl (cj2, 19, .inr (.inl st.2.1))), (a3, .inl (cj3, 19, .inr (.inl (vp_updL st.2.2.1 (18 : Int32).toNatClampNeg (f_M_quotient (st.2.2.1 (16 : Int32).toNatClampNeg) (st.1 (17 : Int32).toNatClampNeg)))))), (a4, .inl (cj4, 19, .inr (.inl (vp_updL st.2.2.2.1 (18 : Int32).toNatClampNeg (f_M_quotient (st.2.2.2.1 (16 : Int32).toNatClampNeg) (st.1 (17 : Int32).toNatClampNeg)))))), (a5, .inl (cj5, 19, .inr (.inl st.2.2.2.2.1))), (a6, .inl (cj6, 19, .inr (.inl st.2.2.2.2.2)))]) := hD
      refine lv_goto (tgt := 105) hx hb dM_divide_88 (by decide) ?_
      have e9 : f_M_divide st = (st.1, st.2.1, vp_updL st.2.2.1 (18 : Int32).toNatClampNeg (f_M_quotient (st.2.2.1 (16 : Int32).toNatClampNeg) (st.1 (17 : Int32).toNatClampNeg)), vp_updL st.2.2.2.1 (18 : Int32).toNatClampNeg (f_M_quotient (st.2.2.2.1 (16 : Int32).toNatClampNeg) (st.1 (17 : Int32).toNatClampNeg)), st.2.2.2.2.1, st.2.2.2.2.2) := (if_neg c2).trans ((if_neg c5).trans (rfl))
      rw [e9]
      exact sp_vret C hAe hP hK hD hS dM_divide_105
    · refine lv_aload_n hx hb dM_divide_21 rfl (lv_at hl 0 rfl) ?_
      refine lv_bipush (v := 18) hx hb dM_divide_22 (by decide) ?_
      refine lv_lconst (v := 0) hx hb dM_divide_24 (by decide) ?_
      refine sp_callv (sp_runV (As := [.int 18, .long 0]) (rest := []) C (c_M_setExact l D h0 a1 a2 a3 a4 a5 a6 cj1 cj2 cj3 cj4 cj5 cj6 th st 18 0 (vp_in_iff.mpr (by decide))) (cwV 2 hts (gV wG_c wm_427 wm_428 wm_429 wm_378 wm_426) rfl rfl rfl (by decide +kernel) ⟨Nat.le_of_ble_eq_true rfl, Nat.le_of_ble_eq_true rfl⟩) hK hP hD [0, 1, 2, 3, 4, 5, 6] (by decide) rfl [0, 1, 2, 3, 4, 5] rfl 0 4 rfl rfl rfl rfl hl.1 rfl (Nat.le_of_ble_eq_true rfl) dM_divide_25 ⟨Nat.le_of_ble_eq_true rfl, Nat.le_of_ble_eq_true rfl⟩) hP hD hS hA [0, 1, 2, 3, 4, 5, 6] rfl (sp_fc (sp_fc (sp_fc (sp_fc (sp_fc (sp_fc (sp_fc sp_f0))))))) (fun H locs hP hD hS => ?_)
      have hP : va_P D vwCl ([(h0, .inr (4, [.int th, .ref a1, .ref a2, .ref a3, .ref a4, .ref a5, .ref a6])), (a1, .inl (cj1, 19, .inr (.inl ((f_M_setExact st 18 0).1)))), (a2, .inl (cj2, 19, .inr (.inl ((f_M_setExact st 18 0).2.1)))), (a3, .inl (cj3, 19, .inr (.inl ((f_M_setExact st 18 0).2.2.1)))), (a4, .inl (cj4, 19, .inr (.inl ((f_M_setExact st 18 0).2.2.2.1)))), (a5, .inl (cj5, 19, .inr (.inl ((f_M_setExact st 18 0).2.2.2.2.1)))), (a6, .inl (cj6, 19, .inr (.inl ((f_M_setExact st 18 0).2.2.2.2.2))))]) H := hP
      have hD : va_D A ([(h0, .inr (4, [.int th, .ref a1, .ref a2, .ref a3, .ref a4, .ref a5, .ref a6])), (a1, .inl (cj1, 19, .inr (.inl ((f_M_setExact st 18 0).1)))), (a2, .inl (cj2, 19, .inr (.inl ((f_M_setExact st 18 0).2.1)))), (a3, .inl (cj3, 19, .inr (.inl ((f_M_setExact st 18 0).2.2.1)))), (a4, .inl (cj4, 19, .inr (.inl ((f_M_setExact st 18 0).2.2.2.1)))), (a5, .inl (cj5, 19, .inr (.inl ((f_M_setExact st 18 0).2.2.2.2.1)))), (a6, .inl (cj6, 19, .inr (.inl ((f_M_setExact st 18 0).2.2.2.2.2))))]) := hD
      refine lv_goto (tgt := 105) hx hb dM_divide_28 (by decide) ?_
      have e9 : f_M_divide st = (f_M_setExact st 18 0) := (if_neg c2).trans ((if_pos c5).trans (rfl))
      rw [e9]
      exact sp_vret C hAe hP hK hD hS dM_divide_105
def f_M_rest (st : Md) : Md :=
  if (f_M_isExact st 17) = 0 then (st.1, st.2.1, st.2.2.1, vp_updL st.2.2.2.1 (18 : Int32).toNatClampNeg (st.2.2.2.1 (16 : Int32).toNatClampNeg), st.2.2.2.2.1, st.2.2.2.2.2)
  else if (lg_cmp (st.1 (17 : Int32).toNatClampNeg) 0) = 0 then (f_M_copy st 16 18)
  else if (f_M_below (st.2.2.2.1 (16 : Int32).toNatClampNeg) (st.1 (17 : Int32).toNatClampNeg)) = 0 then (st.1, st.2.1, st.2.2.1, vp_updL st.2.2.2.1 (18 : Int32).toNatClampNeg ((st.1 (17 : Int32).toNatClampNeg) - 1), st.2.2.2.2.1, st.2.2.2.2.2)
  else (f_M_copy st 16 18)
set_option maxHeartbeats 4000000 in
set_option maxRecDepth 100000 in
theorem c_M_rest (l : Launch) (D : va_G) (h0 : Nat) (a1 : Nat) (a2 : Nat) (a3 : Nat) (a4 : Nat) (a5 : Nat) (a6 : Nat) (cj1 cj2 cj3 cj4 cj5 cj6 : ClassId) (th : Int32) (st : Md) : sp_M l yM_rest wsM_rest ({ frames := 1, cells := 0, slots := 0, locals := 23 }) D [.ref h0] ([(h0, .inr (4, [.int th, .ref a1, .ref a2, .ref a3, .ref a4, .ref a5, .ref a6])), (a1, .inl (cj1, 19, .inr (.inl st.1))), (a2, .inl (cj2, 19, .inr (.inl st.2.1))), (a3, .inl (cj3, 19, .inr (.inl st.2.2.1))), (a4, .inl (cj4, 19, .inr (.inl st.2.2.2.1))), (a5, .inl (cj5, 19, .inr (.inl st.2.2.2.2.1))), (a6, .inl (cj6, 19, .inr (.inl st.2.2.2.2.2)))]) [(cj1, .long), (cj2, .long), (cj3, .long), (cj4, .long), (cj5, .long), (cj6, .long)] (sp_Qv D ([(h0, .inr (4, [.int th, .ref a1, .ref a2, .ref a3, .ref a4, .ref a5, .ref a6])), (a1, .inl (cj1, 19, .inr (.inl st.1))), (a2, .inl (cj2, 19, .inr (.inl st.2.1))), (a3, .inl (cj3, 19, .inr (.inl st.2.2.1))), (a4, .inl (cj4, 19, .inr (.inl st.2.2.2.1))), (a5, .inl (cj5, 19, .inr (.inl st.2.2.2.2.1))), (a6, .inl (cj6, 19, .inr (.inl st.2.2.2.2.2)))]) ([(h0, .inr (4, [.int th, .ref a1, .ref a2, .ref a3, .ref a4, .ref a5, .ref a6])), (a1, .inl (cj1, 19, .inr (.inl ((f_M_rest st).1)))), (a2, .inl (cj2, 19, .inr (.inl ((f_M_rest st).2.1)))), (a3, .inl (cj3, 19, .inr (.inl ((f_M_rest st).2.2.1)))), (a4, .inl (cj4, 19, .inr (.inl ((f_M_rest st).2.2.2.1)))), (a5, .inl (cj5, 19, .inr (.inl ((f_M_rest st).2.2.2.2.1)))), (a6, .inl (cj6, 19, .inr (.inl ((f_M_rest st).2.2.2.2.2))))]) [(cj1, .long), (cj2, .long), (cj3, .long), (cj4, .long), (cj5, .long), (cj6, .long)]) := by
  refine sp_ofW (cc := cM_rest) (nL := 2) (ret := none) (own := RM) (by decide) rfl rfl (Nat.le_of_ble_eq_true rfl) ?_
  intro p e s m below meth c A ls hAe hnm C hA hP hK hD hS hl
  have hx := C.1
  have hb := C.2.1
  have hown := C.2.2.2.2.1
  have hts := C.2.2.2.2.2.1
  have hl : lv_has ls 2 [(0, .ref h0)] := hl
  have hi4 : ∀ w ∈ u_ws RM TM 7, w ∈ wsM_rest := fun w h => List.mem_cons_of_mem _ (inM w h)
  have hk0 := hts _ (List.mem_cons_of_mem _ wm_385)
  have hk1 := hts _ (List.mem_cons_of_mem _ wm_382)
  refine lv_aload_n hx hb dM_rest_0 rfl (lv_at hl 0 rfl) ?_
  refine lv_bipush (v := 17) hx hb dM_rest_1 (by decide) ?_
  refine sp_callz (sp_runV (As := [.int 17]) (rest := []) C (c_M_isExact l D h0 a1 a2 a3 a4 a5 a6 cj1 cj2 cj3 cj4 cj5 cj6 th st 17 (vp_in_iff.mpr (by decide))) (cwV 1 hts (gV wG_c wm_419 wm_420 wm_421 wm_378 wm_418) rfl rfl rfl (by decide +kernel) ⟨Nat.le_of_ble_eq_true rfl, Nat.le_of_ble_eq_true rfl⟩) hK hP hD [0, 1, 2, 3, 4, 5, 6] (by decide) rfl [0, 1, 2, 3, 4, 5] rfl 0 4 rfl rfl rfl rfl hl.1 rfl (Nat.le_of_ble_eq_true rfl) dM_rest_3 ⟨Nat.le_of_ble_eq_true rfl, Nat.le_of_ble_eq_true rfl⟩) hP hD hS hA [0, 1, 2, 3, 4, 5, 6] rfl (sp_fc (sp_fc (sp_fc (sp_fc (sp_fc (sp_fc (sp_fc sp_f0))))))) (fun H locs z1 hP hD hS => ?_)
  have hP : va_P D vwCl ([(h0, .inr (4, [.int th, .ref a1, .ref a2, .ref a3, .ref a4, .ref a5, .ref a6])), (a1, .inl (cj1, 19, .inr (.inl st.1))), (a2, .inl (cj2, 19, .inr (.inl st.2.1))), (a3, .inl (cj3, 19, .inr (.inl st.2.2.1))), (a4, .inl (cj4, 19, .inr (.inl st.2.2.2.1))), (a5, .inl (cj5, 19, .inr (.inl st.2.2.2.2.1))), (a6, .inl (cj6, 19, .inr (.inl st.2.2.2.2.2)))]) H := hP
  have hD : va_D A ([(h0, .inr (4, [.int th, .ref a1, .ref a2, .ref a3, .ref a4, .ref a5, .ref a6])), (a1, .inl (cj1, 19, .inr (.inl st.1))), (a2, .inl (cj2, 19, .inr (.inl st.2.1))), (a3, .inl (cj3, 19, .inr (.inl st.2.2.1))), (a4, .inl (cj4, 19, .inr (.inl st.2.2.2.1))), (a5, .inl (cj5, 19, .inr (.inl st.2.2.2.2.1))), (a6, .inl (cj6, 19, .inr (.inl st.2.2.2.2.2)))]) := hD
  refine lv_if_eq (tgt := 45) hx hb dM_rest_6 (by decide) (fun c2 => ?_) (fun c2 => ?_)
  · refine lv_iconst (v := 0) hx hb dM_rest_45 (by decide) ?_
    refine lv_istore_n (lv' := [(1, .int 0), (0, .ref h0)]) hx hb dM_rest_46 rfl hl (by decide) rfl (fun ls hl => ?_)
    refine lv_iload_n hx hb dM_rest_47 rfl (lv_at hl 0 rfl) ?_
    refine lv_if_eq (tgt := 62) hx hb dM_rest_48 (by decide) (fun _ => ?_) (fun h9 => absurd h9 (by decide))
    refine lv_aload_n hx hb dM_rest_62 rfl (lv_at hl 1 rfl) ?_
    refine va_get (D := D) (ci := 4) (v := .ref a4) (C := RM) (T := TM) (N := 7) hx hb hts hi4 hown hK hP 0 rfl rfl 4 (by decide) hk0 (fun _ h9 => h9) rfl dM_rest_63 ?_
    refine lv_bipush (v := 18) hx hb dM_rest_66 (by decide) ?_
    refine lv_aload_n hx hb dM_rest_68 rfl (lv_at hl 1 rfl) ?_
    refine lv_bipush (v := 17) hx hb dM_rest_69 (by decide) ?_
    refine sp_callz (sp_runV (As := [.int 17]) (rest := [.int 18, .ref a4]) C (c_M_isExact l D h0 a1 a2 a3 a4 a5 a6 cj1 cj2 cj3 cj4 cj5 cj6 th st 17 (vp_in_iff.mpr (by decide))) (cwV 1 hts (gV wG_c wm_419 wm_420 wm_421 wm_378 wm_418) rfl rfl rfl (by decide +kernel) ⟨Nat.le_of_ble_eq_true rfl, Nat.le_of_ble_eq_true rfl⟩) hK hP hD [0, 1, 2, 3, 4, 5, 6] (by decide) rfl [0, 1, 2, 3, 4, 5] rfl 0 4 rfl rfl rfl rfl hl.1 rfl (Nat.le_of_ble_eq_true rfl) dM_rest_71 ⟨Nat.le_of_ble_eq_true rfl, Nat.le_of_ble_eq_true rfl⟩) hP hD hS hA [0, 1, 2, 3, 4, 5, 6] rfl (sp_fc (sp_fc (sp_fc (sp_fc (sp_fc (sp_fc (sp_fc sp_f0))))))) (fun H locs z3 hP hD hS => ?_)
    have hP : va_P D vwCl ([(h0, .inr (4, [.int th, .ref a1, .ref a2, .ref a3, .ref a4, .ref a5, .ref a6])), (a1, .inl (cj1, 19, .inr (.inl st.1))), (a2, .inl (cj2, 19, .inr (.inl st.2.1))), (a3, .inl (cj3, 19, .inr (.inl st.2.2.1))), (a4, .inl (cj4, 19, .inr (.inl st.2.2.2.1))), (a5, .inl (cj5, 19, .inr (.inl st.2.2.2.2.1))), (a6, .inl (cj6, 19, .inr (.inl st.2.2.2.2.2)))]) H := hP
    have hD : va_D A ([(h0, .inr (4, [.int th, .ref a1, .ref a2, .ref a3, .ref a4, .ref a5, .ref a6])), (a1, .inl (cj1, 19, .inr (.inl st.1))), (a2, .inl (cj2, 19, .inr (.inl st.2.1))), (a3, .inl (cj3, 19, .inr (.inl st.2.2.1))), (a4, .inl (cj4, 19, .inr (.inl st.2.2.2.1))), (a5, .inl (cj5, 19, .inr (.inl st.2.2.2.2.1))), (a6, .inl (cj6, 19, .inr (.inl st.2.2.2.2.2)))]) := hD
    refine lv_if_eq (tgt := 89) hx hb dM_rest_74 (by decide) (fun _ => ?_) (fun h9 => absurd c2 h9)
    refine lv_aload_n hx hb dM_rest_89 rfl (lv_at hl 1 rfl) ?_
    refine va_get (D := D) (ci := 4) (v := .ref a4) (C := RM) (T := TM) (N := 7) hx hb hts hi4 hown hK hP 0 rfl rfl 4 (by decide) hk0 (fun _ h9 => h9) rfl dM_rest_90 ?_
    refine lv_bipush (v := 16) hx hb dM_rest_93 (by decide) ?_
    refine va_lald hx hb hK hP 4 3 rfl rfl (vp_in_iff.mpr (by decide)) dM_rest_95 ?_
    refine va_last hx hb hK hP hD hS 4 3 rfl rfl (vp_in_iff.mpr (by decide)) dM_rest_96 (fun H locs hP hD hS => ?_)
    have hP : va_P D vwCl ([(h0, .inr (4, [.int th, .ref a1, .ref a2, .ref a3, .ref a4, .ref a5, .ref a6])), (a1, .inl (cj1, 19, .inr (.inl st.1))), (a2, .inl (cj2, 19, .inr (.inl st.2.1))), (a3, .inl (cj3, 19, .inr (.inl st.2.2.1))), (a4, .inl (cj4, 19, .inr (.inl (vp_updL st.2.2.2.1 (18 : Int32).toNatClampNeg (st.2.2.2.1 (16 : Int32).toNatClampNeg))))), (a5, .inl (cj5, 19, .inr (.inl st.2.2.2.2.1))), (a6, .inl (cj6, 19, .inr (.inl st.2.2.2.2.2)))]) H := hP
    have hD : va_D A ([(h0, .inr (4, [.int th, .ref a1, .ref a2, .ref a3, .ref a4, .ref a5, .ref a6])), (a1, .inl (cj1, 19, .inr (.inl st.1))), (a2, .inl (cj2, 19, .inr (.inl st.2.1))), (a3, .inl (cj3, 19, .inr (.inl st.2.2.1))), (a4, .inl (cj4, 19, .inr (.inl (vp_updL st.2.2.2.1 (18 : Int32).toNatClampNeg (st.2.2.2.1 (16 : Int32).toNatClampNeg))))), (a5, .inl (cj5, 19, .inr (.inl st.2.2.2.2.1))), (a6, .inl (cj6, 19, .inr (.inl st.2.2.2.2.2)))]) := hD
    have e9 : f_M_rest st = (st.1, st.2.1, st.2.2.1, vp_updL st.2.2.2.1 (18 : Int32).toNatClampNeg (st.2.2.2.1 (16 : Int32).toNatClampNeg), st.2.2.2.2.1, st.2.2.2.2.2) := (if_pos c2).trans (rfl)
    rw [e9]
    exact sp_vret C hAe hP hK hD hS dM_rest_97
  · refine lv_aload_n hx hb dM_rest_9 rfl (lv_at hl 0 rfl) ?_
    refine va_get (D := D) (ci := 4) (v := .ref a1) (C := RM) (T := TM) (N := 7) hx hb hts hi4 hown hK hP 0 rfl rfl 1 (by decide) hk1 (fun _ h9 => h9) rfl dM_rest_10 ?_
    refine lv_bipush (v := 17) hx hb dM_rest_13 (by decide) ?_
    refine va_lald hx hb hK hP 1 0 rfl rfl (vp_in_iff.mpr (by decide)) dM_rest_15 ?_
    refine lv_lconst (v := 0) hx hb dM_rest_16 (by decide) ?_
    refine W.lcmp hx hb dM_rest_17 ?_
    refine lv_if_eq (tgt := 41) hx hb dM_rest_18 (by decide) (fun c5 => ?_) (fun c5 => ?_)
    · refine lv_iconst (v := 1) hx hb dM_rest_41 (by decide) ?_
      refine lv_goto (tgt := 46) hx hb dM_rest_42 (by decide) ?_
      refine lv_istore_n (lv' := [(1, .int 1), (0, .ref h0)]) hx hb dM_rest_46 rfl hl (by decide) rfl (fun ls hl => ?_)
      refine lv_iload_n hx hb dM_rest_47 rfl (lv_at hl 0 rfl) ?_
      refine lv_if_eq (tgt := 62) hx hb dM_rest_48 (by decide) (fun h9 => absurd h9 (by decide)) (fun _ => ?_)
      refine lv_aload_n hx hb dM_rest_51 rfl (lv_at hl 1 rfl) ?_
      refine lv_bipush (v := 16) hx hb dM_rest_52 (by decide) ?_
      refine lv_bipush (v := 18) hx hb dM_rest_54 (by decide) ?_
      refine sp_callv (sp_runV (As := [.int 16, .int 18]) (rest := []) C (c_M_copy l D h0 a1 a2 a3 a4 a5 a6 cj1 cj2 cj3 cj4 cj5 cj6 th st 16 18 (vp_in_iff.mpr (by decide)) (vp_in_iff.mpr (by decide))) (cwV 2 hts (gV wG_c wm_434 wm_435 wm_436 wm_378 wm_433) rfl rfl rfl (by decide +kernel) ⟨Nat.le_of_ble_eq_true rfl, Nat.le_of_ble_eq_true rfl⟩) hK hP hD [0, 1, 2, 3, 4, 5, 6] (by decide) rfl [0, 1, 2, 3, 4, 5] rfl 0 4 rfl rfl rfl rfl hl.1 rfl (Nat.le_of_ble_eq_true rfl) dM_rest_56 ⟨Nat.le_of_ble_eq_true rfl, Nat.le_of_ble_eq_true rfl⟩) hP hD hS hA [0, 1, 2, 3, 4, 5, 6] rfl (sp_fc (sp_fc (sp_fc (sp_fc (sp_fc (sp_fc (sp_fc sp_f0))))))) (fun H locs hP hD hS => ?_)
      have hP : va_P D vwCl ([(h0, .inr (4, [.int th, .ref a1, .ref a2, .ref a3, .ref a4, .ref a5, .ref a6])), (a1, .inl (cj1, 19, .inr (.inl ((f_M_copy st 16 18).1)))), (a2, .inl (cj2, 19, .inr (.inl ((f_M_copy st 16 18).2.1)))), (a3, .inl (cj3, 19, .inr (.inl ((f_M_copy st 16 18).2.2.1)))), (a4, .inl (cj4, 19, .inr (.inl ((f_M_copy st 16 18).2.2.2.1)))), (a5, .inl (cj5, 19, .inr (.inl ((f_M_copy st 16 18).2.2.2.2.1)))), (a6, .inl (cj6, 19, .inr (.inl ((f_M_copy st 16 18).2.2.2.2.2))))]) H := hP
      have hD : va_D A ([(h0, .inr (4, [.int th, .ref a1, .ref a2, .ref a3, .ref a4, .ref a5, .ref a6])), (a1, .inl (cj1, 19, .inr (.inl ((f_M_copy st 16 18).1)))), (a2, .inl (cj2, 19, .inr (.inl ((f_M_copy st 16 18).2.1)))), (a3, .inl (cj3, 19, .inr (.inl ((f_M_copy st 16 18).2.2.1)))), (a4, .inl (cj4, 19, .inr (.inl ((f_M_copy st 16 18).2.2.2.1)))), (a5, .inl (cj5, 19, .inr (.inl ((f_M_copy st 16 18).2.2.2.2.1)))), (a6, .inl (cj6, 19, .inr (.inl ((f_M_copy st 16 18).2.2.2.2.2))))]) := hD
      refine lv_goto (tgt := 97) hx hb dM_rest_59 (by decide) ?_
      have e9 : f_M_rest st = (f_M_copy st 16 18) := (if_neg c2).trans ((if_pos c5).trans (rfl))
      rw [e9]
      exact sp_vret C hAe hP hK hD hS dM_rest_97
    · refine lv_aload_n hx hb dM_rest_21 rfl (lv_at hl 0 rfl) ?_
      refine va_get (D := D) (ci := 4) (v := .ref a4) (C := RM) (T := TM) (N := 7) hx hb hts hi4 hown hK hP 0 rfl rfl 4 (by decide) hk0 (fun _ h9 => h9) rfl dM_rest_22 ?_
      refine lv_bipush (v := 16) hx hb dM_rest_25 (by decide) ?_
      refine va_lald hx hb hK hP 4 3 rfl rfl (vp_in_iff.mpr (by decide)) dM_rest_27 ?_
      refine lv_aload_n hx hb dM_rest_28 rfl (lv_at hl 0 rfl) ?_
      refine va_get (D := D) (ci := 4) (v := .ref a1) (C := RM) (T := TM) (N := 7) hx hb hts hi4 hown hK hP 0 rfl rfl 1 (by decide) hk1 (fun _ h9 => h9) rfl dM_rest_29 ?_
      refine lv_bipush (v := 17) hx hb dM_rest_32 (by decide) ?_
      refine va_lald hx hb hK hP 1 0 rfl rfl (vp_in_iff.mpr (by decide)) dM_rest_34 ?_
      refine sp_callz (sp_runS (As := [.long (st.2.2.2.1 (16 : Int32).toNatClampNeg), .long (st.1 (17 : Int32).toNatClampNeg)]) (rest := []) C (c_M_below l D (st.2.2.2.1 (16 : Int32).toNatClampNeg) (st.1 (17 : Int32).toNatClampNeg)) (va_cwS 2 hts (gS wG_c wm_376 wm_377 wm_378 wm_375) rfl rfl rfl (by decide +kernel) ⟨Nat.le_of_ble_eq_true rfl, Nat.le_of_ble_eq_true rfl⟩) hK hP hD [] (by decide) rfl [] rfl rfl hl.1 rfl (Nat.le_of_ble_eq_true rfl) dM_rest_35 ⟨Nat.le_of_ble_eq_true rfl, Nat.le_of_ble_eq_true rfl⟩) hP hD hS hA [] rfl sp_f0 (fun H locs z6 hP hD hS => ?_)
      have hP : va_P D vwCl ([(h0, .inr (4, [.int th, .ref a1, .ref a2, .ref a3, .ref a4, .ref a5, .ref a6])), (a1, .inl (cj1, 19, .inr (.inl st.1))), (a2, .inl (cj2, 19, .inr (.inl st.2.1))), (a3, .inl (cj3, 19, .inr (.inl st.2.2.1))), (a4, .inl (cj4, 19, .inr (.inl st.2.2.2.1))), (a5, .inl (cj5, 19, .inr (.inl st.2.2.2.2.1))), (a6, .inl (cj6, 19, .inr (.inl st.2.2.2.2.2)))]) H := hP
      have hD : va_D A ([(h0, .inr (4, [.int th, .ref a1, .ref a2, .ref a3, .ref a4, .ref a5, .ref a6])), (a1, .inl (cj1, 19, .inr (.inl st.1))), (a2, .inl (cj2, 19, .inr (.inl st.2.1))), (a3, .inl (cj3, 19, .inr (.inl st.2.2.1))), (a4, .inl (cj4, 19, .inr (.inl st.2.2.2.1))), (a5, .inl (cj5, 19, .inr (.inl st.2.2.2.2.1))), (a6, .inl (cj6, 19, .inr (.inl st.2.2.2.2.2)))]) := hD
      refine lv_if_eq (tgt := 45) hx hb dM_rest_38 (by decide) (fun c7 => ?_) (fun c7 => ?_)
      · refine lv_iconst (v := 0) hx hb dM_rest_45 (by decide) ?_
        refine lv_istore_n (lv' := [(1, .int 0), (0, .ref h0)]) hx hb dM_rest_46 rfl hl (by decide) rfl (fun ls hl => ?_)
        refine lv_iload_n hx hb dM_rest_47 rfl (lv_at hl 0 rfl) ?_
        refine lv_if_eq (tgt := 62) hx hb dM_rest_48 (by decide) (fun _ => ?_) (fun h9 => absurd h9 (by decide))
        refine lv_aload_n hx hb dM_rest_62 rfl (lv_at hl 1 rfl) ?_
        refine va_get (D := D) (ci := 4) (v := .ref a4) (C := RM) (T := TM) (N := 7) hx hb hts hi4 hown hK hP 0 rfl rfl 4 (by decide) hk0 (fun _ h9 => h9) rfl dM_rest_63 ?_
        refine lv_bipush (v := 18) hx hb dM_rest_66 (by decide) ?_
        refine lv_aload_n hx hb dM_rest_68 rfl (lv_at hl 1 rfl) ?_
        refine lv_bipush (v := 17) hx hb dM_rest_69 (by decide) ?_
        refine sp_callz (sp_runV (As := [.int 17]) (rest := [.int 18, .ref a4]) C (c_M_isExact l D h0 a1 a2 a3 a4 a5 a6 cj1 cj2 cj3 cj4 cj5 cj6 th st 17 (vp_in_iff.mpr (by decide))) (cwV 1 hts (gV wG_c wm_419 wm_420 wm_421 wm_378 wm_418) rfl rfl rfl (by decide +kernel) ⟨Nat.le_of_ble_eq_true rfl, Nat.le_of_ble_eq_true rfl⟩) hK hP hD [0, 1, 2, 3, 4, 5, 6] (by decide) rfl [0, 1, 2, 3, 4, 5] rfl 0 4 rfl rfl rfl rfl hl.1 rfl (Nat.le_of_ble_eq_true rfl) dM_rest_71 ⟨Nat.le_of_ble_eq_true rfl, Nat.le_of_ble_eq_true rfl⟩) hP hD hS hA [0, 1, 2, 3, 4, 5, 6] rfl (sp_fc (sp_fc (sp_fc (sp_fc (sp_fc (sp_fc (sp_fc sp_f0))))))) (fun H locs z8 hP hD hS => ?_)
        have hP : va_P D vwCl ([(h0, .inr (4, [.int th, .ref a1, .ref a2, .ref a3, .ref a4, .ref a5, .ref a6])), (a1, .inl (cj1, 19, .inr (.inl st.1))), (a2, .inl (cj2, 19, .inr (.inl st.2.1))), (a3, .inl (cj3, 19, .inr (.inl st.2.2.1))), (a4, .inl (cj4, 19, .inr (.inl st.2.2.2.1))), (a5, .inl (cj5, 19, .inr (.inl st.2.2.2.2.1))), (a6, .inl (cj6, 19, .inr (.inl st.2.2.2.2.2)))]) H := hP
        have hD : va_D A ([(h0, .inr (4, [.int th, .ref a1, .ref a2, .ref a3, .ref a4, .ref a5, .ref a6])), (a1, .inl (cj1, 19, .inr (.inl st.1))), (a2, .inl (cj2, 19, .inr (.inl st.2.1))), (a3, .inl (cj3, 19, .inr (.inl st.2.2.1))), (a4, .inl (cj4, 19, .inr (.inl st.2.2.2.1))), (a5, .inl (cj5, 19, .inr (.inl st.2.2.2.2.1))), (a6, .inl (cj6, 19, .inr (.inl st.2.2.2.2.2)))]) := hD
        refine lv_if_eq (tgt := 89) hx hb dM_rest_74 (by decide) (fun h9 => absurd h9 c2) (fun _ => ?_)
        refine lv_aload_n hx hb dM_rest_77 rfl (lv_at hl 1 rfl) ?_
        refine va_get (D := D) (ci := 4) (v := .ref a1) (C := RM) (T := TM) (N := 7) hx hb hts hi4 hown hK hP 0 rfl rfl 1 (by decide) hk1 (fun _ h9 => h9) rfl dM_rest_78 ?_
        refine lv_bipush (v := 17) hx hb dM_rest_81 (by decide) ?_
        refine va_lald hx hb hK hP 1 0 rfl rfl (vp_in_iff.mpr (by decide)) dM_rest_83 ?_
        refine lv_lconst (v := 1) hx hb dM_rest_84 (by decide) ?_
        refine lv_lsub hx hb dM_rest_85 ?_
        refine lv_goto (tgt := 96) hx hb dM_rest_86 (by decide) ?_
        refine va_last hx hb hK hP hD hS 4 3 rfl rfl (vp_in_iff.mpr (by decide)) dM_rest_96 (fun H locs hP hD hS => ?_)
        have hP : va_P D vwCl ([(h0, .inr (4, [.int th, .ref a1, .ref a2, .ref a3, .ref a4, .ref a5, .ref a6])), (a1, .inl (cj1, 19, .inr (.inl st.1))), (a2, .inl (cj2, 19, .inr (.inl st.2.1))), (a3, .inl (cj3, 19, .inr (.inl st.2.2.1))), (a4, .inl (cj4, 19, .inr (.inl (vp_updL st.2.2.2.1 (18 : Int32).toNatClampNeg ((st.1 (17 : Int32).toNatClampNeg) - 1))))), (a5, .inl (cj5, 19, .inr (.inl st.2.2.2.2.1))), (a6, .inl (cj6, 19, .inr (.inl st.2.2.2.2.2)))]) H := hP
        have hD : va_D A ([(h0, .inr (4, [.int th, .ref a1, .ref a2, .ref a3, .ref a4, .ref a5, .ref a6])), (a1, .inl (cj1, 19, .inr (.inl st.1))), (a2, .inl (cj2, 19, .inr (.inl st.2.1))), (a3, .inl (cj3, 19, .inr (.inl st.2.2.1))), (a4, .inl (cj4, 19, .inr (.inl (vp_updL st.2.2.2.1 (18 : Int32).toNatClampNeg ((st.1 (17 : Int32).toNatClampNeg) - 1))))), (a5, .inl (cj5, 19, .inr (.inl st.2.2.2.2.1))), (a6, .inl (cj6, 19, .inr (.inl st.2.2.2.2.2)))]) := hD
        have e9 : f_M_rest st = (st.1, st.2.1, st.2.2.1, vp_updL st.2.2.2.1 (18 : Int32).toNatClampNeg ((st.1 (17 : Int32).toNatClampNeg) - 1), st.2.2.2.2.1, st.2.2.2.2.2) := (if_neg c2).trans ((if_neg c5).trans ((if_pos c7).trans (rfl)))
        rw [e9]
        exact sp_vret C hAe hP hK hD hS dM_rest_97
      · refine lv_iconst (v := 1) hx hb dM_rest_41 (by decide) ?_
        refine lv_goto (tgt := 46) hx hb dM_rest_42 (by decide) ?_
        refine lv_istore_n (lv' := [(1, .int 1), (0, .ref h0)]) hx hb dM_rest_46 rfl hl (by decide) rfl (fun ls hl => ?_)
        refine lv_iload_n hx hb dM_rest_47 rfl (lv_at hl 0 rfl) ?_
        refine lv_if_eq (tgt := 62) hx hb dM_rest_48 (by decide) (fun h9 => absurd h9 (by decide)) (fun _ => ?_)
        refine lv_aload_n hx hb dM_rest_51 rfl (lv_at hl 1 rfl) ?_
        refine lv_bipush (v := 16) hx hb dM_rest_52 (by decide) ?_
        refine lv_bipush (v := 18) hx hb dM_rest_54 (by decide) ?_
        refine sp_callv (sp_runV (As := [.int 16, .int 18]) (rest := []) C (c_M_copy l D h0 a1 a2 a3 a4 a5 a6 cj1 cj2 cj3 cj4 cj5 cj6 th st 16 18 (vp_in_iff.mpr (by decide)) (vp_in_iff.mpr (by decide))) (cwV 2 hts (gV wG_c wm_434 wm_435 wm_436 wm_378 wm_433) rfl rfl rfl (by decide +kernel) ⟨Nat.le_of_ble_eq_true rfl, Nat.le_of_ble_eq_true rfl⟩) hK hP hD [0, 1, 2, 3, 4, 5, 6] (by decide) rfl [0, 1, 2, 3, 4, 5] rfl 0 4 rfl rfl rfl rfl hl.1 rfl (Nat.le_of_ble_eq_true rfl) dM_rest_56 ⟨Nat.le_of_ble_eq_true rfl, Nat.le_of_ble_eq_true rfl⟩) hP hD hS hA [0, 1, 2, 3, 4, 5, 6] rfl (sp_fc (sp_fc (sp_fc (sp_fc (sp_fc (sp_fc (sp_fc sp_f0))))))) (fun H locs hP hD hS => ?_)
        have hP : va_P D vwCl ([(h0, .inr (4, [.int th, .ref a1, .ref a2, .ref a3, .ref a4, .ref a5, .ref a6])), (a1, .inl (cj1, 19, .inr (.inl ((f_M_copy st 16 18).1)))), (a2, .inl (cj2, 19, .inr (.inl ((f_M_copy st 16 18).2.1)))), (a3, .inl (cj3, 19, .inr (.inl ((f_M_copy st 16 18).2.2.1)))), (a4, .inl (cj4, 19, .inr (.inl ((f_M_copy st 16 18).2.2.2.1)))), (a5, .inl (cj5, 19, .inr (.inl ((f_M_copy st 16 18).2.2.2.2.1)))), (a6, .inl (cj6, 19, .inr (.inl ((f_M_copy st 16 18).2.2.2.2.2))))]) H := hP
        have hD : va_D A ([(h0, .inr (4, [.int th, .ref a1, .ref a2, .ref a3, .ref a4, .ref a5, .ref a6])), (a1, .inl (cj1, 19, .inr (.inl ((f_M_copy st 16 18).1)))), (a2, .inl (cj2, 19, .inr (.inl ((f_M_copy st 16 18).2.1)))), (a3, .inl (cj3, 19, .inr (.inl ((f_M_copy st 16 18).2.2.1)))), (a4, .inl (cj4, 19, .inr (.inl ((f_M_copy st 16 18).2.2.2.1)))), (a5, .inl (cj5, 19, .inr (.inl ((f_M_copy st 16 18).2.2.2.2.1)))), (a6, .inl (cj6, 19, .inr (.inl ((f_M_copy st 16 18).2.2.2.2.2))))]) := hD
        refine lv_goto (tgt := 97) hx hb dM_rest_59 (by decide) ?_
        have e9 : f_M_rest st = (f_M_copy st 16 18) := (if_neg c2).trans ((if_neg c5).trans ((if_neg c7).trans (rfl)))
        rw [e9]
        exact sp_vret C hAe hP hK hD hS dM_rest_97
def f_M_logic (st : Md) (p1 : Int32) : Md :=
  if p1 = 5 then (vp_updL st.1 (18 : Int32).toNatClampNeg ((st.1 (16 : Int32).toNatClampNeg) &&& (st.1 (17 : Int32).toNatClampNeg)), vp_updL st.2.1 (18 : Int32).toNatClampNeg (((((vp_updL st.1 (18 : Int32).toNatClampNeg ((st.1 (16 : Int32).toNatClampNeg) &&& (st.1 (17 : Int32).toNatClampNeg))) (16 : Int32).toNatClampNeg) ||| (st.2.1 (16 : Int32).toNatClampNeg)) &&& (((vp_updL st.1 (18 : Int32).toNatClampNeg ((st.1 (16 : Int32).toNatClampNeg) &&& (st.1 (17 : Int32).toNatClampNeg))) (17 : Int32).toNatClampNeg) ||| (st.2.1 (17 : Int32).toNatClampNeg))) &&& (((vp_updL st.1 (18 : Int32).toNatClampNeg ((st.1 (16 : Int32).toNatClampNeg) &&& (st.1 (17 : Int32).toNatClampNeg))) (18 : Int32).toNatClampNeg) ^^^ (-1))), st.2.2.1, vp_updL st.2.2.2.1 (18 : Int32).toNatClampNeg (f_M_lesser (st.2.2.2.1 (16 : Int32).toNatClampNeg) (st.2.2.2.1 (17 : Int32).toNatClampNeg)), st.2.2.2.2.1, st.2.2.2.2.2)
  else if p1 = 6 then (vp_updL st.1 (18 : Int32).toNatClampNeg ((st.1 (16 : Int32).toNatClampNeg) ||| (st.1 (17 : Int32).toNatClampNeg)), vp_updL st.2.1 (18 : Int32).toNatClampNeg (((st.2.1 (16 : Int32).toNatClampNeg) ||| (st.2.1 (17 : Int32).toNatClampNeg)) &&& (((vp_updL st.1 (18 : Int32).toNatClampNeg ((st.1 (16 : Int32).toNatClampNeg) ||| (st.1 (17 : Int32).toNatClampNeg))) (18 : Int32).toNatClampNeg) ^^^ (-1))), vp_updL st.2.2.1 (18 : Int32).toNatClampNeg (f_M_greater (st.2.2.1 (16 : Int32).toNatClampNeg) (st.2.2.1 (17 : Int32).toNatClampNeg)), st.2.2.2.1, st.2.2.2.2.1, st.2.2.2.2.2)
  else (vp_updL st.1 (18 : Int32).toNatClampNeg (((st.1 (16 : Int32).toNatClampNeg) ^^^ (st.1 (17 : Int32).toNatClampNeg)) &&& (((vp_updL st.2.1 (18 : Int32).toNatClampNeg ((st.2.1 (16 : Int32).toNatClampNeg) ||| (st.2.1 (17 : Int32).toNatClampNeg))) (18 : Int32).toNatClampNeg) ^^^ (-1))), vp_updL st.2.1 (18 : Int32).toNatClampNeg ((st.2.1 (16 : Int32).toNatClampNeg) ||| (st.2.1 (17 : Int32).toNatClampNeg)), st.2.2.1, st.2.2.2.1, st.2.2.2.2.1, st.2.2.2.2.2)
set_option maxHeartbeats 4000000 in
set_option maxRecDepth 100000 in
theorem c_M_logic (l : Launch) (D : va_G) (h0 : Nat) (a1 : Nat) (a2 : Nat) (a3 : Nat) (a4 : Nat) (a5 : Nat) (a6 : Nat) (cj1 cj2 cj3 cj4 cj5 cj6 : ClassId) (th : Int32) (st : Md) (p1 : Int32) : sp_M l yM_logic wsM_logic ({ frames := 2, cells := 0, slots := 0, locals := 46 }) D [.ref h0, .int p1] ([(h0, .inr (4, [.int th, .ref a1, .ref a2, .ref a3, .ref a4, .ref a5, .ref a6])), (a1, .inl (cj1, 19, .inr (.inl st.1))), (a2, .inl (cj2, 19, .inr (.inl st.2.1))), (a3, .inl (cj3, 19, .inr (.inl st.2.2.1))), (a4, .inl (cj4, 19, .inr (.inl st.2.2.2.1))), (a5, .inl (cj5, 19, .inr (.inl st.2.2.2.2.1))), (a6, .inl (cj6, 19, .inr (.inl st.2.2.2.2.2)))]) [(cj1, .long), (cj2, .long), (cj3, .long), (cj4, .long), (cj5, .long), (cj6, .long)] (sp_Qv D ([(h0, .inr (4, [.int th, .ref a1, .ref a2, .ref a3, .ref a4, .ref a5, .ref a6])), (a1, .inl (cj1, 19, .inr (.inl st.1))), (a2, .inl (cj2, 19, .inr (.inl st.2.1))), (a3, .inl (cj3, 19, .inr (.inl st.2.2.1))), (a4, .inl (cj4, 19, .inr (.inl st.2.2.2.1))), (a5, .inl (cj5, 19, .inr (.inl st.2.2.2.2.1))), (a6, .inl (cj6, 19, .inr (.inl st.2.2.2.2.2)))]) ([(h0, .inr (4, [.int th, .ref a1, .ref a2, .ref a3, .ref a4, .ref a5, .ref a6])), (a1, .inl (cj1, 19, .inr (.inl ((f_M_logic st p1).1)))), (a2, .inl (cj2, 19, .inr (.inl ((f_M_logic st p1).2.1)))), (a3, .inl (cj3, 19, .inr (.inl ((f_M_logic st p1).2.2.1)))), (a4, .inl (cj4, 19, .inr (.inl ((f_M_logic st p1).2.2.2.1)))), (a5, .inl (cj5, 19, .inr (.inl ((f_M_logic st p1).2.2.2.2.1)))), (a6, .inl (cj6, 19, .inr (.inl ((f_M_logic st p1).2.2.2.2.2))))]) [(cj1, .long), (cj2, .long), (cj3, .long), (cj4, .long), (cj5, .long), (cj6, .long)]) := by
  refine sp_ofW (cc := cM_logic) (nL := 2) (ret := none) (own := RM) (by decide) rfl rfl (Nat.le_of_ble_eq_true rfl) ?_
  intro p e s m below meth c A ls hAe hnm C hA hP hK hD hS hl
  have hx := C.1
  have hb := C.2.1
  have hown := C.2.2.2.2.1
  have hts := C.2.2.2.2.2.1
  have hl : lv_has ls 2 [(0, .ref h0), (1, .int p1)] := hl
  have hi4 : ∀ w ∈ u_ws RM TM 7, w ∈ wsM_logic := fun w h => List.mem_cons_of_mem _ (inM w h)
  have hk0 := hts _ (List.mem_cons_of_mem _ wm_383)
  have hk1 := hts _ (List.mem_cons_of_mem _ wm_382)
  have hk2 := hts _ (List.mem_cons_of_mem _ wm_381)
  have hk3 := hts _ (List.mem_cons_of_mem _ wm_384)
  have hk4 := hts _ (List.mem_cons_of_mem _ wm_385)
  refine lv_iload_n hx hb dM_logic_0 rfl (lv_at hl 1 rfl) ?_
  refine lv_iconst (v := 5) hx hb dM_logic_1 (by decide) ?_
  refine lv_icmp_ne (tgt := 104) hx hb dM_logic_2 (by decide) (fun c1 => ?_) (fun c1 => ?_)
  · refine lv_iload_n hx hb dM_logic_104 rfl (lv_at hl 1 rfl) ?_
    refine lv_bipush (v := 6) hx hb dM_logic_105 (by decide) ?_
    refine lv_icmp_ne (tgt := 193) hx hb dM_logic_107 (by decide) (fun c2 => ?_) (fun c2 => ?_)
    · refine lv_aload_n hx hb dM_logic_193 rfl (lv_at hl 0 rfl) ?_
      refine va_get (D := D) (ci := 4) (v := .ref a2) (C := RM) (T := TM) (N := 7) hx hb hts hi4 hown hK hP 0 rfl rfl 2 (by decide) hk0 (fun _ h9 => h9) rfl dM_logic_194 ?_
      refine lv_bipush (v := 18) hx hb dM_logic_197 (by decide) ?_
      refine lv_aload_n hx hb dM_logic_199 rfl (lv_at hl 0 rfl) ?_
      refine va_get (D := D) (ci := 4) (v := .ref a2) (C := RM) (T := TM) (N := 7) hx hb hts hi4 hown hK hP 0 rfl rfl 2 (by decide) hk0 (fun _ h9 => h9) rfl dM_logic_200 ?_
      refine lv_bipush (v := 16) hx hb dM_logic_203 (by decide) ?_
      refine va_lald hx hb hK hP 2 1 rfl rfl (vp_in_iff.mpr (by decide)) dM_logic_205 ?_
      refine lv_aload_n hx hb dM_logic_206 rfl (lv_at hl 0 rfl) ?_
      refine va_get (D := D) (ci := 4) (v := .ref a2) (C := RM) (T := TM) (N := 7) hx hb hts hi4 hown hK hP 0 rfl rfl 2 (by decide) hk0 (fun _ h9 => h9) rfl dM_logic_207 ?_
      refine lv_bipush (v := 17) hx hb dM_logic_210 (by decide) ?_
      refine va_lald hx hb hK hP 2 1 rfl rfl (vp_in_iff.mpr (by decide)) dM_logic_212 ?_
      refine lv_lor hx hb dM_logic_213 ?_
      refine va_last hx hb hK hP hD hS 2 1 rfl rfl (vp_in_iff.mpr (by decide)) dM_logic_214 (fun H locs hP hD hS => ?_)
      have hP : va_P D vwCl ([(h0, .inr (4, [.int th, .ref a1, .ref a2, .ref a3, .ref a4, .ref a5, .ref a6])), (a1, .inl (cj1, 19, .inr (.inl st.1))), (a2, .inl (cj2, 19, .inr (.inl (vp_updL st.2.1 (18 : Int32).toNatClampNeg ((st.2.1 (16 : Int32).toNatClampNeg) ||| (st.2.1 (17 : Int32).toNatClampNeg)))))), (a3, .inl (cj3, 19, .inr (.inl st.2.2.1))), (a4, .inl (cj4, 19, .inr (.inl st.2.2.2.1))), (a5, .inl (cj5, 19, .inr (.inl st.2.2.2.2.1))), (a6, .inl (cj6, 19, .inr (.inl st.2.2.2.2.2)))]) H := hP
      have hD : va_D A ([(h0, .inr (4, [.int th, .ref a1, .ref a2, .ref a3, .ref a4, .ref a5, .ref a6])), (a1, .inl (cj1, 19, .inr (.inl st.1))), (a2, .inl (cj2, 19, .inr (.inl (vp_updL st.2.1 (18 : Int32).toNatClampNeg ((st.2.1 (16 : Int32).toNatClampNeg) ||| (st.2.1 (17 : Int32).toNatClampNeg)))))), (a3, .inl (cj3, 19, .inr (.inl st.2.2.1))), (a4, .inl (cj4, 19, .inr (.inl st.2.2.2.1))), (a5, .inl (cj5, 19, .inr (.inl st.2.2.2.2.1))), (a6, .inl (cj6, 19, .inr (.inl st.2.2.2.2.2)))]) := hD
      refine lv_aload_n hx hb dM_logic_215 rfl (lv_at hl 0 rfl) ?_
      refine va_get (D := D) (ci := 4) (v := .ref a1) (C := RM) (T := TM) (N := 7) hx hb hts hi4 hown hK hP 0 rfl rfl 1 (by decide) hk1 (fun _ h9 => h9) rfl dM_logic_216 ?_
      refine lv_bipush (v := 18) hx hb dM_logic_219 (by decide) ?_
      refine lv_aload_n hx hb dM_logic_221 rfl (lv_at hl 0 rfl) ?_
      refine va_get (D := D) (ci := 4) (v := .ref a1) (C := RM) (T := TM) (N := 7) hx hb hts hi4 hown hK hP 0 rfl rfl 1 (by decide) hk1 (fun _ h9 => h9) rfl dM_logic_222 ?_
      refine lv_bipush (v := 16) hx hb dM_logic_225 (by decide) ?_
      refine va_lald hx hb hK hP 1 0 rfl rfl (vp_in_iff.mpr (by decide)) dM_logic_227 ?_
      refine lv_aload_n hx hb dM_logic_228 rfl (lv_at hl 0 rfl) ?_
      refine va_get (D := D) (ci := 4) (v := .ref a1) (C := RM) (T := TM) (N := 7) hx hb hts hi4 hown hK hP 0 rfl rfl 1 (by decide) hk1 (fun _ h9 => h9) rfl dM_logic_229 ?_
      refine lv_bipush (v := 17) hx hb dM_logic_232 (by decide) ?_
      refine va_lald hx hb hK hP 1 0 rfl rfl (vp_in_iff.mpr (by decide)) dM_logic_234 ?_
      refine lv_lxor hx hb dM_logic_235 ?_
      refine lv_aload_n hx hb dM_logic_236 rfl (lv_at hl 0 rfl) ?_
      refine va_get (D := D) (ci := 4) (v := .ref a2) (C := RM) (T := TM) (N := 7) hx hb hts hi4 hown hK hP 0 rfl rfl 2 (by decide) hk0 (fun _ h9 => h9) rfl dM_logic_237 ?_
      refine lv_bipush (v := 18) hx hb dM_logic_240 (by decide) ?_
      refine va_lald hx hb hK hP 2 1 rfl rfl (vp_in_iff.mpr (by decide)) dM_logic_242 ?_
      refine lv_ldc2 (v := (-1)) hx hb hown hk2 dM_logic_243 ?_
      refine lv_lxor hx hb dM_logic_246 ?_
      refine lv_land hx hb dM_logic_247 ?_
      refine va_last hx hb hK hP hD hS 1 0 rfl rfl (vp_in_iff.mpr (by decide)) dM_logic_248 (fun H locs hP hD hS => ?_)
      have hP : va_P D vwCl ([(h0, .inr (4, [.int th, .ref a1, .ref a2, .ref a3, .ref a4, .ref a5, .ref a6])), (a1, .inl (cj1, 19, .inr (.inl (vp_updL st.1 (18 : Int32).toNatClampNeg (((st.1 (16 : Int32).toNatClampNeg) ^^^ (st.1 (17 : Int32).toNatClampNeg)) &&& (((vp_updL st.2.1 (18 : Int32).toNatClampNeg ((st.2.1 (16 : Int32).toNatClampNeg) ||| (st.2.1 (17 : Int32).toNatClampNeg))) (18 : Int32).toNatClampNeg) ^^^ (-1))))))), (a2, .inl (cj2, 19, .inr (.inl (vp_updL st.2.1 (18 : Int32).toNatClampNeg ((st.2.1 (16 : Int32).toNatClampNeg) ||| (st.2.1 (17 : Int32).toNatClampNeg)))))), (a3, .inl (cj3, 19, .inr (.inl st.2.2.1))), (a4, .inl (cj4, 19, .inr (.inl st.2.2.2.1))), (a5, .inl (cj5, 19, .inr (.inl st.2.2.2.2.1))), (a6, .inl (cj6, 19, .inr (.inl st.2.2.2.2.2)))]) H := hP
      have hD : va_D A ([(h0, .inr (4, [.int th, .ref a1, .ref a2, .ref a3, .ref a4, .ref a5, .ref a6])), (a1, .inl (cj1, 19, .inr (.inl (vp_updL st.1 (18 : Int32).toNatClampNeg (((st.1 (16 : Int32).toNatClampNeg) ^^^ (st.1 (17 : Int32).toNatClampNeg)) &&& (((vp_updL st.2.1 (18 : Int32).toNatClampNeg ((st.2.1 (16 : Int32).toNatClampNeg) ||| (st.2.1 (17 : Int32).toNatClampNeg))) (18 : Int32).toNatClampNeg) ^^^ (-1))))))), (a2, .inl (cj2, 19, .inr (.inl (vp_updL st.2.1 (18 : Int32).toNatClampNeg ((st.2.1 (16 : Int32).toNatClampNeg) ||| (st.2.1 (17 : Int32).toNatClampNeg)))))), (a3, .inl (cj3, 19, .inr (.inl st.2.2.1))), (a4, .inl (cj4, 19, .inr (.inl st.2.2.2.1))), (a5, .inl (cj5, 19, .inr (.inl st.2.2.2.2.1))), (a6, .inl (cj6, 19, .inr (.inl st.2.2.2.2.2)))]) := hD
      have e9 : f_M_logic st p1 = (vp_updL st.1 (18 : Int32).toNatClampNeg (((st.1 (16 : Int32).toNatClampNeg) ^^^ (st.1 (17 : Int32).toNatClampNeg)) &&& (((vp_updL st.2.1 (18 : Int32).toNatClampNeg ((st.2.1 (16 : Int32).toNatClampNeg) ||| (st.2.1 (17 : Int32).toNatClampNeg))) (18 : Int32).toNatClampNeg) ^^^ (-1))), vp_updL st.2.1 (18 : Int32).toNatClampNeg ((st.2.1 (16 : Int32).toNatClampNeg) ||| (st.2.1 (17 : Int32).toNatClampNeg)), st.2.2.1, st.2.2.2.1, st.2.2.2.2.1, st.2.2.2.2.2) := (if_neg c1).trans ((if_neg c2).trans (rfl))
      rw [e9]
      exact sp_vret C hAe hP hK hD hS dM_logic_249
    · refine lv_aload_n hx hb dM_logic_110 rfl (lv_at hl 0 rfl) ?_
      refine va_get (D := D) (ci := 4) (v := .ref a1) (C := RM) (T := TM) (N := 7) hx hb hts hi4 hown hK hP 0 rfl rfl 1 (by decide) hk1 (fun _ h9 => h9) rfl dM_logic_111 ?_
      refine lv_bipush (v := 18) hx hb dM_logic_114 (by decide) ?_
      refine lv_aload_n hx hb dM_logic_116 rfl (lv_at hl 0 rfl) ?_
      refine va_get (D := D) (ci := 4) (v := .ref a1) (C := RM) (T := TM) (N := 7) hx hb hts hi4 hown hK hP 0 rfl rfl 1 (by decide) hk1 (fun _ h9 => h9) rfl dM_logic_117 ?_
      refine lv_bipush (v := 16) hx hb dM_logic_120 (by decide) ?_
      refine va_lald hx hb hK hP 1 0 rfl rfl (vp_in_iff.mpr (by decide)) dM_logic_122 ?_
      refine lv_aload_n hx hb dM_logic_123 rfl (lv_at hl 0 rfl) ?_
      refine va_get (D := D) (ci := 4) (v := .ref a1) (C := RM) (T := TM) (N := 7) hx hb hts hi4 hown hK hP 0 rfl rfl 1 (by decide) hk1 (fun _ h9 => h9) rfl dM_logic_124 ?_
      refine lv_bipush (v := 17) hx hb dM_logic_127 (by decide) ?_
      refine va_lald hx hb hK hP 1 0 rfl rfl (vp_in_iff.mpr (by decide)) dM_logic_129 ?_
      refine lv_lor hx hb dM_logic_130 ?_
      refine va_last hx hb hK hP hD hS 1 0 rfl rfl (vp_in_iff.mpr (by decide)) dM_logic_131 (fun H locs hP hD hS => ?_)
      have hP : va_P D vwCl ([(h0, .inr (4, [.int th, .ref a1, .ref a2, .ref a3, .ref a4, .ref a5, .ref a6])), (a1, .inl (cj1, 19, .inr (.inl (vp_updL st.1 (18 : Int32).toNatClampNeg ((st.1 (16 : Int32).toNatClampNeg) ||| (st.1 (17 : Int32).toNatClampNeg)))))), (a2, .inl (cj2, 19, .inr (.inl st.2.1))), (a3, .inl (cj3, 19, .inr (.inl st.2.2.1))), (a4, .inl (cj4, 19, .inr (.inl st.2.2.2.1))), (a5, .inl (cj5, 19, .inr (.inl st.2.2.2.2.1))), (a6, .inl (cj6, 19, .inr (.inl st.2.2.2.2.2)))]) H := hP
      have hD : va_D A ([(h0, .inr (4, [.int th, .ref a1, .ref a2, .ref a3, .ref a4, .ref a5, .ref a6])), (a1, .inl (cj1, 19, .inr (.inl (vp_updL st.1 (18 : Int32).toNatClampNeg ((st.1 (16 : Int32).toNatClampNeg) ||| (st.1 (17 : Int32).toNatClampNeg)))))), (a2, .inl (cj2, 19, .inr (.inl st.2.1))), (a3, .inl (cj3, 19, .inr (.inl st.2.2.1))), (a4, .inl (cj4, 19, .inr (.inl st.2.2.2.1))), (a5, .inl (cj5, 19, .inr (.inl st.2.2.2.2.1))), (a6, .inl (cj6, 19, .inr (.inl st.2.2.2.2.2)))]) := hD
      refine lv_aload_n hx hb dM_logic_132 rfl (lv_at hl 0 rfl) ?_
      refine va_get (D := D) (ci := 4) (v := .ref a2) (C := RM) (T := TM) (N := 7) hx hb hts hi4 hown hK hP 0 rfl rfl 2 (by decide) hk0 (fun _ h9 => h9) rfl dM_logic_133 ?_
      refine lv_bipush (v := 18) hx hb dM_logic_136 (by decide) ?_
      refine lv_aload_n hx hb dM_logic_138 rfl (lv_at hl 0 rfl) ?_
      refine va_get (D := D) (ci := 4) (v := .ref a2) (C := RM) (T := TM) (N := 7) hx hb hts hi4 hown hK hP 0 rfl rfl 2 (by decide) hk0 (fun _ h9 => h9) rfl dM_logic_139 ?_
      refine lv_bipush (v := 16) hx hb dM_logic_142 (by decide) ?_
      refine va_lald hx hb hK hP 2 1 rfl rfl (vp_in_iff.mpr (by decide)) dM_logic_144 ?_
      refine lv_aload_n hx hb dM_logic_145 rfl (lv_at hl 0 rfl) ?_
      refine va_get (D := D) (ci := 4) (v := .ref a2) (C := RM) (T := TM) (N := 7) hx hb hts hi4 hown hK hP 0 rfl rfl 2 (by decide) hk0 (fun _ h9 => h9) rfl dM_logic_146 ?_
      refine lv_bipush (v := 17) hx hb dM_logic_149 (by decide) ?_
      refine va_lald hx hb hK hP 2 1 rfl rfl (vp_in_iff.mpr (by decide)) dM_logic_151 ?_
      refine lv_lor hx hb dM_logic_152 ?_
      refine lv_aload_n hx hb dM_logic_153 rfl (lv_at hl 0 rfl) ?_
      refine va_get (D := D) (ci := 4) (v := .ref a1) (C := RM) (T := TM) (N := 7) hx hb hts hi4 hown hK hP 0 rfl rfl 1 (by decide) hk1 (fun _ h9 => h9) rfl dM_logic_154 ?_
      refine lv_bipush (v := 18) hx hb dM_logic_157 (by decide) ?_
      refine va_lald hx hb hK hP 1 0 rfl rfl (vp_in_iff.mpr (by decide)) dM_logic_159 ?_
      refine lv_ldc2 (v := (-1)) hx hb hown hk2 dM_logic_160 ?_
      refine lv_lxor hx hb dM_logic_163 ?_
      refine lv_land hx hb dM_logic_164 ?_
      refine va_last hx hb hK hP hD hS 2 1 rfl rfl (vp_in_iff.mpr (by decide)) dM_logic_165 (fun H locs hP hD hS => ?_)
      have hP : va_P D vwCl ([(h0, .inr (4, [.int th, .ref a1, .ref a2, .ref a3, .ref a4, .ref a5, .ref a6])), (a1, .inl (cj1, 19, .inr (.inl (vp_updL st.1 (18 : Int32).toNatClampNeg ((st.1 (16 : Int32).toNatClampNeg) ||| (st.1 (17 : Int32).toNatClampNeg)))))), (a2, .inl (cj2, 19, .inr (.inl (vp_updL st.2.1 (18 : Int32).toNatClampNeg (((st.2.1 (16 : Int32).toNatClampNeg) ||| (st.2.1 (17 : Int32).toNatClampNeg)) &&& (((vp_updL st.1 (18 : Int32).toNatClampNeg ((st.1 (16 : Int32).toNatClampNeg) ||| (st.1 (17 : Int32).toNatClampNeg))) (18 : Int32).toNatClampNeg) ^^^ (-1))))))), (a3, .inl (cj3, 19, .inr (.inl st.2.2.1))), (a4, .inl (cj4, 19, .inr (.inl st.2.2.2.1))), (a5, .inl (cj5, 19, .inr (.inl st.2.2.2.2.1))), (a6, .inl (cj6, 19, .inr (.inl st.2.2.2.2.2)))]) H := hP
      have hD : va_D A ([(h0, .inr (4, [.int th, .ref a1, .ref a2, .ref a3, .ref a4, .ref a5, .ref a6])), (a1, .inl (cj1, 19, .inr (.inl (vp_updL st.1 (18 : Int32).toNatClampNeg ((st.1 (16 : Int32).toNatClampNeg) ||| (st.1 (17 : Int32).toNatClampNeg)))))), (a2, .inl (cj2, 19, .inr (.inl (vp_updL st.2.1 (18 : Int32).toNatClampNeg (((st.2.1 (16 : Int32).toNatClampNeg) ||| (st.2.1 (17 : Int32).toNatClampNeg)) &&& (((vp_updL st.1 (18 : Int32).toNatClampNeg ((st.1 (16 : Int32).toNatClampNeg) ||| (st.1 (17 : Int32).toNatClampNeg))) (18 : Int32).toNatClampNeg) ^^^ (-1))))))), (a3, .inl (cj3, 19, .inr (.inl st.2.2.1))), (a4, .inl (cj4, 19, .inr (.inl st.2.2.2.1))), (a5, .inl (cj5, 19, .inr (.inl st.2.2.2.2.1))), (a6, .inl (cj6, 19, .inr (.inl st.2.2.2.2.2)))]) := hD
      refine lv_aload_n hx hb dM_logic_166 rfl (lv_at hl 0 rfl) ?_
      refine va_get (D := D) (ci := 4) (v := .ref a3) (C := RM) (T := TM) (N := 7) hx hb hts hi4 hown hK hP 0 rfl rfl 3 (by decide) hk3 (fun _ h9 => h9) rfl dM_logic_167 ?_
      refine lv_bipush (v := 18) hx hb dM_logic_170 (by decide) ?_
      refine lv_aload_n hx hb dM_logic_172 rfl (lv_at hl 0 rfl) ?_
      refine va_get (D := D) (ci := 4) (v := .ref a3) (C := RM) (T := TM) (N := 7) hx hb hts hi4 hown hK hP 0 rfl rfl 3 (by decide) hk3 (fun _ h9 => h9) rfl dM_logic_173 ?_
      refine lv_bipush (v := 16) hx hb dM_logic_176 (by decide) ?_
      refine va_lald hx hb hK hP 3 2 rfl rfl (vp_in_iff.mpr (by decide)) dM_logic_178 ?_
      refine lv_aload_n hx hb dM_logic_179 rfl (lv_at hl 0 rfl) ?_
      refine va_get (D := D) (ci := 4) (v := .ref a3) (C := RM) (T := TM) (N := 7) hx hb hts hi4 hown hK hP 0 rfl rfl 3 (by decide) hk3 (fun _ h9 => h9) rfl dM_logic_180 ?_
      refine lv_bipush (v := 17) hx hb dM_logic_183 (by decide) ?_
      refine va_lald hx hb hK hP 3 2 rfl rfl (vp_in_iff.mpr (by decide)) dM_logic_185 ?_
      refine sp_calll (sp_runS (As := [.long (st.2.2.1 (16 : Int32).toNatClampNeg), .long (st.2.2.1 (17 : Int32).toNatClampNeg)]) (rest := [.int 18, .ref a3]) C (c_M_greater l D (st.2.2.1 (16 : Int32).toNatClampNeg) (st.2.2.1 (17 : Int32).toNatClampNeg)) (va_cwS 2 hts (gS wG_c wm_390 wm_391 wm_378 wm_389) rfl rfl rfl (by decide +kernel) ⟨Nat.le_of_ble_eq_true rfl, Nat.le_of_ble_eq_true rfl⟩) hK hP hD [] (by decide) rfl [] rfl rfl hl.1 rfl (Nat.le_of_ble_eq_true rfl) dM_logic_186 ⟨Nat.le_of_ble_eq_true rfl, Nat.le_of_ble_eq_true rfl⟩) hP hD hS hA [] rfl sp_f0 (fun H locs hP hD hS => ?_)
      have hP : va_P D vwCl ([(h0, .inr (4, [.int th, .ref a1, .ref a2, .ref a3, .ref a4, .ref a5, .ref a6])), (a1, .inl (cj1, 19, .inr (.inl (vp_updL st.1 (18 : Int32).toNatClampNeg ((st.1 (16 : Int32).toNatClampNeg) ||| (st.1 (17 : Int32).toNatClampNeg)))))), (a2, .inl (cj2, 19, .inr (.inl (vp_updL st.2.1 (18 : Int32).toNatClampNeg (((st.2.1 (16 : Int32).toNatClampNeg) ||| (st.2.1 (17 : Int32).toNatClampNeg)) &&& (((vp_updL st.1 (18 : Int32).toNatClampNeg ((st.1 (16 : Int32).toNatClampNeg) ||| (st.1 (17 : Int32).toNatClampNeg))) (18 : Int32).toNatClampNeg) ^^^ (-1))))))), (a3, .inl (cj3, 19, .inr (.inl st.2.2.1))), (a4, .inl (cj4, 19, .inr (.inl st.2.2.2.1))), (a5, .inl (cj5, 19, .inr (.inl st.2.2.2.2.1))), (a6, .inl (cj6, 19, .inr (.inl st.2.2.2.2.2)))]) H := hP
      have hD : va_D A ([(h0, .inr (4, [.int th, .ref a1, .ref a2, .ref a3, .ref a4, .ref a5, .ref a6])), (a1, .inl (cj1, 19, .inr (.inl (vp_updL st.1 (18 : Int32).toNatClampNeg ((st.1 (16 : Int32).toNatClampNeg) ||| (st.1 (17 : Int32).toNatClampNeg)))))), (a2, .inl (cj2, 19, .inr (.inl (vp_updL st.2.1 (18 : Int32).toNatClampNeg (((st.2.1 (16 : Int32).toNatClampNeg) ||| (st.2.1 (17 : Int32).toNatClampNeg)) &&& (((vp_updL st.1 (18 : Int32).toNatClampNeg ((st.1 (16 : Int32).toNatClampNeg) ||| (st.1 (17 : Int32).toNatClampNeg))) (18 : Int32).toNatClampNeg) ^^^ (-1))))))), (a3, .inl (cj3, 19, .inr (.inl st.2.2.1))), (a4, .inl (cj4, 19, .inr (.inl st.2.2.2.1))), (a5, .inl (cj5, 19, .inr (.inl st.2.2.2.2.1))), (a6, .inl (cj6, 19, .inr (.inl st.2.2.2.2.2)))]) := hD
      refine va_last hx hb hK hP hD hS 3 2 rfl rfl (vp_in_iff.mpr (by decide)) dM_logic_189 (fun H locs hP hD hS => ?_)
      have hP : va_P D vwCl ([(h0, .inr (4, [.int th, .ref a1, .ref a2, .ref a3, .ref a4, .ref a5, .ref a6])), (a1, .inl (cj1, 19, .inr (.inl (vp_updL st.1 (18 : Int32).toNatClampNeg ((st.1 (16 : Int32).toNatClampNeg) ||| (st.1 (17 : Int32).toNatClampNeg)))))), (a2, .inl (cj2, 19, .inr (.inl (vp_updL st.2.1 (18 : Int32).toNatClampNeg (((st.2.1 (16 : Int32).toNatClampNeg) ||| (st.2.1 (17 : Int32).toNatClampNeg)) &&& (((vp_updL st.1 (18 : Int32).toNatClampNeg ((st.1 (16 : Int32).toNatClampNeg) ||| (st.1 (17 : Int32).toNatClampNeg))) (18 : Int32).toNatClampNeg) ^^^ (-1))))))), (a3, .inl (cj3, 19, .inr (.inl (vp_updL st.2.2.1 (18 : Int32).toNatClampNeg (f_M_greater (st.2.2.1 (16 : Int32).toNatClampNeg) (st.2.2.1 (17 : Int32).toNatClampNeg)))))), (a4, .inl (cj4, 19, .inr (.inl st.2.2.2.1))), (a5, .inl (cj5, 19, .inr (.inl st.2.2.2.2.1))), (a6, .inl (cj6, 19, .inr (.inl st.2.2.2.2.2)))]) H := hP
      have hD : va_D A ([(h0, .inr (4, [.int th, .ref a1, .ref a2, .ref a3, .ref a4, .ref a5, .ref a6])), (a1, .inl (cj1, 19, .inr (.inl (vp_updL st.1 (18 : Int32).toNatClampNeg ((st.1 (16 : Int32).toNatClampNeg) ||| (st.1 (17 : Int32).toNatClampNeg)))))), (a2, .inl (cj2, 19, .inr (.inl (vp_updL st.2.1 (18 : Int32).toNatClampNeg (((st.2.1 (16 : Int32).toNatClampNeg) ||| (st.2.1 (17 : Int32).toNatClampNeg)) &&& (((vp_updL st.1 (18 : Int32).toNatClampNeg ((st.1 (16 : Int32).toNatClampNeg) ||| (st.1 (17 : Int32).toNatClampNeg))) (18 : Int32).toNatClampNeg) ^^^ (-1))))))), (a3, .inl (cj3, 19, .inr (.inl (vp_updL st.2.2.1 (18 : Int32).toNatClampNeg (f_M_greater (st.2.2.1 (16 : Int32).toNatClampNeg) (st.2.2.1 (17 : Int32).toNatClampNeg)))))), (a4, .inl (cj4, 19, .inr (.inl st.2.2.2.1))), (a5, .inl (cj5, 19, .inr (.inl st.2.2.2.2.1))), (a6, .inl (cj6, 19, .inr (.inl st.2.2.2.2.2)))]) := hD
      refine lv_goto (tgt := 249) hx hb dM_logic_190 (by decide) ?_
      have e9 : f_M_logic st p1 = (vp_updL st.1 (18 : Int32).toNatClampNeg ((st.1 (16 : Int32).toNatClampNeg) ||| (st.1 (17 : Int32).toNatClampNeg)), vp_updL st.2.1 (18 : Int32).toNatClampNeg (((st.2.1 (16 : Int32).toNatClampNeg) ||| (st.2.1 (17 : Int32).toNatClampNeg)) &&& (((vp_updL st.1 (18 : Int32).toNatClampNeg ((st.1 (16 : Int32).toNatClampNeg) ||| (st.1 (17 : Int32).toNatClampNeg))) (18 : Int32).toNatClampNeg) ^^^ (-1))), vp_updL st.2.2.1 (18 : Int32).toNatClampNeg (f_M_greater (st.2.2.1 (16 : Int32).toNatClampNeg) (st.2.2.1 (17 : Int32).toNatClampNeg)), st.2.2.2.1, st.2.2.2.2.1, st.2.2.2.2.2) := (if_neg c1).trans ((if_pos c2).trans (rfl))
      rw [e9]
      exact sp_vret C hAe hP hK hD hS dM_logic_249
  · refine lv_aload_n hx hb dM_logic_5 rfl (lv_at hl 0 rfl) ?_
    refine va_get (D := D) (ci := 4) (v := .ref a1) (C := RM) (T := TM) (N := 7) hx hb hts hi4 hown hK hP 0 rfl rfl 1 (by decide) hk1 (fun _ h9 => h9) rfl dM_logic_6 ?_
    refine lv_bipush (v := 18) hx hb dM_logic_9 (by decide) ?_
    refine lv_aload_n hx hb dM_logic_11 rfl (lv_at hl 0 rfl) ?_
    refine va_get (D := D) (ci := 4) (v := .ref a1) (C := RM) (T := TM) (N := 7) hx hb hts hi4 hown hK hP 0 rfl rfl 1 (by decide) hk1 (fun _ h9 => h9) rfl dM_logic_12 ?_
    refine lv_bipush (v := 16) hx hb dM_logic_15 (by decide) ?_
    refine va_lald hx hb hK hP 1 0 rfl rfl (vp_in_iff.mpr (by decide)) dM_logic_17 ?_
    refine lv_aload_n hx hb dM_logic_18 rfl (lv_at hl 0 rfl) ?_
    refine va_get (D := D) (ci := 4) (v := .ref a1) (C := RM) (T := TM) (N := 7) hx hb hts hi4 hown hK hP 0 rfl rfl 1 (by decide) hk1 (fun _ h9 => h9) rfl dM_logic_19 ?_
    refine lv_bipush (v := 17) hx hb dM_logic_22 (by decide) ?_
    refine va_lald hx hb hK hP 1 0 rfl rfl (vp_in_iff.mpr (by decide)) dM_logic_24 ?_
    refine lv_land hx hb dM_logic_25 ?_
    refine va_last hx hb hK hP hD hS 1 0 rfl rfl (vp_in_iff.mpr (by decide)) dM_logic_26 (fun H locs hP hD hS => ?_)
    have hP : va_P D vwCl ([(h0, .inr (4, [.int th, .ref a1, .ref a2, .ref a3, .ref a4, .ref a5, .ref a6])), (a1, .inl (cj1, 19, .inr (.inl (vp_updL st.1 (18 : Int32).toNatClampNeg ((st.1 (16 : Int32).toNatClampNeg) &&& (st.1 (17 : Int32).toNatClampNeg)))))), (a2, .inl (cj2, 19, .inr (.inl st.2.1))), (a3, .inl (cj3, 19, .inr (.inl st.2.2.1))), (a4, .inl (cj4, 19, .inr (.inl st.2.2.2.1))), (a5, .inl (cj5, 19, .inr (.inl st.2.2.2.2.1))), (a6, .inl (cj6, 19, .inr (.inl st.2.2.2.2.2)))]) H := hP
    have hD : va_D A ([(h0, .inr (4, [.int th, .ref a1, .ref a2, .ref a3, .ref a4, .ref a5, .ref a6])), (a1, .inl (cj1, 19, .inr (.inl (vp_updL st.1 (18 : Int32).toNatClampNeg ((st.1 (16 : Int32).toNatClampNeg) &&& (st.1 (17 : Int32).toNatClampNeg)))))), (a2, .inl (cj2, 19, .inr (.inl st.2.1))), (a3, .inl (cj3, 19, .inr (.inl st.2.2.1))), (a4, .inl (cj4, 19, .inr (.inl st.2.2.2.1))), (a5, .inl (cj5, 19, .inr (.inl st.2.2.2.2.1))), (a6, .inl (cj6, 19, .inr (.inl st.2.2.2.2.2)))]) := hD
    refine lv_aload_n hx hb dM_logic_27 rfl (lv_at hl 0 rfl) ?_
    refine va_get (D := D) (ci := 4) (v := .ref a2) (C := RM) (T := TM) (N := 7) hx hb hts hi4 hown hK hP 0 rfl rfl 2 (by decide) hk0 (fun _ h9 => h9) rfl dM_logic_28 ?_
    refine lv_bipush (v := 18) hx hb dM_logic_31 (by decide) ?_
    refine lv_aload_n hx hb dM_logic_33 rfl (lv_at hl 0 rfl) ?_
    refine va_get (D := D) (ci := 4) (v := .ref a1) (C := RM) (T := TM) (N := 7) hx hb hts hi4 hown hK hP 0 rfl rfl 1 (by decide) hk1 (fun _ h9 => h9) rfl dM_logic_34 ?_
    refine lv_bipush (v := 16) hx hb dM_logic_37 (by decide) ?_
    refine va_lald hx hb hK hP 1 0 rfl rfl (vp_in_iff.mpr (by decide)) dM_logic_39 ?_
    refine lv_aload_n hx hb dM_logic_40 rfl (lv_at hl 0 rfl) ?_
    refine va_get (D := D) (ci := 4) (v := .ref a2) (C := RM) (T := TM) (N := 7) hx hb hts hi4 hown hK hP 0 rfl rfl 2 (by decide) hk0 (fun _ h9 => h9) rfl dM_logic_41 ?_
    refine lv_bipush (v := 16) hx hb dM_logic_44 (by decide) ?_
    refine va_lald hx hb hK hP 2 1 rfl rfl (vp_in_iff.mpr (by decide)) dM_logic_46 ?_
    refine lv_lor hx hb dM_logic_47 ?_
    refine lv_aload_n hx hb dM_logic_48 rfl (lv_at hl 0 rfl) ?_
    refine va_get (D := D) (ci := 4) (v := .ref a1) (C := RM) (T := TM) (N := 7) hx hb hts hi4 hown hK hP 0 rfl rfl 1 (by decide) hk1 (fun _ h9 => h9) rfl dM_logic_49 ?_
    refine lv_bipush (v := 17) hx hb dM_logic_52 (by decide) ?_
    refine va_lald hx hb hK hP 1 0 rfl rfl (vp_in_iff.mpr (by decide)) dM_logic_54 ?_
    refine lv_aload_n hx hb dM_logic_55 rfl (lv_at hl 0 rfl) ?_
    refine va_get (D := D) (ci := 4) (v := .ref a2) (C := RM) (T := TM) (N := 7) hx hb hts hi4 hown hK hP 0 rfl rfl 2 (by decide) hk0 (fun _ h9 => h9) rfl dM_logic_56 ?_
    refine lv_bipush (v := 17) hx hb dM_logic_59 (by decide) ?_
    refine va_lald hx hb hK hP 2 1 rfl rfl (vp_in_iff.mpr (by decide)) dM_logic_61 ?_
    refine lv_lor hx hb dM_logic_62 ?_
    refine lv_land hx hb dM_logic_63 ?_
    refine lv_aload_n hx hb dM_logic_64 rfl (lv_at hl 0 rfl) ?_
    refine va_get (D := D) (ci := 4) (v := .ref a1) (C := RM) (T := TM) (N := 7) hx hb hts hi4 hown hK hP 0 rfl rfl 1 (by decide) hk1 (fun _ h9 => h9) rfl dM_logic_65 ?_
    refine lv_bipush (v := 18) hx hb dM_logic_68 (by decide) ?_
    refine va_lald hx hb hK hP 1 0 rfl rfl (vp_in_iff.mpr (by decide)) dM_logic_70 ?_
    refine lv_ldc2 (v := (-1)) hx hb hown hk2 dM_logic_71 ?_
    refine lv_lxor hx hb dM_logic_74 ?_
    refine lv_land hx hb dM_logic_75 ?_
    refine va_last hx hb hK hP hD hS 2 1 rfl rfl (vp_in_iff.mpr (by decide)) dM_logic_76 (fun H locs hP hD hS => ?_)
    have hP : va_P D vwCl ([(h0, .inr (4, [.int th, .ref a1, .ref a2, .ref a3, .ref a4, .ref a5, .ref a6])), (a1, .inl (cj1, 19, .inr (.inl (vp_updL st.1 (18 : Int32).toNatClampNeg ((st.1 (16 : Int32).toNatClampNeg) &&& (st.1 (17 : Int32).toNatClampNeg)))))), (a2, .inl (cj2, 19, .inr (.inl (vp_updL st.2.1 (18 : Int32).toNatClampNeg (((((vp_updL st.1 (18 : Int32).toNatClampNeg ((st.1 (16 : Int32).toNatClampNeg) &&& (st.1 (17 : Int32).toNatClampNeg))) (16 : Int32).toNatClampNeg) ||| (st.2.1 (16 : Int32).toNatClampNeg)) &&& (((vp_updL st.1 (18 : Int32).toNatClampNeg ((st.1 (16 : Int32).toNatClampNeg) &&& (st.1 (17 : Int32).toNatClampNeg))) (17 : Int32).toNatClampNeg) ||| (st.2.1 (17 : Int32).toNatClampNeg))) &&& (((vp_updL st.1 (18 : Int32).toNatClampNeg ((st.1 (16 : Int32).toNatClampNeg) &&& (st.1 (17 : Int32).toNatClampNeg))) (18 : Int32).toNatClampNeg) ^^^ (-1))))))), (a3, .inl (cj3, 19, .inr (.inl st.2.2.1))), (a4, .inl (cj4, 19, .inr (.inl st.2.2.2.1))), (a5, .inl (cj5, 19, .inr (.inl st.2.2.2.2.1))), (a6, .inl (cj6, 19, .inr (.inl st.2.2.2.2.2)))]) H := hP
    have hD : va_D A ([(h0, .inr (4, [.int th, .ref a1, .ref a2, .ref a3, .ref a4, .ref a5, .ref a6])), (a1, .inl (cj1, 19, .inr (.inl (vp_updL st.1 (18 : Int32).toNatClampNeg ((st.1 (16 : Int32).toNatClampNeg) &&& (st.1 (17 : Int32).toNatClampNeg)))))), (a2, .inl (cj2, 19, .inr (.inl (vp_updL st.2.1 (18 : Int32).toNatClampNeg (((((vp_updL st.1 (18 : Int32).toNatClampNeg ((st.1 (16 : Int32).toNatClampNeg) &&& (st.1 (17 : Int32).toNatClampNeg))) (16 : Int32).toNatClampNeg) ||| (st.2.1 (16 : Int32).toNatClampNeg)) &&& (((vp_updL st.1 (18 : Int32).toNatClampNeg ((st.1 (16 : Int32).toNatClampNeg) &&& (st.1 (17 : Int32).toNatClampNeg))) (17 : Int32).toNatClampNeg) ||| (st.2.1 (17 : Int32).toNatClampNeg))) &&& (((vp_updL st.1 (18 : Int32).toNatClampNeg ((st.1 (16 : Int32).toNatClampNeg) &&& (st.1 (17 : Int32).toNatClampNeg))) (18 : Int32).toNatClampNeg) ^^^ (-1))))))), (a3, .inl (cj3, 19, .inr (.inl st.2.2.1))), (a4, .inl (cj4, 19, .inr (.inl st.2.2.2.1))), (a5, .inl (cj5, 19, .inr (.inl st.2.2.2.2.1))), (a6, .inl (cj6, 19, .inr (.inl st.2.2.2.2.2)))]) := hD
    refine lv_aload_n hx hb dM_logic_77 rfl (lv_at hl 0 rfl) ?_
    refine va_get (D := D) (ci := 4) (v := .ref a4) (C := RM) (T := TM) (N := 7) hx hb hts hi4 hown hK hP 0 rfl rfl 4 (by decide) hk4 (fun _ h9 => h9) rfl dM_logic_78 ?_
    refine lv_bipush (v := 18) hx hb dM_logic_81 (by decide) ?_
    refine lv_aload_n hx hb dM_logic_83 rfl (lv_at hl 0 rfl) ?_
    refine va_get (D := D) (ci := 4) (v := .ref a4) (C := RM) (T := TM) (N := 7) hx hb hts hi4 hown hK hP 0 rfl rfl 4 (by decide) hk4 (fun _ h9 => h9) rfl dM_logic_84 ?_
    refine lv_bipush (v := 16) hx hb dM_logic_87 (by decide) ?_
    refine va_lald hx hb hK hP 4 3 rfl rfl (vp_in_iff.mpr (by decide)) dM_logic_89 ?_
    refine lv_aload_n hx hb dM_logic_90 rfl (lv_at hl 0 rfl) ?_
    refine va_get (D := D) (ci := 4) (v := .ref a4) (C := RM) (T := TM) (N := 7) hx hb hts hi4 hown hK hP 0 rfl rfl 4 (by decide) hk4 (fun _ h9 => h9) rfl dM_logic_91 ?_
    refine lv_bipush (v := 17) hx hb dM_logic_94 (by decide) ?_
    refine va_lald hx hb hK hP 4 3 rfl rfl (vp_in_iff.mpr (by decide)) dM_logic_96 ?_
    refine sp_calll (sp_runS (As := [.long (st.2.2.2.1 (16 : Int32).toNatClampNeg), .long (st.2.2.2.1 (17 : Int32).toNatClampNeg)]) (rest := [.int 18, .ref a4]) C (c_M_lesser l D (st.2.2.2.1 (16 : Int32).toNatClampNeg) (st.2.2.2.1 (17 : Int32).toNatClampNeg)) (va_cwS 2 hts (gS wG_c wm_393 wm_394 wm_378 wm_392) rfl rfl rfl (by decide +kernel) ⟨Nat.le_of_ble_eq_true rfl, Nat.le_of_ble_eq_true rfl⟩) hK hP hD [] (by decide) rfl [] rfl rfl hl.1 rfl (Nat.le_of_ble_eq_true rfl) dM_logic_97 ⟨Nat.le_of_ble_eq_true rfl, Nat.le_of_ble_eq_true rfl⟩) hP hD hS hA [] rfl sp_f0 (fun H locs hP hD hS => ?_)
    have hP : va_P D vwCl ([(h0, .inr (4, [.int th, .ref a1, .ref a2, .ref a3, .ref a4, .ref a5, .ref a6])), (a1, .inl (cj1, 19, .inr (.inl (vp_updL st.1 (18 : Int32).toNatClampNeg ((st.1 (16 : Int32).toNatClampNeg) &&& (st.1 (17 : Int32).toNatClampNeg)))))), (a2, .inl (cj2, 19, .inr (.inl (vp_updL st.2.1 (18 : Int32).toNatClampNeg (((((vp_updL st.1 (18 : Int32).toNatClampNeg ((st.1 (16 : Int32).toNatClampNeg) &&& (st.1 (17 : Int32).toNatClampNeg))) (16 : Int32).toNatClampNeg) ||| (st.2.1 (16 : Int32).toNatClampNeg)) &&& (((vp_updL st.1 (18 : Int32).toNatClampNeg ((st.1 (16 : Int32).toNatClampNeg) &&& (st.1 (17 : Int32).toNatClampNeg))) (17 : Int32).toNatClampNeg) ||| (st.2.1 (17 : Int32).toNatClampNeg))) &&& (((vp_updL st.1 (18 : Int32).toNatClampNeg ((st.1 (16 : Int32).toNatClampNeg) &&& (st.1 (17 : Int32).toNatClampNeg))) (18 : Int32).toNatClampNeg) ^^^ (-1))))))), (a3, .inl (cj3, 19, .inr (.inl st.2.2.1))), (a4, .inl (cj4, 19, .inr (.inl st.2.2.2.1))), (a5, .inl (cj5, 19, .inr (.inl st.2.2.2.2.1))), (a6, .inl (cj6, 19, .inr (.inl st.2.2.2.2.2)))]) H := hP
    have hD : va_D A ([(h0, .inr (4, [.int th, .ref a1, .ref a2, .ref a3, .ref a4, .ref a5, .ref a6])), (a1, .inl (cj1, 19, .inr (.inl (vp_updL st.1 (18 : Int32).toNatClampNeg ((st.1 (16 : Int32).toNatClampNeg) &&& (st.1 (17 : Int32).toNatClampNeg)))))), (a2, .inl (cj2, 19, .inr (.inl (vp_updL st.2.1 (18 : Int32).toNatClampNeg (((((vp_updL st.1 (18 : Int32).toNatClampNeg ((st.1 (16 : Int32).toNatClampNeg) &&& (st.1 (17 : Int32).toNatClampNeg))) (16 : Int32).toNatClampNeg) ||| (st.2.1 (16 : Int32).toNatClampNeg)) &&& (((vp_updL st.1 (18 : Int32).toNatClampNeg ((st.1 (16 : Int32).toNatClampNeg) &&& (st.1 (17 : Int32).toNatClampNeg))) (17 : Int32).toNatClampNeg) ||| (st.2.1 (17 : Int32).toNatClampNeg))) &&& (((vp_updL st.1 (18 : Int32).toNatClampNeg ((st.1 (16 : Int32).toNatClampNeg) &&& (st.1 (17 : Int32).toNatClampNeg))) (18 : Int32).toNatClampNeg) ^^^ (-1))))))), (a3, .inl (cj3, 19, .inr (.inl st.2.2.1))), (a4, .inl (cj4, 19, .inr (.inl st.2.2.2.1))), (a5, .inl (cj5, 19, .inr (.inl st.2.2.2.2.1))), (a6, .inl (cj6, 19, .inr (.inl st.2.2.2.2.2)))]) := hD
    refine va_last hx hb hK hP hD hS 4 3 rfl rfl (vp_in_iff.mpr (by decide)) dM_logic_100 (fun H locs hP hD hS => ?_)
    have hP : va_P D vwCl ([(h0, .inr (4, [.int th, .ref a1, .ref a2, .ref a3, .ref a4, .ref a5, .ref a6])), (a1, .inl (cj1, 19, .inr (.inl (vp_updL st.1 (18 : Int32).toNatClampNeg ((st.1 (16 : Int32).toNatClampNeg) &&& (st.1 (17 : Int32).toNatClampNeg)))))), (a2, .inl (cj2, 19, .inr (.inl (vp_updL st.2.1 (18 : Int32).toNatClampNeg (((((vp_updL st.1 (18 : Int32).toNatClampNeg ((st.1 (16 : Int32).toNatClampNeg) &&& (st.1 (17 : Int32).toNatClampNeg))) (16 : Int32).toNatClampNeg) ||| (st.2.1 (16 : Int32).toNatClampNeg)) &&& (((vp_updL st.1 (18 : Int32).toNatClampNeg ((st.1 (16 : Int32).toNatClampNeg) &&& (st.1 (17 : Int32).toNatClampNeg))) (17 : Int32).toNatClampNeg) ||| (st.2.1 (17 : Int32).toNatClampNeg))) &&& (((vp_updL st.1 (18 : Int32).toNatClampNeg ((st.1 (16 : Int32).toNatClampNeg) &&& (st.1 (17 : Int32).toNatClampNeg))) (18 : Int32).toNatClampNeg) ^^^ (-1))))))), (a3, .inl (cj3, 19, .inr (.inl st.2.2.1))), (a4, .inl (cj4, 19, .inr (.inl (vp_updL st.2.2.2.1 (18 : Int32).toNatClampNeg (f_M_lesser (st.2.2.2.1 (16 : Int32).toNatClampNeg) (st.2.2.2.1 (17 : Int32).toNatClampNeg)))))), (a5, .inl (cj5, 19, .inr (.inl st.2.2.2.2.1))), (a6, .inl (cj6, 19, .inr (.inl st.2.2.2.2.2)))]) H := hP
    have hD : va_D A ([(h0, .inr (4, [.int th, .ref a1, .ref a2, .ref a3, .ref a4, .ref a5, .ref a6])), (a1, .inl (cj1, 19, .inr (.inl (vp_updL st.1 (18 : Int32).toNatClampNeg ((st.1 (16 : Int32).toNatClampNeg) &&& (st.1 (17 : Int32).toNatClampNeg)))))), (a2, .inl (cj2, 19, .inr (.inl (vp_updL st.2.1 (18 : Int32).toNatClampNeg (((((vp_updL st.1 (18 : Int32).toNatClampNeg ((st.1 (16 : Int32).toNatClampNeg) &&& (st.1 (17 : Int32).toNatClampNeg))) (16 : Int32).toNatClampNeg) ||| (st.2.1 (16 : Int32).toNatClampNeg)) &&& (((vp_updL st.1 (18 : Int32).toNatClampNeg ((st.1 (16 : Int32).toNatClampNeg) &&& (st.1 (17 : Int32).toNatClampNeg))) (17 : Int32).toNatClampNeg) ||| (st.2.1 (17 : Int32).toNatClampNeg))) &&& (((vp_updL st.1 (18 : Int32).toNatClampNeg ((st.1 (16 : Int32).toNatClampNeg) &&& (st.1 (17 : Int32).toNatClampNeg))) (18 : Int32).toNatClampNeg) ^^^ (-1))))))), (a3, .inl (cj3, 19, .inr (.inl st.2.2.1))), (a4, .inl (cj4, 19, .inr (.inl (vp_updL st.2.2.2.1 (18 : Int32).toNatClampNeg (f_M_lesser (st.2.2.2.1 (16 : Int32).toNatClampNeg) (st.2.2.2.1 (17 : Int32).toNatClampNeg)))))), (a5, .inl (cj5, 19, .inr (.inl st.2.2.2.2.1))), (a6, .inl (cj6, 19, .inr (.inl st.2.2.2.2.2)))]) := hD
    refine lv_goto (tgt := 249) hx hb dM_logic_101 (by decide) ?_
    have e9 : f_M_logic st p1 = (vp_updL st.1 (18 : Int32).toNatClampNeg ((st.1 (16 : Int32).toNatClampNeg) &&& (st.1 (17 : Int32).toNatClampNeg)), vp_updL st.2.1 (18 : Int32).toNatClampNeg (((((vp_updL st.1 (18 : Int32).toNatClampNeg ((st.1 (16 : Int32).toNatClampNeg) &&& (st.1 (17 : Int32).toNatClampNeg))) (16 : Int32).toNatClampNeg) ||| (st.2.1 (16 : Int32).toNatClampNeg)) &&& (((vp_updL st.1 (18 : Int32).toNatClampNeg ((st.1 (16 : Int32).toNatClampNeg) &&& (st.1 (17 : Int32).toNatClampNeg))) (17 : Int32).toNatClampNeg) ||| (st.2.1 (17 : Int32).toNatClampNeg))) &&& (((vp_updL st.1 (18 : Int32).toNatClampNeg ((st.1 (16 : Int32).toNatClampNeg) &&& (st.1 (17 : Int32).toNatClampNeg))) (18 : Int32).toNatClampNeg) ^^^ (-1))), st.2.2.1, vp_updL st.2.2.2.1 (18 : Int32).toNatClampNeg (f_M_lesser (st.2.2.2.1 (16 : Int32).toNatClampNeg) (st.2.2.2.1 (17 : Int32).toNatClampNeg)), st.2.2.2.2.1, st.2.2.2.2.2) := (if_pos c1).trans (rfl)
    rw [e9]
    exact sp_vret C hAe hP hK hD hS dM_logic_249
def f_M_shift (st : Md) (p1 : Int32) (p2 : Int32) : Md :=
  if p1 = 8 then (if p2 = 0 then (vp_updL st.1 (18 : Int32).toNatClampNeg ((st.1 (16 : Int32).toNatClampNeg) <<< (p2.toInt64 &&& 63)), vp_updL st.2.1 (18 : Int32).toNatClampNeg ((st.2.1 (16 : Int32).toNatClampNeg) <<< (p2.toInt64 &&& 63)), vp_updL st.2.2.1 (18 : Int32).toNatClampNeg ((st.2.2.1 (16 : Int32).toNatClampNeg) <<< (p2.toInt64 &&& 63)), vp_updL st.2.2.2.1 (18 : Int32).toNatClampNeg ((st.2.2.2.1 (16 : Int32).toNatClampNeg) <<< (p2.toInt64 &&& 63)), st.2.2.2.2.1, st.2.2.2.2.2)
    else if (lg_cmp (((st.2.2.2.1 (16 : Int32).toNatClampNeg).toUInt64 >>> ((64 - p2).toInt64.toUInt64 &&& Int64.toUInt64 63)).toInt64) 0) = 0 then (vp_updL st.1 (18 : Int32).toNatClampNeg ((st.1 (16 : Int32).toNatClampNeg) <<< (p2.toInt64 &&& 63)), vp_updL st.2.1 (18 : Int32).toNatClampNeg ((st.2.1 (16 : Int32).toNatClampNeg) <<< (p2.toInt64 &&& 63)), vp_updL st.2.2.1 (18 : Int32).toNatClampNeg ((st.2.2.1 (16 : Int32).toNatClampNeg) <<< (p2.toInt64 &&& 63)), vp_updL st.2.2.2.1 (18 : Int32).toNatClampNeg ((st.2.2.2.1 (16 : Int32).toNatClampNeg) <<< (p2.toInt64 &&& 63)), st.2.2.2.2.1, st.2.2.2.2.2)
    else (vp_updL st.1 (18 : Int32).toNatClampNeg ((st.1 (16 : Int32).toNatClampNeg) <<< (p2.toInt64 &&& 63)), vp_updL st.2.1 (18 : Int32).toNatClampNeg ((st.2.1 (16 : Int32).toNatClampNeg) <<< (p2.toInt64 &&& 63)), st.2.2.1, st.2.2.2.1, st.2.2.2.2.1, st.2.2.2.2.2))
  else if p1 = 9 then (vp_updL st.1 (18 : Int32).toNatClampNeg (((st.1 (16 : Int32).toNatClampNeg).toUInt64 >>> (p2.toInt64.toUInt64 &&& Int64.toUInt64 63)).toInt64), vp_updL st.2.1 (18 : Int32).toNatClampNeg (((st.2.1 (16 : Int32).toNatClampNeg).toUInt64 >>> (p2.toInt64.toUInt64 &&& Int64.toUInt64 63)).toInt64), vp_updL st.2.2.1 (18 : Int32).toNatClampNeg (((st.2.2.1 (16 : Int32).toNatClampNeg).toUInt64 >>> (p2.toInt64.toUInt64 &&& Int64.toUInt64 63)).toInt64), vp_updL st.2.2.2.1 (18 : Int32).toNatClampNeg (((st.2.2.2.1 (16 : Int32).toNatClampNeg).toUInt64 >>> (p2.toInt64.toUInt64 &&& Int64.toUInt64 63)).toInt64), st.2.2.2.2.1, st.2.2.2.2.2)
  else (vp_updL st.1 (18 : Int32).toNatClampNeg ((st.1 (16 : Int32).toNatClampNeg) >>> (p2.toInt64 &&& 63)), vp_updL st.2.1 (18 : Int32).toNatClampNeg ((st.2.1 (16 : Int32).toNatClampNeg) >>> (p2.toInt64 &&& 63)), st.2.2.1, st.2.2.2.1, vp_updL st.2.2.2.2.1 (18 : Int32).toNatClampNeg ((st.2.2.2.2.1 (16 : Int32).toNatClampNeg) >>> (p2.toInt64 &&& 63)), vp_updL st.2.2.2.2.2 (18 : Int32).toNatClampNeg ((st.2.2.2.2.2 (16 : Int32).toNatClampNeg) >>> (p2.toInt64 &&& 63)))
set_option maxHeartbeats 4000000 in
set_option maxRecDepth 100000 in
theorem c_M_shift (l : Launch) (D : va_G) (h0 : Nat) (a1 : Nat) (a2 : Nat) (a3 : Nat) (a4 : Nat) (a5 : Nat) (a6 : Nat) (cj1 cj2 cj3 cj4 cj5 cj6 : ClassId) (th : Int32) (st : Md) (p1 : Int32) (p2 : Int32) : sp_M l yM_shift wsM_shift ({ frames := 0, cells := 0, slots := 0, locals := 0 }) D [.ref h0, .int p1, .int p2] ([(h0, .inr (4, [.int th, .ref a1, .ref a2, .ref a3, .ref a4, .ref a5, .ref a6])), (a1, .inl (cj1, 19, .inr (.inl st.1))), (a2, .inl (cj2, 19, .inr (.inl st.2.1))), (a3, .inl (cj3, 19, .inr (.inl st.2.2.1))), (a4, .inl (cj4, 19, .inr (.inl st.2.2.2.1))), (a5, .inl (cj5, 19, .inr (.inl st.2.2.2.2.1))), (a6, .inl (cj6, 19, .inr (.inl st.2.2.2.2.2)))]) [(cj1, .long), (cj2, .long), (cj3, .long), (cj4, .long), (cj5, .long), (cj6, .long)] (sp_Qv D ([(h0, .inr (4, [.int th, .ref a1, .ref a2, .ref a3, .ref a4, .ref a5, .ref a6])), (a1, .inl (cj1, 19, .inr (.inl st.1))), (a2, .inl (cj2, 19, .inr (.inl st.2.1))), (a3, .inl (cj3, 19, .inr (.inl st.2.2.1))), (a4, .inl (cj4, 19, .inr (.inl st.2.2.2.1))), (a5, .inl (cj5, 19, .inr (.inl st.2.2.2.2.1))), (a6, .inl (cj6, 19, .inr (.inl st.2.2.2.2.2)))]) ([(h0, .inr (4, [.int th, .ref a1, .ref a2, .ref a3, .ref a4, .ref a5, .ref a6])), (a1, .inl (cj1, 19, .inr (.inl ((f_M_shift st p1 p2).1)))), (a2, .inl (cj2, 19, .inr (.inl ((f_M_shift st p1 p2).2.1)))), (a3, .inl (cj3, 19, .inr (.inl ((f_M_shift st p1 p2).2.2.1)))), (a4, .inl (cj4, 19, .inr (.inl ((f_M_shift st p1 p2).2.2.2.1)))), (a5, .inl (cj5, 19, .inr (.inl ((f_M_shift st p1 p2).2.2.2.2.1)))), (a6, .inl (cj6, 19, .inr (.inl ((f_M_shift st p1 p2).2.2.2.2.2))))]) [(cj1, .long), (cj2, .long), (cj3, .long), (cj4, .long), (cj5, .long), (cj6, .long)]) := by
  refine sp_ofW (cc := cM_shift) (nL := 3) (ret := none) (own := RM) (by decide) rfl rfl (Nat.le_of_ble_eq_true rfl) ?_
  intro p e s m below meth c A ls hAe hnm C hA hP hK hD hS hl
  have hx := C.1
  have hb := C.2.1
  have hown := C.2.2.2.2.1
  have hts := C.2.2.2.2.2.1
  have hl : lv_has ls 3 [(0, .ref h0), (1, .int p1), (2, .int p2)] := hl
  have hi4 : ∀ w ∈ u_ws RM TM 7, w ∈ wsM_shift := fun w h => List.mem_cons_of_mem _ (inM w h)
  have hk0 := hts _ (List.mem_cons_of_mem _ wm_382)
  have hk1 := hts _ (List.mem_cons_of_mem _ wm_383)
  have hk2 := hts _ (List.mem_cons_of_mem _ wm_386)
  have hk3 := hts _ (List.mem_cons_of_mem _ wm_387)
  have hk4 := hts _ (List.mem_cons_of_mem _ wm_384)
  have hk5 := hts _ (List.mem_cons_of_mem _ wm_385)
  refine lv_iload_n hx hb dM_shift_0 rfl (lv_at hl 1 rfl) ?_
  refine lv_bipush (v := 8) hx hb dM_shift_1 (by decide) ?_
  refine lv_icmp_ne (tgt := 94) hx hb dM_shift_3 (by decide) (fun c1 => ?_) (fun c1 => ?_)
  · refine lv_iload_n hx hb dM_shift_94 rfl (lv_at hl 1 rfl) ?_
    refine lv_bipush (v := 9) hx hb dM_shift_95 (by decide) ?_
    refine lv_icmp_ne (tgt := 167) hx hb dM_shift_97 (by decide) (fun c2 => ?_) (fun c2 => ?_)
    · refine lv_aload_n hx hb dM_shift_167 rfl (lv_at hl 0 rfl) ?_
      refine va_get (D := D) (ci := 4) (v := .ref a1) (C := RM) (T := TM) (N := 7) hx hb hts hi4 hown hK hP 0 rfl rfl 1 (by decide) hk0 (fun _ h9 => h9) rfl dM_shift_168 ?_
      refine lv_bipush (v := 18) hx hb dM_shift_171 (by decide) ?_
      refine lv_aload_n hx hb dM_shift_173 rfl (lv_at hl 0 rfl) ?_
      refine va_get (D := D) (ci := 4) (v := .ref a1) (C := RM) (T := TM) (N := 7) hx hb hts hi4 hown hK hP 0 rfl rfl 1 (by decide) hk0 (fun _ h9 => h9) rfl dM_shift_174 ?_
      refine lv_bipush (v := 16) hx hb dM_shift_177 (by decide) ?_
      refine va_lald hx hb hK hP 1 0 rfl rfl (vp_in_iff.mpr (by decide)) dM_shift_179 ?_
      refine lv_iload_n hx hb dM_shift_180 rfl (lv_at hl 2 rfl) ?_
      refine lv_lshr (v := (st.1 (16 : Int32).toNatClampNeg) >>> (p2.toInt64 &&& 63)) hx hb dM_shift_181 rfl ?_
      refine va_last hx hb hK hP hD hS 1 0 rfl rfl (vp_in_iff.mpr (by decide)) dM_shift_182 (fun H locs hP hD hS => ?_)
      have hP : va_P D vwCl ([(h0, .inr (4, [.int th, .ref a1, .ref a2, .ref a3, .ref a4, .ref a5, .ref a6])), (a1, .inl (cj1, 19, .inr (.inl (vp_updL st.1 (18 : Int32).toNatClampNeg ((st.1 (16 : Int32).toNatClampNeg) >>> (p2.toInt64 &&& 63)))))), (a2, .inl (cj2, 19, .inr (.inl st.2.1))), (a3, .inl (cj3, 19, .inr (.inl st.2.2.1))), (a4, .inl (cj4, 19, .inr (.inl st.2.2.2.1))), (a5, .inl (cj5, 19, .inr (.inl st.2.2.2.2.1))), (a6, .inl (cj6, 19, .inr (.inl st.2.2.2.2.2)))]) H := hP
      have hD : va_D A ([(h0, .inr (4, [.int th, .ref a1, .ref a2, .ref a3, .ref a4, .ref a5, .ref a6])), (a1, .inl (cj1, 19, .inr (.inl (vp_updL st.1 (18 : Int32).toNatClampNeg ((st.1 (16 : Int32).toNatClampNeg) >>> (p2.toInt64 &&& 63)))))), (a2, .inl (cj2, 19, .inr (.inl st.2.1))), (a3, .inl (cj3, 19, .inr (.inl st.2.2.1))), (a4, .inl (cj4, 19, .inr (.inl st.2.2.2.1))), (a5, .inl (cj5, 19, .inr (.inl st.2.2.2.2.1))), (a6, .inl (cj6, 19, .inr (.inl st.2.2.2.2.2)))]) := hD
      refine lv_aload_n hx hb dM_shift_183 rfl (lv_at hl 0 rfl) ?_
      refine va_get (D := D) (ci := 4) (v := .ref a2) (C := RM) (T := TM) (N := 7) hx hb hts hi4 hown hK hP 0 rfl rfl 2 (by decide) hk1 (fun _ h9 => h9) rfl dM_shift_184 ?_
      refine lv_bipush (v := 18) hx hb dM_shift_187 (by decide) ?_
      refine lv_aload_n hx hb dM_shift_189 rfl (lv_at hl 0 rfl) ?_
      refine va_get (D := D) (ci := 4) (v := .ref a2) (C := RM) (T := TM) (N := 7) hx hb hts hi4 hown hK hP 0 rfl rfl 2 (by decide) hk1 (fun _ h9 => h9) rfl dM_shift_190 ?_
      refine lv_bipush (v := 16) hx hb dM_shift_193 (by decide) ?_
      refine va_lald hx hb hK hP 2 1 rfl rfl (vp_in_iff.mpr (by decide)) dM_shift_195 ?_
      refine lv_iload_n hx hb dM_shift_196 rfl (lv_at hl 2 rfl) ?_
      refine lv_lshr (v := (st.2.1 (16 : Int32).toNatClampNeg) >>> (p2.toInt64 &&& 63)) hx hb dM_shift_197 rfl ?_
      refine va_last hx hb hK hP hD hS 2 1 rfl rfl (vp_in_iff.mpr (by decide)) dM_shift_198 (fun H locs hP hD hS => ?_)
      have hP : va_P D vwCl ([(h0, .inr (4, [.int th, .ref a1, .ref a2, .ref a3, .ref a4, .ref a5, .ref a6])), (a1, .inl (cj1, 19, .inr (.inl (vp_updL st.1 (18 : Int32).toNatClampNeg ((st.1 (16 : Int32).toNatClampNeg) >>> (p2.toInt64 &&& 63)))))), (a2, .inl (cj2, 19, .inr (.inl (vp_updL st.2.1 (18 : Int32).toNatClampNeg ((st.2.1 (16 : Int32).toNatClampNeg) >>> (p2.toInt64 &&& 63)))))), (a3, .inl (cj3, 19, .inr (.inl st.2.2.1))), (a4, .inl (cj4, 19, .inr (.inl st.2.2.2.1))), (a5, .inl (cj5, 19, .inr (.inl st.2.2.2.2.1))), (a6, .inl (cj6, 19, .inr (.inl st.2.2.2.2.2)))]) H := hP
      have hD : va_D A ([(h0, .inr (4, [.int th, .ref a1, .ref a2, .ref a3, .ref a4, .ref a5, .ref a6])), (a1, .inl (cj1, 19, .inr (.inl (vp_updL st.1 (18 : Int32).toNatClampNeg ((st.1 (16 : Int32).toNatClampNeg) >>> (p2.toInt64 &&& 63)))))), (a2, .inl (cj2, 19, .inr (.inl (vp_updL st.2.1 (18 : Int32).toNatClampNeg ((st.2.1 (16 : Int32).toNatClampNeg) >>> (p2.toInt64 &&& 63)))))), (a3, .inl (cj3, 19, .inr (.inl st.2.2.1))), (a4, .inl (cj4, 19, .inr (.inl st.2.2.2.1))), (a5, .inl (cj5, 19, .inr (.inl st.2.2.2.2.1))), (a6, .inl (cj6, 19, .inr (.inl st.2.2.2.2.2)))]) := hD
      refine lv_aload_n hx hb dM_shift_199 rfl (lv_at hl 0 rfl) ?_
      refine va_get (D := D) (ci := 4) (v := .ref a5) (C := RM) (T := TM) (N := 7) hx hb hts hi4 hown hK hP 0 rfl rfl 5 (by decide) hk2 (fun _ h9 => h9) rfl dM_shift_200 ?_
      refine lv_bipush (v := 18) hx hb dM_shift_203 (by decide) ?_
      refine lv_aload_n hx hb dM_shift_205 rfl (lv_at hl 0 rfl) ?_
      refine va_get (D := D) (ci := 4) (v := .ref a5) (C := RM) (T := TM) (N := 7) hx hb hts hi4 hown hK hP 0 rfl rfl 5 (by decide) hk2 (fun _ h9 => h9) rfl dM_shift_206 ?_
      refine lv_bipush (v := 16) hx hb dM_shift_209 (by decide) ?_
      refine va_lald hx hb hK hP 5 4 rfl rfl (vp_in_iff.mpr (by decide)) dM_shift_211 ?_
      refine lv_iload_n hx hb dM_shift_212 rfl (lv_at hl 2 rfl) ?_
      refine lv_lshr (v := (st.2.2.2.2.1 (16 : Int32).toNatClampNeg) >>> (p2.toInt64 &&& 63)) hx hb dM_shift_213 rfl ?_
      refine va_last hx hb hK hP hD hS 5 4 rfl rfl (vp_in_iff.mpr (by decide)) dM_shift_214 (fun H locs hP hD hS => ?_)
      have hP : va_P D vwCl ([(h0, .inr (4, [.int th, .ref a1, .ref a2, .ref a3, .ref a4, .ref a5, .ref a6])), (a1, .inl (cj1, 19, .inr (.inl (vp_updL st.1 (18 : Int32).toNatClampNeg ((st.1 (16 : Int32).toNatClampNeg) >>> (p2.toInt64 &&& 63)))))), (a2, .inl (cj2, 19, .inr (.inl (vp_updL st.2.1 (18 : Int32).toNatClampNeg ((st.2.1 (16 : Int32).toNatClampNeg) >>> (p2.toInt64 &&& 63)))))), (a3, .inl (cj3, 19, .inr (.inl st.2.2.1))), (a4, .inl (cj4, 19, .inr (.inl st.2.2.2.1))), (a5, .inl (cj5, 19, .inr (.inl (vp_updL st.2.2.2.2.1 (18 : Int32).toNatClampNeg ((st.2.2.2.2.1 (16 : Int32).toNatClampNeg) >>> (p2.toInt64 &&& 63)))))), (a6, .inl (cj6, 19, .inr (.inl st.2.2.2.2.2)))]) H := hP
      have hD : va_D A ([(h0, .inr (4, [.int th, .ref a1, .ref a2, .ref a3, .ref a4, .ref a5, .ref a6])), (a1, .inl (cj1, 19, .inr (.inl (vp_updL st.1 (18 : Int32).toNatClampNeg ((st.1 (16 : Int32).toNatClampNeg) >>> (p2.toInt64 &&& 63)))))), (a2, .inl (cj2, 19, .inr (.inl (vp_updL st.2.1 (18 : Int32).toNatClampNeg ((st.2.1 (16 : Int32).toNatClampNeg) >>> (p2.toInt64 &&& 63)))))), (a3, .inl (cj3, 19, .inr (.inl st.2.2.1))), (a4, .inl (cj4, 19, .inr (.inl st.2.2.2.1))), (a5, .inl (cj5, 19, .inr (.inl (vp_updL st.2.2.2.2.1 (18 : Int32).toNatClampNeg ((st.2.2.2.2.1 (16 : Int32).toNatClampNeg) >>> (p2.toInt64 &&& 63)))))), (a6, .inl (cj6, 19, .inr (.inl st.2.2.2.2.2)))]) := hD
      refine lv_aload_n hx hb dM_shift_215 rfl (lv_at hl 0 rfl) ?_
      refine va_get (D := D) (ci := 4) (v := .ref a6) (C := RM) (T := TM) (N := 7) hx hb hts hi4 hown hK hP 0 rfl rfl 6 (by decide) hk3 (fun _ h9 => h9) rfl dM_shift_216 ?_
      refine lv_bipush (v := 18) hx hb dM_shift_219 (by decide) ?_
      refine lv_aload_n hx hb dM_shift_221 rfl (lv_at hl 0 rfl) ?_
      refine va_get (D := D) (ci := 4) (v := .ref a6) (C := RM) (T := TM) (N := 7) hx hb hts hi4 hown hK hP 0 rfl rfl 6 (by decide) hk3 (fun _ h9 => h9) rfl dM_shift_222 ?_
      refine lv_bipush (v := 16) hx hb dM_shift_225 (by decide) ?_
      refine va_lald hx hb hK hP 6 5 rfl rfl (vp_in_iff.mpr (by decide)) dM_shift_227 ?_
      refine lv_iload_n hx hb dM_shift_228 rfl (lv_at hl 2 rfl) ?_
      refine lv_lshr (v := (st.2.2.2.2.2 (16 : Int32).toNatClampNeg) >>> (p2.toInt64 &&& 63)) hx hb dM_shift_229 rfl ?_
      refine va_last hx hb hK hP hD hS 6 5 rfl rfl (vp_in_iff.mpr (by decide)) dM_shift_230 (fun H locs hP hD hS => ?_)
      have hP : va_P D vwCl ([(h0, .inr (4, [.int th, .ref a1, .ref a2, .ref a3, .ref a4, .ref a5, .ref a6])), (a1, .inl (cj1, 19, .inr (.inl (vp_updL st.1 (18 : Int32).toNatClampNeg ((st.1 (16 : Int32).toNatClampNeg) >>> (p2.toInt64 &&& 63)))))), (a2, .inl (cj2, 19, .inr (.inl (vp_updL st.2.1 (18 : Int32).toNatClampNeg ((st.2.1 (16 : Int32).toNatClampNeg) >>> (p2.toInt64 &&& 63)))))), (a3, .inl (cj3, 19, .inr (.inl st.2.2.1))), (a4, .inl (cj4, 19, .inr (.inl st.2.2.2.1))), (a5, .inl (cj5, 19, .inr (.inl (vp_updL st.2.2.2.2.1 (18 : Int32).toNatClampNeg ((st.2.2.2.2.1 (16 : Int32).toNatClampNeg) >>> (p2.toInt64 &&& 63)))))), (a6, .inl (cj6, 19, .inr (.inl (vp_updL st.2.2.2.2.2 (18 : Int32).toNatClampNeg ((st.2.2.2.2.2 (16 : Int32).toNatClampNeg) >>> (p2.toInt64 &&& 63))))))]) H := hP
      have hD : va_D A ([(h0, .inr (4, [.int th, .ref a1, .ref a2, .ref a3, .ref a4, .ref a5, .ref a6])), (a1, .inl (cj1, 19, .inr (.inl (vp_updL st.1 (18 : Int32).toNatClampNeg ((st.1 (16 : Int32).toNatClampNeg) >>> (p2.toInt64 &&& 63)))))), (a2, .inl (cj2, 19, .inr (.inl (vp_updL st.2.1 (18 : Int32).toNatClampNeg ((st.2.1 (16 : Int32).toNatClampNeg) >>> (p2.toInt64 &&& 63)))))), (a3, .inl (cj3, 19, .inr (.inl st.2.2.1))), (a4, .inl (cj4, 19, .inr (.inl st.2.2.2.1))), (a5, .inl (cj5, 19, .inr (.inl (vp_updL st.2.2.2.2.1 (18 : Int32).toNatClampNeg ((st.2.2.2.2.1 (16 : Int32).toNatClampNeg) >>> (p2.toInt64 &&& 63)))))), (a6, .inl (cj6, 19, .inr (.inl (vp_updL st.2.2.2.2.2 (18 : Int32).toNatClampNeg ((st.2.2.2.2.2 (16 : Int32).toNatClampNeg) >>> (p2.toInt64 &&& 63))))))]) := hD
      have e9 : f_M_shift st p1 p2 = (vp_updL st.1 (18 : Int32).toNatClampNeg ((st.1 (16 : Int32).toNatClampNeg) >>> (p2.toInt64 &&& 63)), vp_updL st.2.1 (18 : Int32).toNatClampNeg ((st.2.1 (16 : Int32).toNatClampNeg) >>> (p2.toInt64 &&& 63)), st.2.2.1, st.2.2.2.1, vp_updL st.2.2.2.2.1 (18 : Int32).toNatClampNeg ((st.2.2.2.2.1 (16 : Int32).toNatClampNeg) >>> (p2.toInt64 &&& 63)), vp_updL st.2.2.2.2.2 (18 : Int32).toNatClampNeg ((st.2.2.2.2.2 (16 : Int32).toNatClampNeg) >>> (p2.toInt64 &&& 63))) := (if_neg c1).trans ((if_neg c2).trans (rfl))
      rw [e9]
      exact sp_vret C hAe hP hK hD hS dM_shift_231
    · refine lv_aload_n hx hb dM_shift_100 rfl (lv_at hl 0 rfl) ?_
      refine va_get (D := D) (ci := 4) (v := .ref a1) (C := RM) (T := TM) (N := 7) hx hb hts hi4 hown hK hP 0 rfl rfl 1 (by decide) hk0 (fun _ h9 => h9) rfl dM_shift_101 ?_
      refine lv_bipush (v := 18) hx hb dM_shift_104 (by decide) ?_
      refine lv_aload_n hx hb dM_shift_106 rfl (lv_at hl 0 rfl) ?_
      refine va_get (D := D) (ci := 4) (v := .ref a1) (C := RM) (T := TM) (N := 7) hx hb hts hi4 hown hK hP 0 rfl rfl 1 (by decide) hk0 (fun _ h9 => h9) rfl dM_shift_107 ?_
      refine lv_bipush (v := 16) hx hb dM_shift_110 (by decide) ?_
      refine va_lald hx hb hK hP 1 0 rfl rfl (vp_in_iff.mpr (by decide)) dM_shift_112 ?_
      refine lv_iload_n hx hb dM_shift_113 rfl (lv_at hl 2 rfl) ?_
      refine lv_lushr (v := ((st.1 (16 : Int32).toNatClampNeg).toUInt64 >>> (p2.toInt64.toUInt64 &&& Int64.toUInt64 63)).toInt64) hx hb dM_shift_114 rfl ?_
      refine va_last hx hb hK hP hD hS 1 0 rfl rfl (vp_in_iff.mpr (by decide)) dM_shift_115 (fun H locs hP hD hS => ?_)
      have hP : va_P D vwCl ([(h0, .inr (4, [.int th, .ref a1, .ref a2, .ref a3, .ref a4, .ref a5, .ref a6])), (a1, .inl (cj1, 19, .inr (.inl (vp_updL st.1 (18 : Int32).toNatClampNeg (((st.1 (16 : Int32).toNatClampNeg).toUInt64 >>> (p2.toInt64.toUInt64 &&& Int64.toUInt64 63)).toInt64))))), (a2, .inl (cj2, 19, .inr (.inl st.2.1))), (a3, .inl (cj3, 19, .inr (.inl st.2.2.1))), (a4, .inl (cj4, 19, .inr (.inl st.2.2.2.1))), (a5, .inl (cj5, 19, .inr (.inl st.2.2.2.2.1))), (a6, .inl (cj6, 19, .inr (.inl st.2.2.2.2.2)))]) H := hP
      have hD : va_D A ([(h0, .inr (4, [.int th, .ref a1, .ref a2, .ref a3, .ref a4, .ref a5, .ref a6])), (a1, .inl (cj1, 19, .inr (.inl (vp_updL st.1 (18 : Int32).toNatClampNeg (((st.1 (16 : Int32).toNatClampNeg).toUInt64 >>> (p2.toInt64.toUInt64 &&& Int64.toUInt64 63)).toInt64))))), (a2, .inl (cj2, 19, .inr (.inl st.2.1))), (a3, .inl (cj3, 19, .inr (.inl st.2.2.1))), (a4, .inl (cj4, 19, .inr (.inl st.2.2.2.1))), (a5, .inl (cj5, 19, .inr (.inl st.2.2.2.2.1))), (a6, .inl (cj6, 19, .inr (.inl st.2.2.2.2.2)))]) := hD
      refine lv_aload_n hx hb dM_shift_116 rfl (lv_at hl 0 rfl) ?_
      refine va_get (D := D) (ci := 4) (v := .ref a2) (C := RM) (T := TM) (N := 7) hx hb hts hi4 hown hK hP 0 rfl rfl 2 (by decide) hk1 (fun _ h9 => h9) rfl dM_shift_117 ?_
      refine lv_bipush (v := 18) hx hb dM_shift_120 (by decide) ?_
      refine lv_aload_n hx hb dM_shift_122 rfl (lv_at hl 0 rfl) ?_
      refine va_get (D := D) (ci := 4) (v := .ref a2) (C := RM) (T := TM) (N := 7) hx hb hts hi4 hown hK hP 0 rfl rfl 2 (by decide) hk1 (fun _ h9 => h9) rfl dM_shift_123 ?_
      refine lv_bipush (v := 16) hx hb dM_shift_126 (by decide) ?_
      refine va_lald hx hb hK hP 2 1 rfl rfl (vp_in_iff.mpr (by decide)) dM_shift_128 ?_
      refine lv_iload_n hx hb dM_shift_129 rfl (lv_at hl 2 rfl) ?_
      refine lv_lushr (v := ((st.2.1 (16 : Int32).toNatClampNeg).toUInt64 >>> (p2.toInt64.toUInt64 &&& Int64.toUInt64 63)).toInt64) hx hb dM_shift_130 rfl ?_
      refine va_last hx hb hK hP hD hS 2 1 rfl rfl (vp_in_iff.mpr (by decide)) dM_shift_131 (fun H locs hP hD hS => ?_)
      have hP : va_P D vwCl ([(h0, .inr (4, [.int th, .ref a1, .ref a2, .ref a3, .ref a4, .ref a5, .ref a6])), (a1, .inl (cj1, 19, .inr (.inl (vp_updL st.1 (18 : Int32).toNatClampNeg (((st.1 (16 : Int32).toNatClampNeg).toUInt64 >>> (p2.toInt64.toUInt64 &&& Int64.toUInt64 63)).toInt64))))), (a2, .inl (cj2, 19, .inr (.inl (vp_updL st.2.1 (18 : Int32).toNatClampNeg (((st.2.1 (16 : Int32).toNatClampNeg).toUInt64 >>> (p2.toInt64.toUInt64 &&& Int64.toUInt64 63)).toInt64))))), (a3, .inl (cj3, 19, .inr (.inl st.2.2.1))), (a4, .inl (cj4, 19, .inr (.inl st.2.2.2.1))), (a5, .inl (cj5, 19, .inr (.inl st.2.2.2.2.1))), (a6, .inl (cj6, 19, .inr (.inl st.2.2.2.2.2)))]) H := hP
      have hD : va_D A ([(h0, .inr (4, [.int th, .ref a1, .ref a2, .ref a3, .ref a4, .ref a5, .ref a6])), (a1, .inl (cj1, 19, .inr (.inl (vp_updL st.1 (18 : Int32).toNatClampNeg (((st.1 (16 : Int32).toNatClampNeg).toUInt64 >>> (p2.toInt64.toUInt64 &&& Int64.toUInt64 63)).toInt64))))), (a2, .inl (cj2, 19, .inr (.inl (vp_updL st.2.1 (18 : Int32).toNatClampNeg (((st.2.1 (16 : Int32).toNatClampNeg).toUInt64 >>> (p2.toInt64.toUInt64 &&& Int64.toUInt64 63)).toInt64))))), (a3, .inl (cj3, 19, .inr (.inl st.2.2.1))), (a4, .inl (cj4, 19, .inr (.inl st.2.2.2.1))), (a5, .inl (cj5, 19, .inr (.inl st.2.2.2.2.1))), (a6, .inl (cj6, 19, .inr (.inl st.2.2.2.2.2)))]) := hD
      refine lv_aload_n hx hb dM_shift_132 rfl (lv_at hl 0 rfl) ?_
      refine va_get (D := D) (ci := 4) (v := .ref a3) (C := RM) (T := TM) (N := 7) hx hb hts hi4 hown hK hP 0 rfl rfl 3 (by decide) hk4 (fun _ h9 => h9) rfl dM_shift_133 ?_
      refine lv_bipush (v := 18) hx hb dM_shift_136 (by decide) ?_
      refine lv_aload_n hx hb dM_shift_138 rfl (lv_at hl 0 rfl) ?_
      refine va_get (D := D) (ci := 4) (v := .ref a3) (C := RM) (T := TM) (N := 7) hx hb hts hi4 hown hK hP 0 rfl rfl 3 (by decide) hk4 (fun _ h9 => h9) rfl dM_shift_139 ?_
      refine lv_bipush (v := 16) hx hb dM_shift_142 (by decide) ?_
      refine va_lald hx hb hK hP 3 2 rfl rfl (vp_in_iff.mpr (by decide)) dM_shift_144 ?_
      refine lv_iload_n hx hb dM_shift_145 rfl (lv_at hl 2 rfl) ?_
      refine lv_lushr (v := ((st.2.2.1 (16 : Int32).toNatClampNeg).toUInt64 >>> (p2.toInt64.toUInt64 &&& Int64.toUInt64 63)).toInt64) hx hb dM_shift_146 rfl ?_
      refine va_last hx hb hK hP hD hS 3 2 rfl rfl (vp_in_iff.mpr (by decide)) dM_shift_147 (fun H locs hP hD hS => ?_)
      have hP : va_P D vwCl ([(h0, .inr (4, [.int th, .ref a1, .ref a2, .ref a3, .ref a4, .ref a5, .ref a6])), (a1, .inl (cj1, 19, .inr (.inl (vp_updL st.1 (18 : Int32).toNatClampNeg (((st.1 (16 : Int32).toNatClampNeg).toUInt64 >>> (p2.toInt64.toUInt64 &&& Int64.toUInt64 63)).toInt64))))), (a2, .inl (cj2, 19, .inr (.inl (vp_updL st.2.1 (18 : Int32).toNatClampNeg (((st.2.1 (16 : Int32).toNatClampNeg).toUInt64 >>> (p2.toInt64.toUInt64 &&& Int64.toUInt64 63)).toInt64))))), (a3, .inl (cj3, 19, .inr (.inl (vp_updL st.2.2.1 (18 : Int32).toNatClampNeg (((st.2.2.1 (16 : Int32).toNatClampNeg).toUInt64 >>> (p2.toInt64.toUInt64 &&& Int64.toUInt64 63)).toInt64))))), (a4, .inl (cj4, 19, .inr (.inl st.2.2.2.1))), (a5, .inl (cj5, 19, .inr (.inl st.2.2.2.2.1))), (a6, .inl (cj6, 19, .inr (.inl st.2.2.2.2.2)))]) H := hP
      have hD : va_D A ([(h0, .inr (4, [.int th, .ref a1, .ref a2, .ref a3, .ref a4, .ref a5, .ref a6])), (a1, .inl (cj1, 19, .inr (.inl (vp_updL st.1 (18 : Int32).toNatClampNeg (((st.1 (16 : Int32).toNatClampNeg).toUInt64 >>> (p2.toInt64.toUInt64 &&& Int64.toUInt64 63)).toInt64))))), (a2, .inl (cj2, 19, .inr (.inl (vp_updL st.2.1 (18 : Int32).toNatClampNeg (((st.2.1 (16 : Int32).toNatClampNeg).toUInt64 >>> (p2.toInt64.toUInt64 &&& Int64.toUInt64 63)).toInt64))))), (a3, .inl (cj3, 19, .inr (.inl (vp_updL st.2.2.1 (18 : Int32).toNatClampNeg (((st.2.2.1 (16 : Int32).toNatClampNeg).toUInt64 >>> (p2.toInt64.toUInt64 &&& Int64.toUInt64 63)).toInt64))))), (a4, .inl (cj4, 19, .inr (.inl st.2.2.2.1))), (a5, .inl (cj5, 19, .inr (.inl st.2.2.2.2.1))), (a6, .inl (cj6, 19, .inr (.inl st.2.2.2.2.2)))]) := hD
      refine lv_aload_n hx hb dM_shift_148 rfl (lv_at hl 0 rfl) ?_
      refine va_get (D := D) (ci := 4) (v := .ref a4) (C := RM) (T := TM) (N := 7) hx hb hts hi4 hown hK hP 0 rfl rfl 4 (by decide) hk5 (fun _ h9 => h9) rfl dM_shift_149 ?_
      refine lv_bipush (v := 18) hx hb dM_shift_152 (by decide) ?_
      refine lv_aload_n hx hb dM_shift_154 rfl (lv_at hl 0 rfl) ?_
      refine va_get (D := D) (ci := 4) (v := .ref a4) (C := RM) (T := TM) (N := 7) hx hb hts hi4 hown hK hP 0 rfl rfl 4 (by decide) hk5 (fun _ h9 => h9) rfl dM_shift_155 ?_
      refine lv_bipush (v := 16) hx hb dM_shift_158 (by decide) ?_
      refine va_lald hx hb hK hP 4 3 rfl rfl (vp_in_iff.mpr (by decide)) dM_shift_160 ?_
      refine lv_iload_n hx hb dM_shift_161 rfl (lv_at hl 2 rfl) ?_
      refine lv_lushr (v := ((st.2.2.2.1 (16 : Int32).toNatClampNeg).toUInt64 >>> (p2.toInt64.toUInt64 &&& Int64.toUInt64 63)).toInt64) hx hb dM_shift_162 rfl ?_
      refine va_last hx hb hK hP hD hS 4 3 rfl rfl (vp_in_iff.mpr (by decide)) dM_shift_163 (fun H locs hP hD hS => ?_)
      have hP : va_P D vwCl ([(h0, .inr (4, [.int th, .ref a1, .ref a2, .ref a3, .ref a4, .ref a5, .ref a6])), (a1, .inl (cj1, 19, .inr (.inl (vp_updL st.1 (18 : Int32).toNatClampNeg (((st.1 (16 : Int32).toNatClampNeg).toUInt64 >>> (p2.toInt64.toUInt64 &&& Int64.toUInt64 63)).toInt64))))), (a2, .inl (cj2, 19, .inr (.inl (vp_updL st.2.1 (18 : Int32).toNatClampNeg (((st.2.1 (16 : Int32).toNatClampNeg).toUInt64 >>> (p2.toInt64.toUInt64 &&& Int64.toUInt64 63)).toInt64))))), (a3, .inl (cj3, 19, .inr (.inl (vp_updL st.2.2.1 (18 : Int32).toNatClampNeg (((st.2.2.1 (16 : Int32).toNatClampNeg).toUInt64 >>> (p2.toInt64.toUInt64 &&& Int64.toUInt64 63)).toInt64))))), (a4, .inl (cj4, 19, .inr (.inl (vp_updL st.2.2.2.1 (18 : Int32).toNatClampNeg (((st.2.2.2.1 (16 : Int32).toNatClampNeg).toUInt64 >>> (p2.toInt64.toUInt64 &&& Int64.toUInt64 63)).toInt64))))), (a5, .inl (cj5, 19, .inr (.inl st.2.2.2.2.1))), (a6, .inl (cj6, 19, .inr (.inl st.2.2.2.2.2)))]) H := hP
      have hD : va_D A ([(h0, .inr (4, [.int th, .ref a1, .ref a2, .ref a3, .ref a4, .ref a5, .ref a6])), (a1, .inl (cj1, 19, .inr (.inl (vp_updL st.1 (18 : Int32).toNatClampNeg (((st.1 (16 : Int32).toNatClampNeg).toUInt64 >>> (p2.toInt64.toUInt64 &&& Int64.toUInt64 63)).toInt64))))), (a2, .inl (cj2, 19, .inr (.inl (vp_updL st.2.1 (18 : Int32).toNatClampNeg (((st.2.1 (16 : Int32).toNatClampNeg).toUInt64 >>> (p2.toInt64.toUInt64 &&& Int64.toUInt64 63)).toInt64))))), (a3, .inl (cj3, 19, .inr (.inl (vp_updL st.2.2.1 (18 : Int32).toNatClampNeg (((st.2.2.1 (16 : Int32).toNatClampNeg).toUInt64 >>> (p2.toInt64.toUInt64 &&& Int64.toUInt64 63)).toInt64))))), (a4, .inl (cj4, 19, .inr (.inl (vp_updL st.2.2.2.1 (18 : Int32).toNatClampNeg (((st.2.2.2.1 (16 : Int32).toNatClampNeg).toUInt64 >>> (p2.toInt64.toUInt64 &&& Int64.toUInt64 63)).toInt64))))), (a5, .inl (cj5, 19, .inr (.inl st.2.2.2.2.1))), (a6, .inl (cj6, 19, .inr (.inl st.2.2.2.2.2)))]) := hD
      refine lv_goto (tgt := 231) hx hb dM_shift_164 (by decide) ?_
      have e9 : f_M_shift st p1 p2 = (vp_updL st.1 (18 : Int32).toNatClampNeg (((st.1 (16 : Int32).toNatClampNeg).toUInt64 >>> (p2.toInt64.toUInt64 &&& Int64.toUInt64 63)).toInt64), vp_updL st.2.1 (18 : Int32).toNatClampNeg (((st.2.1 (16 : Int32).toNatClampNeg).toUInt64 >>> (p2.toInt64.toUInt64 &&& Int64.toUInt64 63)).toInt64), vp_updL st.2.2.1 (18 : Int32).toNatClampNeg (((st.2.2.1 (16 : Int32).toNatClampNeg).toUInt64 >>> (p2.toInt64.toUInt64 &&& Int64.toUInt64 63)).toInt64), vp_updL st.2.2.2.1 (18 : Int32).toNatClampNeg (((st.2.2.2.1 (16 : Int32).toNatClampNeg).toUInt64 >>> (p2.toInt64.toUInt64 &&& Int64.toUInt64 63)).toInt64), st.2.2.2.2.1, st.2.2.2.2.2) := (if_neg c1).trans ((if_pos c2).trans (rfl))
      rw [e9]
      exact sp_vret C hAe hP hK hD hS dM_shift_231
  · refine lv_aload_n hx hb dM_shift_6 rfl (lv_at hl 0 rfl) ?_
    refine va_get (D := D) (ci := 4) (v := .ref a1) (C := RM) (T := TM) (N := 7) hx hb hts hi4 hown hK hP 0 rfl rfl 1 (by decide) hk0 (fun _ h9 => h9) rfl dM_shift_7 ?_
    refine lv_bipush (v := 18) hx hb dM_shift_10 (by decide) ?_
    refine lv_aload_n hx hb dM_shift_12 rfl (lv_at hl 0 rfl) ?_
    refine va_get (D := D) (ci := 4) (v := .ref a1) (C := RM) (T := TM) (N := 7) hx hb hts hi4 hown hK hP 0 rfl rfl 1 (by decide) hk0 (fun _ h9 => h9) rfl dM_shift_13 ?_
    refine lv_bipush (v := 16) hx hb dM_shift_16 (by decide) ?_
    refine va_lald hx hb hK hP 1 0 rfl rfl (vp_in_iff.mpr (by decide)) dM_shift_18 ?_
    refine lv_iload_n hx hb dM_shift_19 rfl (lv_at hl 2 rfl) ?_
    refine lv_lshl (v := (st.1 (16 : Int32).toNatClampNeg) <<< (p2.toInt64 &&& 63)) hx hb dM_shift_20 rfl ?_
    refine va_last hx hb hK hP hD hS 1 0 rfl rfl (vp_in_iff.mpr (by decide)) dM_shift_21 (fun H locs hP hD hS => ?_)
    have hP : va_P D vwCl ([(h0, .inr (4, [.int th, .ref a1, .ref a2, .ref a3, .ref a4, .ref a5, .ref a6])), (a1, .inl (cj1, 19, .inr (.inl (vp_updL st.1 (18 : Int32).toNatClampNeg ((st.1 (16 : Int32).toNatClampNeg) <<< (p2.toInt64 &&& 63)))))), (a2, .inl (cj2, 19, .inr (.inl st.2.1))), (a3, .inl (cj3, 19, .inr (.inl st.2.2.1))), (a4, .inl (cj4, 19, .inr (.inl st.2.2.2.1))), (a5, .inl (cj5, 19, .inr (.inl st.2.2.2.2.1))), (a6, .inl (cj6, 19, .inr (.inl st.2.2.2.2.2)))]) H := hP
    have hD : va_D A ([(h0, .inr (4, [.int th, .ref a1, .ref a2, .ref a3, .ref a4, .ref a5, .ref a6])), (a1, .inl (cj1, 19, .inr (.inl (vp_updL st.1 (18 : Int32).toNatClampNeg ((st.1 (16 : Int32).toNatClampNeg) <<< (p2.toInt64 &&& 63)))))), (a2, .inl (cj2, 19, .inr (.inl st.2.1))), (a3, .inl (cj3, 19, .inr (.inl st.2.2.1))), (a4, .inl (cj4, 19, .inr (.inl st.2.2.2.1))), (a5, .inl (cj5, 19, .inr (.inl st.2.2.2.2.1))), (a6, .inl (cj6, 19, .inr (.inl st.2.2.2.2.2)))]) := hD
    refine lv_aload_n hx hb dM_shift_22 rfl (lv_at hl 0 rfl) ?_
    refine va_get (D := D) (ci := 4) (v := .ref a2) (C := RM) (T := TM) (N := 7) hx hb hts hi4 hown hK hP 0 rfl rfl 2 (by decide) hk1 (fun _ h9 => h9) rfl dM_shift_23 ?_
    refine lv_bipush (v := 18) hx hb dM_shift_26 (by decide) ?_
    refine lv_aload_n hx hb dM_shift_28 rfl (lv_at hl 0 rfl) ?_
    refine va_get (D := D) (ci := 4) (v := .ref a2) (C := RM) (T := TM) (N := 7) hx hb hts hi4 hown hK hP 0 rfl rfl 2 (by decide) hk1 (fun _ h9 => h9) rfl dM_shift_29 ?_
    refine lv_bipush (v := 16) hx hb dM_shift_32 (by decide) ?_
    refine va_lald hx hb hK hP 2 1 rfl rfl (vp_in_iff.mpr (by decide)) dM_shift_34 ?_
    refine lv_iload_n hx hb dM_shift_35 rfl (lv_at hl 2 rfl) ?_
    refine lv_lshl (v := (st.2.1 (16 : Int32).toNatClampNeg) <<< (p2.toInt64 &&& 63)) hx hb dM_shift_36 rfl ?_
    refine va_last hx hb hK hP hD hS 2 1 rfl rfl (vp_in_iff.mpr (by decide)) dM_shift_37 (fun H locs hP hD hS => ?_)
    have hP : va_P D vwCl ([(h0, .inr (4, [.int th, .ref a1, .ref a2, .ref a3, .ref a4, .ref a5, .ref a6])), (a1, .inl (cj1, 19, .inr (.inl (vp_updL st.1 (18 : Int32).toNatClampNeg ((st.1 (16 : Int32).toNatClampNeg) <<< (p2.toInt64 &&& 63)))))), (a2, .inl (cj2, 19, .inr (.inl (vp_updL st.2.1 (18 : Int32).toNatClampNeg ((st.2.1 (16 : Int32).toNatClampNeg) <<< (p2.toInt64 &&& 63)))))), (a3, .inl (cj3, 19, .inr (.inl st.2.2.1))), (a4, .inl (cj4, 19, .inr (.inl st.2.2.2.1))), (a5, .inl (cj5, 19, .inr (.inl st.2.2.2.2.1))), (a6, .inl (cj6, 19, .inr (.inl st.2.2.2.2.2)))]) H := hP
    have hD : va_D A ([(h0, .inr (4, [.int th, .ref a1, .ref a2, .ref a3, .ref a4, .ref a5, .ref a6])), (a1, .inl (cj1, 19, .inr (.inl (vp_updL st.1 (18 : Int32).toNatClampNeg ((st.1 (16 : Int32).toNatClampNeg) <<< (p2.toInt64 &&& 63)))))), (a2, .inl (cj2, 19, .inr (.inl (vp_updL st.2.1 (18 : Int32).toNatClampNeg ((st.2.1 (16 : Int32).toNatClampNeg) <<< (p2.toInt64 &&& 63)))))), (a3, .inl (cj3, 19, .inr (.inl st.2.2.1))), (a4, .inl (cj4, 19, .inr (.inl st.2.2.2.1))), (a5, .inl (cj5, 19, .inr (.inl st.2.2.2.2.1))), (a6, .inl (cj6, 19, .inr (.inl st.2.2.2.2.2)))]) := hD
    refine lv_iload_n hx hb dM_shift_38 rfl (lv_at hl 2 rfl) ?_
    refine lv_if_eq (tgt := 59) hx hb dM_shift_39 (by decide) (fun c3 => ?_) (fun c3 => ?_)
    · refine lv_aload_n hx hb dM_shift_59 rfl (lv_at hl 0 rfl) ?_
      refine va_get (D := D) (ci := 4) (v := .ref a3) (C := RM) (T := TM) (N := 7) hx hb hts hi4 hown hK hP 0 rfl rfl 3 (by decide) hk4 (fun _ h9 => h9) rfl dM_shift_60 ?_
      refine lv_bipush (v := 18) hx hb dM_shift_63 (by decide) ?_
      refine lv_aload_n hx hb dM_shift_65 rfl (lv_at hl 0 rfl) ?_
      refine va_get (D := D) (ci := 4) (v := .ref a3) (C := RM) (T := TM) (N := 7) hx hb hts hi4 hown hK hP 0 rfl rfl 3 (by decide) hk4 (fun _ h9 => h9) rfl dM_shift_66 ?_
      refine lv_bipush (v := 16) hx hb dM_shift_69 (by decide) ?_
      refine va_lald hx hb hK hP 3 2 rfl rfl (vp_in_iff.mpr (by decide)) dM_shift_71 ?_
      refine lv_iload_n hx hb dM_shift_72 rfl (lv_at hl 2 rfl) ?_
      refine lv_lshl (v := (st.2.2.1 (16 : Int32).toNatClampNeg) <<< (p2.toInt64 &&& 63)) hx hb dM_shift_73 rfl ?_
      refine va_last hx hb hK hP hD hS 3 2 rfl rfl (vp_in_iff.mpr (by decide)) dM_shift_74 (fun H locs hP hD hS => ?_)
      have hP : va_P D vwCl ([(h0, .inr (4, [.int th, .ref a1, .ref a2, .ref a3, .ref a4, .ref a5, .ref a6])), (a1, .inl (cj1, 19, .inr (.inl (vp_updL st.1 (18 : Int32).toNatClampNeg ((st.1 (16 : Int32).toNatClampNeg) <<< (p2.toInt64 &&& 63)))))), (a2, .inl (cj2, 19, .inr (.inl (vp_updL st.2.1 (18 : Int32).toNatClampNeg ((st.2.1 (16 : Int32).toNatClampNeg) <<< (p2.toInt64 &&& 63)))))), (a3, .inl (cj3, 19, .inr (.inl (vp_updL st.2.2.1 (18 : Int32).toNatClampNeg ((st.2.2.1 (16 : Int32).toNatClampNeg) <<< (p2.toInt64 &&& 63)))))), (a4, .inl (cj4, 19, .inr (.inl st.2.2.2.1))), (a5, .inl (cj5, 19, .inr (.inl st.2.2.2.2.1))), (a6, .inl (cj6, 19, .inr (.inl st.2.2.2.2.2)))]) H := hP
      have hD : va_D A ([(h0, .inr (4, [.int th, .ref a1, .ref a2, .ref a3, .ref a4, .ref a5, .ref a6])), (a1, .inl (cj1, 19, .inr (.inl (vp_updL st.1 (18 : Int32).toNatClampNeg ((st.1 (16 : Int32).toNatClampNeg) <<< (p2.toInt64 &&& 63)))))), (a2, .inl (cj2, 19, .inr (.inl (vp_updL st.2.1 (18 : Int32).toNatClampNeg ((st.2.1 (16 : Int32).toNatClampNeg) <<< (p2.toInt64 &&& 63)))))), (a3, .inl (cj3, 19, .inr (.inl (vp_updL st.2.2.1 (18 : Int32).toNatClampNeg ((st.2.2.1 (16 : Int32).toNatClampNeg) <<< (p2.toInt64 &&& 63)))))), (a4, .inl (cj4, 19, .inr (.inl st.2.2.2.1))), (a5, .inl (cj5, 19, .inr (.inl st.2.2.2.2.1))), (a6, .inl (cj6, 19, .inr (.inl st.2.2.2.2.2)))]) := hD
      refine lv_aload_n hx hb dM_shift_75 rfl (lv_at hl 0 rfl) ?_
      refine va_get (D := D) (ci := 4) (v := .ref a4) (C := RM) (T := TM) (N := 7) hx hb hts hi4 hown hK hP 0 rfl rfl 4 (by decide) hk5 (fun _ h9 => h9) rfl dM_shift_76 ?_
      refine lv_bipush (v := 18) hx hb dM_shift_79 (by decide) ?_
      refine lv_aload_n hx hb dM_shift_81 rfl (lv_at hl 0 rfl) ?_
      refine va_get (D := D) (ci := 4) (v := .ref a4) (C := RM) (T := TM) (N := 7) hx hb hts hi4 hown hK hP 0 rfl rfl 4 (by decide) hk5 (fun _ h9 => h9) rfl dM_shift_82 ?_
      refine lv_bipush (v := 16) hx hb dM_shift_85 (by decide) ?_
      refine va_lald hx hb hK hP 4 3 rfl rfl (vp_in_iff.mpr (by decide)) dM_shift_87 ?_
      refine lv_iload_n hx hb dM_shift_88 rfl (lv_at hl 2 rfl) ?_
      refine lv_lshl (v := (st.2.2.2.1 (16 : Int32).toNatClampNeg) <<< (p2.toInt64 &&& 63)) hx hb dM_shift_89 rfl ?_
      refine va_last hx hb hK hP hD hS 4 3 rfl rfl (vp_in_iff.mpr (by decide)) dM_shift_90 (fun H locs hP hD hS => ?_)
      have hP : va_P D vwCl ([(h0, .inr (4, [.int th, .ref a1, .ref a2, .ref a3, .ref a4, .ref a5, .ref a6])), (a1, .inl (cj1, 19, .inr (.inl (vp_updL st.1 (18 : Int32).toNatClampNeg ((st.1 (16 : Int32).toNatClampNeg) <<< (p2.toInt64 &&& 63)))))), (a2, .inl (cj2, 19, .inr (.inl (vp_updL st.2.1 (18 : Int32).toNatClampNeg ((st.2.1 (16 : Int32).toNatClampNeg) <<< (p2.toInt64 &&& 63)))))), (a3, .inl (cj3, 19, .inr (.inl (vp_updL st.2.2.1 (18 : Int32).toNatClampNeg ((st.2.2.1 (16 : Int32).toNatClampNeg) <<< (p2.toInt64 &&& 63)))))), (a4, .inl (cj4, 19, .inr (.inl (vp_updL st.2.2.2.1 (18 : Int32).toNatClampNeg ((st.2.2.2.1 (16 : Int32).toNatClampNeg) <<< (p2.toInt64 &&& 63)))))), (a5, .inl (cj5, 19, .inr (.inl st.2.2.2.2.1))), (a6, .inl (cj6, 19, .inr (.inl st.2.2.2.2.2)))]) H := hP
      have hD : va_D A ([(h0, .inr (4, [.int th, .ref a1, .ref a2, .ref a3, .ref a4, .ref a5, .ref a6])), (a1, .inl (cj1, 19, .inr (.inl (vp_updL st.1 (18 : Int32).toNatClampNeg ((st.1 (16 : Int32).toNatClampNeg) <<< (p2.toInt64 &&& 63)))))), (a2, .inl (cj2, 19, .inr (.inl (vp_updL st.2.1 (18 : Int32).toNatClampNeg ((st.2.1 (16 : Int32).toNatClampNeg) <<< (p2.toInt64 &&& 63)))))), (a3, .inl (cj3, 19, .inr (.inl (vp_updL st.2.2.1 (18 : Int32).toNatClampNeg ((st.2.2.1 (16 : Int32).toNatClampNeg) <<< (p2.toInt64 &&& 63)))))), (a4, .inl (cj4, 19, .inr (.inl (vp_updL st.2.2.2.1 (18 : Int32).toNatClampNeg ((st.2.2.2.1 (16 : Int32).toNatClampNeg) <<< (p2.toInt64 &&& 63)))))), (a5, .inl (cj5, 19, .inr (.inl st.2.2.2.2.1))), (a6, .inl (cj6, 19, .inr (.inl st.2.2.2.2.2)))]) := hD
      refine lv_goto (tgt := 231) hx hb dM_shift_91 (by decide) ?_
      have e9 : f_M_shift st p1 p2 = (vp_updL st.1 (18 : Int32).toNatClampNeg ((st.1 (16 : Int32).toNatClampNeg) <<< (p2.toInt64 &&& 63)), vp_updL st.2.1 (18 : Int32).toNatClampNeg ((st.2.1 (16 : Int32).toNatClampNeg) <<< (p2.toInt64 &&& 63)), vp_updL st.2.2.1 (18 : Int32).toNatClampNeg ((st.2.2.1 (16 : Int32).toNatClampNeg) <<< (p2.toInt64 &&& 63)), vp_updL st.2.2.2.1 (18 : Int32).toNatClampNeg ((st.2.2.2.1 (16 : Int32).toNatClampNeg) <<< (p2.toInt64 &&& 63)), st.2.2.2.2.1, st.2.2.2.2.2) := (if_pos c1).trans ((if_pos c3).trans (rfl))
      rw [e9]
      exact sp_vret C hAe hP hK hD hS dM_shift_231
    · refine lv_aload_n hx hb dM_shift_42 rfl (lv_at hl 0 rfl) ?_
      refine va_get (D := D) (ci := 4) (v := .ref a4) (C := RM) (T := TM) (N := 7) hx hb hts hi4 hown hK hP 0 rfl rfl 4 (by decide) hk5 (fun _ h9 => h9) rfl dM_shift_43 ?_
      refine lv_bipush (v := 16) hx hb dM_shift_46 (by decide) ?_
      refine va_lald hx hb hK hP 4 3 rfl rfl (vp_in_iff.mpr (by decide)) dM_shift_48 ?_
      refine lv_bipush (v := 64) hx hb dM_shift_49 (by decide) ?_
      refine lv_iload_n hx hb dM_shift_51 rfl (lv_at hl 2 rfl) ?_
      refine lv_isub hx hb dM_shift_52 ?_
      refine lv_lushr (v := ((st.2.2.2.1 (16 : Int32).toNatClampNeg).toUInt64 >>> ((64 - p2).toInt64.toUInt64 &&& Int64.toUInt64 63)).toInt64) hx hb dM_shift_53 rfl ?_
      refine lv_lconst (v := 0) hx hb dM_shift_54 (by decide) ?_
      refine W.lcmp hx hb dM_shift_55 ?_
      refine lv_if_ne (tgt := 231) hx hb dM_shift_56 (by decide) (fun c4 => ?_) (fun c4 => ?_)
      · have e9 : f_M_shift st p1 p2 = (vp_updL st.1 (18 : Int32).toNatClampNeg ((st.1 (16 : Int32).toNatClampNeg) <<< (p2.toInt64 &&& 63)), vp_updL st.2.1 (18 : Int32).toNatClampNeg ((st.2.1 (16 : Int32).toNatClampNeg) <<< (p2.toInt64 &&& 63)), st.2.2.1, st.2.2.2.1, st.2.2.2.2.1, st.2.2.2.2.2) := (if_pos c1).trans ((if_neg c3).trans ((if_neg c4).trans (rfl)))
        rw [e9]
        exact sp_vret C hAe hP hK hD hS dM_shift_231
      · refine lv_aload_n hx hb dM_shift_59 rfl (lv_at hl 0 rfl) ?_
        refine va_get (D := D) (ci := 4) (v := .ref a3) (C := RM) (T := TM) (N := 7) hx hb hts hi4 hown hK hP 0 rfl rfl 3 (by decide) hk4 (fun _ h9 => h9) rfl dM_shift_60 ?_
        refine lv_bipush (v := 18) hx hb dM_shift_63 (by decide) ?_
        refine lv_aload_n hx hb dM_shift_65 rfl (lv_at hl 0 rfl) ?_
        refine va_get (D := D) (ci := 4) (v := .ref a3) (C := RM) (T := TM) (N := 7) hx hb hts hi4 hown hK hP 0 rfl rfl 3 (by decide) hk4 (fun _ h9 => h9) rfl dM_shift_66 ?_
        refine lv_bipush (v := 16) hx hb dM_shift_69 (by decide) ?_
        refine va_lald hx hb hK hP 3 2 rfl rfl (vp_in_iff.mpr (by decide)) dM_shift_71 ?_
        refine lv_iload_n hx hb dM_shift_72 rfl (lv_at hl 2 rfl) ?_
        refine lv_lshl (v := (st.2.2.1 (16 : Int32).toNatClampNeg) <<< (p2.toInt64 &&& 63)) hx hb dM_shift_73 rfl ?_
        refine va_last hx hb hK hP hD hS 3 2 rfl rfl (vp_in_iff.mpr (by decide)) dM_shift_74 (fun H locs hP hD hS => ?_)
        have hP : va_P D vwCl ([(h0, .inr (4, [.int th, .ref a1, .ref a2, .ref a3, .ref a4, .ref a5, .ref a6])), (a1, .inl (cj1, 19, .inr (.inl (vp_updL st.1 (18 : Int32).toNatClampNeg ((st.1 (16 : Int32).toNatClampNeg) <<< (p2.toInt64 &&& 63)))))), (a2, .inl (cj2, 19, .inr (.inl (vp_updL st.2.1 (18 : Int32).toNatClampNeg ((st.2.1 (16 : Int32).toNatClampNeg) <<< (p2.toInt64 &&& 63)))))), (a3, .inl (cj3, 19, .inr (.inl (vp_updL st.2.2.1 (18 : Int32).toNatClampNeg ((st.2.2.1 (16 : Int32).toNatClampNeg) <<< (p2.toInt64 &&& 63)))))), (a4, .inl (cj4, 19, .inr (.inl st.2.2.2.1))), (a5, .inl (cj5, 19, .inr (.inl st.2.2.2.2.1))), (a6, .inl (cj6, 19, .inr (.inl st.2.2.2.2.2)))]) H := hP
        have hD : va_D A ([(h0, .inr (4, [.int th, .ref a1, .ref a2, .ref a3, .ref a4, .ref a5, .ref a6])), (a1, .inl (cj1, 19, .inr (.inl (vp_updL st.1 (18 : Int32).toNatClampNeg ((st.1 (16 : Int32).toNatClampNeg) <<< (p2.toInt64 &&& 63)))))), (a2, .inl (cj2, 19, .inr (.inl (vp_updL st.2.1 (18 : Int32).toNatClampNeg ((st.2.1 (16 : Int32).toNatClampNeg) <<< (p2.toInt64 &&& 63)))))), (a3, .inl (cj3, 19, .inr (.inl (vp_updL st.2.2.1 (18 : Int32).toNatClampNeg ((st.2.2.1 (16 : Int32).toNatClampNeg) <<< (p2.toInt64 &&& 63)))))), (a4, .inl (cj4, 19, .inr (.inl st.2.2.2.1))), (a5, .inl (cj5, 19, .inr (.inl st.2.2.2.2.1))), (a6, .inl (cj6, 19, .inr (.inl st.2.2.2.2.2)))]) := hD
        refine lv_aload_n hx hb dM_shift_75 rfl (lv_at hl 0 rfl) ?_
        refine va_get (D := D) (ci := 4) (v := .ref a4) (C := RM) (T := TM) (N := 7) hx hb hts hi4 hown hK hP 0 rfl rfl 4 (by decide) hk5 (fun _ h9 => h9) rfl dM_shift_76 ?_
        refine lv_bipush (v := 18) hx hb dM_shift_79 (by decide) ?_
        refine lv_aload_n hx hb dM_shift_81 rfl (lv_at hl 0 rfl) ?_
        refine va_get (D := D) (ci := 4) (v := .ref a4) (C := RM) (T := TM) (N := 7) hx hb hts hi4 hown hK hP 0 rfl rfl 4 (by decide) hk5 (fun _ h9 => h9) rfl dM_shift_82 ?_
        refine lv_bipush (v := 16) hx hb dM_shift_85 (by decide) ?_
        refine va_lald hx hb hK hP 4 3 rfl rfl (vp_in_iff.mpr (by decide)) dM_shift_87 ?_
        refine lv_iload_n hx hb dM_shift_88 rfl (lv_at hl 2 rfl) ?_
        refine lv_lshl (v := (st.2.2.2.1 (16 : Int32).toNatClampNeg) <<< (p2.toInt64 &&& 63)) hx hb dM_shift_89 rfl ?_
        refine va_last hx hb hK hP hD hS 4 3 rfl rfl (vp_in_iff.mpr (by decide)) dM_shift_90 (fun H locs hP hD hS => ?_)
        have hP : va_P D vwCl ([(h0, .inr (4, [.int th, .ref a1, .ref a2, .ref a3, .ref a4, .ref a5, .ref a6])), (a1, .inl (cj1, 19, .inr (.inl (vp_updL st.1 (18 : Int32).toNatClampNeg ((st.1 (16 : Int32).toNatClampNeg) <<< (p2.toInt64 &&& 63)))))), (a2, .inl (cj2, 19, .inr (.inl (vp_updL st.2.1 (18 : Int32).toNatClampNeg ((st.2.1 (16 : Int32).toNatClampNeg) <<< (p2.toInt64 &&& 63)))))), (a3, .inl (cj3, 19, .inr (.inl (vp_updL st.2.2.1 (18 : Int32).toNatClampNeg ((st.2.2.1 (16 : Int32).toNatClampNeg) <<< (p2.toInt64 &&& 63)))))), (a4, .inl (cj4, 19, .inr (.inl (vp_updL st.2.2.2.1 (18 : Int32).toNatClampNeg ((st.2.2.2.1 (16 : Int32).toNatClampNeg) <<< (p2.toInt64 &&& 63)))))), (a5, .inl (cj5, 19, .inr (.inl st.2.2.2.2.1))), (a6, .inl (cj6, 19, .inr (.inl st.2.2.2.2.2)))]) H := hP
        have hD : va_D A ([(h0, .inr (4, [.int th, .ref a1, .ref a2, .ref a3, .ref a4, .ref a5, .ref a6])), (a1, .inl (cj1, 19, .inr (.inl (vp_updL st.1 (18 : Int32).toNatClampNeg ((st.1 (16 : Int32).toNatClampNeg) <<< (p2.toInt64 &&& 63)))))), (a2, .inl (cj2, 19, .inr (.inl (vp_updL st.2.1 (18 : Int32).toNatClampNeg ((st.2.1 (16 : Int32).toNatClampNeg) <<< (p2.toInt64 &&& 63)))))), (a3, .inl (cj3, 19, .inr (.inl (vp_updL st.2.2.1 (18 : Int32).toNatClampNeg ((st.2.2.1 (16 : Int32).toNatClampNeg) <<< (p2.toInt64 &&& 63)))))), (a4, .inl (cj4, 19, .inr (.inl (vp_updL st.2.2.2.1 (18 : Int32).toNatClampNeg ((st.2.2.2.1 (16 : Int32).toNatClampNeg) <<< (p2.toInt64 &&& 63)))))), (a5, .inl (cj5, 19, .inr (.inl st.2.2.2.2.1))), (a6, .inl (cj6, 19, .inr (.inl st.2.2.2.2.2)))]) := hD
        refine lv_goto (tgt := 231) hx hb dM_shift_91 (by decide) ?_
        have e9 : f_M_shift st p1 p2 = (vp_updL st.1 (18 : Int32).toNatClampNeg ((st.1 (16 : Int32).toNatClampNeg) <<< (p2.toInt64 &&& 63)), vp_updL st.2.1 (18 : Int32).toNatClampNeg ((st.2.1 (16 : Int32).toNatClampNeg) <<< (p2.toInt64 &&& 63)), vp_updL st.2.2.1 (18 : Int32).toNatClampNeg ((st.2.2.1 (16 : Int32).toNatClampNeg) <<< (p2.toInt64 &&& 63)), vp_updL st.2.2.2.1 (18 : Int32).toNatClampNeg ((st.2.2.2.1 (16 : Int32).toNatClampNeg) <<< (p2.toInt64 &&& 63)), st.2.2.2.2.1, st.2.2.2.2.2) := (if_pos c1).trans ((if_neg c3).trans ((if_pos c4).trans (rfl)))
        rw [e9]
        exact sp_vret C hAe hP hK hD hS dM_shift_231
def f_M_bytesOf (st : Md) (p1 : Int32) : Int32 :=
  if (f_M_isExact st p1) = 0 then 8
  else if (lg_cmp (st.1 p1.toNatClampNeg) 2) = 0 then (st.1 p1.toNatClampNeg).toInt32
  else if (lg_cmp (st.1 p1.toNatClampNeg) 4) = 0 then (st.1 p1.toNatClampNeg).toInt32
  else 8
set_option maxHeartbeats 4000000 in
set_option maxRecDepth 100000 in
theorem c_M_bytesOf (l : Launch) (D : va_G) (h0 : Nat) (a1 : Nat) (a2 : Nat) (a3 : Nat) (a4 : Nat) (a5 : Nat) (a6 : Nat) (cj1 cj2 cj3 cj4 cj5 cj6 : ClassId) (th : Int32) (st : Md) (p1 : Int32) (hq1 : vp_in p1 19) : sp_M l yM_bytesOf wsM_bytesOf ({ frames := 1, cells := 0, slots := 0, locals := 21 }) D [.ref h0, .int p1] ([(h0, .inr (4, [.int th, .ref a1, .ref a2, .ref a3, .ref a4, .ref a5, .ref a6])), (a1, .inl (cj1, 19, .inr (.inl st.1))), (a2, .inl (cj2, 19, .inr (.inl st.2.1))), (a3, .inl (cj3, 19, .inr (.inl st.2.2.1))), (a4, .inl (cj4, 19, .inr (.inl st.2.2.2.1))), (a5, .inl (cj5, 19, .inr (.inl st.2.2.2.2.1))), (a6, .inl (cj6, 19, .inr (.inl st.2.2.2.2.2)))]) [(cj1, .long), (cj2, .long), (cj3, .long), (cj4, .long), (cj5, .long), (cj6, .long)] (sp_Qi D ([(h0, .inr (4, [.int th, .ref a1, .ref a2, .ref a3, .ref a4, .ref a5, .ref a6])), (a1, .inl (cj1, 19, .inr (.inl st.1))), (a2, .inl (cj2, 19, .inr (.inl st.2.1))), (a3, .inl (cj3, 19, .inr (.inl st.2.2.1))), (a4, .inl (cj4, 19, .inr (.inl st.2.2.2.1))), (a5, .inl (cj5, 19, .inr (.inl st.2.2.2.2.1))), (a6, .inl (cj6, 19, .inr (.inl st.2.2.2.2.2)))]) ([(h0, .inr (4, [.int th, .ref a1, .ref a2, .ref a3, .ref a4, .ref a5, .ref a6])), (a1, .inl (cj1, 19, .inr (.inl st.1))), (a2, .inl (cj2, 19, .inr (.inl st.2.1))), (a3, .inl (cj3, 19, .inr (.inl st.2.2.1))), (a4, .inl (cj4, 19, .inr (.inl st.2.2.2.1))), (a5, .inl (cj5, 19, .inr (.inl st.2.2.2.2.1))), (a6, .inl (cj6, 19, .inr (.inl st.2.2.2.2.2)))]) [(cj1, .long), (cj2, .long), (cj3, .long), (cj4, .long), (cj5, .long), (cj6, .long)] (f_M_bytesOf st p1)) := by
  refine sp_ofW (cc := cM_bytesOf) (nL := 2) (ret := (some .int)) (own := RM) (by decide) rfl rfl (Nat.le_of_ble_eq_true rfl) ?_
  intro p e s m below meth c A ls hAe hnm C hA hP hK hD hS hl
  have hx := C.1
  have hb := C.2.1
  have hown := C.2.2.2.2.1
  have hts := C.2.2.2.2.2.1
  have hl : lv_has ls 2 [(0, .ref h0), (1, .int p1)] := hl
  have hi4 : ∀ w ∈ u_ws RM TM 7, w ∈ wsM_bytesOf := fun w h => List.mem_cons_of_mem _ (inM w h)
  have hk0 := hts _ (List.mem_cons_of_mem _ wm_382)
  have hk1 := hts _ (List.mem_cons_of_mem _ wm_437)
  have hk2 := hts _ (List.mem_cons_of_mem _ wm_438)
  refine lv_aload_n hx hb dM_bytesOf_0 rfl (lv_at hl 0 rfl) ?_
  refine lv_iload_n hx hb dM_bytesOf_1 rfl (lv_at hl 1 rfl) ?_
  refine sp_callz (sp_runV (As := [.int p1]) (rest := []) C (c_M_isExact l D h0 a1 a2 a3 a4 a5 a6 cj1 cj2 cj3 cj4 cj5 cj6 th st p1 hq1) (cwV 1 hts (gV wG_c wm_419 wm_420 wm_421 wm_378 wm_418) rfl rfl rfl (by decide +kernel) ⟨Nat.le_of_ble_eq_true rfl, Nat.le_of_ble_eq_true rfl⟩) hK hP hD [0, 1, 2, 3, 4, 5, 6] (by decide) rfl [0, 1, 2, 3, 4, 5] rfl 0 4 rfl rfl rfl rfl hl.1 rfl (Nat.le_of_ble_eq_true rfl) dM_bytesOf_2 ⟨Nat.le_of_ble_eq_true rfl, Nat.le_of_ble_eq_true rfl⟩) hP hD hS hA [0, 1, 2, 3, 4, 5, 6] rfl (sp_fc (sp_fc (sp_fc (sp_fc (sp_fc (sp_fc (sp_fc sp_f0))))))) (fun H locs z1 hP hD hS => ?_)
  have hP : va_P D vwCl ([(h0, .inr (4, [.int th, .ref a1, .ref a2, .ref a3, .ref a4, .ref a5, .ref a6])), (a1, .inl (cj1, 19, .inr (.inl st.1))), (a2, .inl (cj2, 19, .inr (.inl st.2.1))), (a3, .inl (cj3, 19, .inr (.inl st.2.2.1))), (a4, .inl (cj4, 19, .inr (.inl st.2.2.2.1))), (a5, .inl (cj5, 19, .inr (.inl st.2.2.2.2.1))), (a6, .inl (cj6, 19, .inr (.inl st.2.2.2.2.2)))]) H := hP
  have hD : va_D A ([(h0, .inr (4, [.int th, .ref a1, .ref a2, .ref a3, .ref a4, .ref a5, .ref a6])), (a1, .inl (cj1, 19, .inr (.inl st.1))), (a2, .inl (cj2, 19, .inr (.inl st.2.1))), (a3, .inl (cj3, 19, .inr (.inl st.2.2.1))), (a4, .inl (cj4, 19, .inr (.inl st.2.2.2.1))), (a5, .inl (cj5, 19, .inr (.inl st.2.2.2.2.1))), (a6, .inl (cj6, 19, .inr (.inl st.2.2.2.2.2)))]) := hD
  refine lv_if_eq (tgt := 44) hx hb dM_bytesOf_5 (by decide) (fun c2 => ?_) (fun c2 => ?_)
  · refine lv_bipush (v := 8) hx hb dM_bytesOf_44 (by decide) ?_
    have e9 : f_M_bytesOf st p1 = 8 := (if_pos c2).trans (rfl)
    rw [e9]
    exact sp_iret C hAe hP hK hD hS dM_bytesOf_46
  · refine lv_aload_n hx hb dM_bytesOf_8 rfl (lv_at hl 0 rfl) ?_
    refine va_get (D := D) (ci := 4) (v := .ref a1) (C := RM) (T := TM) (N := 7) hx hb hts hi4 hown hK hP 0 rfl rfl 1 (by decide) hk0 (fun _ h9 => h9) rfl dM_bytesOf_9 ?_
    refine lv_iload_n hx hb dM_bytesOf_12 rfl (lv_at hl 1 rfl) ?_
    refine va_lald hx hb hK hP 1 0 rfl rfl hq1 dM_bytesOf_13 ?_
    refine lv_ldc2 (v := 2) hx hb hown hk1 dM_bytesOf_14 ?_
    refine W.lcmp hx hb dM_bytesOf_17 ?_
    refine lv_if_eq (tgt := 34) hx hb dM_bytesOf_18 (by decide) (fun c3 => ?_) (fun c3 => ?_)
    · refine lv_aload_n hx hb dM_bytesOf_34 rfl (lv_at hl 0 rfl) ?_
      refine va_get (D := D) (ci := 4) (v := .ref a1) (C := RM) (T := TM) (N := 7) hx hb hts hi4 hown hK hP 0 rfl rfl 1 (by decide) hk0 (fun _ h9 => h9) rfl dM_bytesOf_35 ?_
      refine lv_iload_n hx hb dM_bytesOf_38 rfl (lv_at hl 1 rfl) ?_
      refine va_lald hx hb hK hP 1 0 rfl rfl hq1 dM_bytesOf_39 ?_
      refine lv_l2i (v := (st.1 p1.toNatClampNeg).toInt32) hx hb dM_bytesOf_40 rfl ?_
      refine lv_goto (tgt := 46) hx hb dM_bytesOf_41 (by decide) ?_
      have e9 : f_M_bytesOf st p1 = (st.1 p1.toNatClampNeg).toInt32 := (if_neg c2).trans ((if_pos c3).trans (rfl))
      rw [e9]
      exact sp_iret C hAe hP hK hD hS dM_bytesOf_46
    · refine lv_aload_n hx hb dM_bytesOf_21 rfl (lv_at hl 0 rfl) ?_
      refine va_get (D := D) (ci := 4) (v := .ref a1) (C := RM) (T := TM) (N := 7) hx hb hts hi4 hown hK hP 0 rfl rfl 1 (by decide) hk0 (fun _ h9 => h9) rfl dM_bytesOf_22 ?_
      refine lv_iload_n hx hb dM_bytesOf_25 rfl (lv_at hl 1 rfl) ?_
      refine va_lald hx hb hK hP 1 0 rfl rfl hq1 dM_bytesOf_26 ?_
      refine lv_ldc2 (v := 4) hx hb hown hk2 dM_bytesOf_27 ?_
      refine W.lcmp hx hb dM_bytesOf_30 ?_
      refine lv_if_ne (tgt := 44) hx hb dM_bytesOf_31 (by decide) (fun c4 => ?_) (fun c4 => ?_)
      · refine lv_bipush (v := 8) hx hb dM_bytesOf_44 (by decide) ?_
        have e9 : f_M_bytesOf st p1 = 8 := (if_neg c2).trans ((if_neg c3).trans ((if_neg c4).trans (rfl)))
        rw [e9]
        exact sp_iret C hAe hP hK hD hS dM_bytesOf_46
      · refine lv_aload_n hx hb dM_bytesOf_34 rfl (lv_at hl 0 rfl) ?_
        refine va_get (D := D) (ci := 4) (v := .ref a1) (C := RM) (T := TM) (N := 7) hx hb hts hi4 hown hK hP 0 rfl rfl 1 (by decide) hk0 (fun _ h9 => h9) rfl dM_bytesOf_35 ?_
        refine lv_iload_n hx hb dM_bytesOf_38 rfl (lv_at hl 1 rfl) ?_
        refine va_lald hx hb hK hP 1 0 rfl rfl hq1 dM_bytesOf_39 ?_
        refine lv_l2i (v := (st.1 p1.toNatClampNeg).toInt32) hx hb dM_bytesOf_40 rfl ?_
        refine lv_goto (tgt := 46) hx hb dM_bytesOf_41 (by decide) ?_
        have e9 : f_M_bytesOf st p1 = (st.1 p1.toNatClampNeg).toInt32 := (if_neg c2).trans ((if_neg c3).trans ((if_pos c4).trans (rfl)))
        rw [e9]
        exact sp_iret C hAe hP hK hD hS dM_bytesOf_46
