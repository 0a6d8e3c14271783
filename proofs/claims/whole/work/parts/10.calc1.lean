theorem wm_130 : (.constantLong RX2 90 (-1) : Cond) ∈ wsG := wG_of 330 (by decide +kernel) (by decide +kernel)
theorem wm_131 : (.methodLink RX2 178 yX1_isExactly : Cond) ∈ wsG := wG_of 392 (by decide +kernel) (by decide +kernel)
theorem wm_132 : (.constantLong RX2 176 2 : Cond) ∈ wsG := wG_of 391 (by decide +kernel) (by decide +kernel)
theorem wm_133 : (.constantLong RX2 182 4 : Cond) ∈ wsG := wG_of 396 (by decide +kernel) (by decide +kernel)
theorem wm_134 : (.methodLink RX2 92 yX1_setBits : Cond) ∈ wsG := wG_of 309 (by decide +kernel) (by decide +kernel)
theorem wm_135 : (.code yX2_sumOverflows cX2_sumOverflows 6 (some .boolean) : Cond) ∈ wsG := wG_of 333 (by decide +kernel) (by decide +kernel)
theorem wm_136 : (.methodLink RX2 112 yX2_sumOverflows : Cond) ∈ wsG := wG_of 331 (by decide +kernel) (by decide +kernel)
theorem wm_137 : (.static yX2_sumOverflows : Cond) ∈ wsG := wG_of 332 (by decide +kernel) (by decide +kernel)
theorem wm_138 : (.methodLink RX2 118 yX1_setSigned : Cond) ∈ wsG := wG_of 319 (by decide +kernel) (by decide +kernel)
theorem wm_139 : (.methodLink RX2 106 yX1_setUnsigned : Cond) ∈ wsG := wG_of 310 (by decide +kernel) (by decide +kernel)
theorem wm_140 : (.fieldLink RX2 83 "RangeDesk$Num" "value" "J" : Cond) ∈ wsG := wG_of 96 (by decide +kernel) (by decide +kernel)
theorem wm_141 : (.fieldLink RX2 87 "RangeDesk$Num" "mask" "J" : Cond) ∈ wsG := wG_of 100 (by decide +kernel) (by decide +kernel)
theorem wm_142 : (.fieldLink RX2 96 "RangeDesk$Num" "greatest" "J" : Cond) ∈ wsG := wG_of 108 (by decide +kernel) (by decide +kernel)
theorem wm_143 : (.fieldLink RX2 109 "RangeDesk$Num" "signedLeast" "J" : Cond) ∈ wsG := wG_of 112 (by decide +kernel) (by decide +kernel)
theorem wm_144 : (.fieldLink RX2 115 "RangeDesk$Num" "signedGreatest" "J" : Cond) ∈ wsG := wG_of 116 (by decide +kernel) (by decide +kernel)
theorem wm_145 : (.fieldLink RX2 103 "RangeDesk$Num" "least" "J" : Cond) ∈ wsG := wG_of 104 (by decide +kernel) (by decide +kernel)
theorem wm_146 : (.code yX2_differenceOverflows cX2_differenceOverflows 4 (some .boolean) : Cond) ∈ wsG := wG_of 340 (by decide +kernel) (by decide +kernel)
theorem wm_147 : (.methodLink RX2 121 yX2_differenceOverflows : Cond) ∈ wsG := wG_of 338 (by decide +kernel) (by decide +kernel)
theorem wm_148 : (.static yX2_differenceOverflows : Cond) ∈ wsG := wG_of 339 (by decide +kernel) (by decide +kernel)
theorem wm_149 : (.code yX1_isExact cX1_isExact 1 (some .boolean) : Cond) ∈ wsG := wG_of 302 (by decide +kernel) (by decide +kernel)
theorem wm_150 : (.methodLink RX2 124 yX1_isExact : Cond) ∈ wsG := wG_of 299 (by decide +kernel) (by decide +kernel)
theorem wm_151 : (.instanceMethod yX1_isExact : Cond) ∈ wsG := wG_of 300 (by decide +kernel) (by decide +kernel)
theorem wm_152 : (.selects RX1 yX1_isExact yX1_isExact : Cond) ∈ wsG := wG_of 301 (by decide +kernel) (by decide +kernel)
theorem wm_153 : (.methodLink RX2 131 yX1_mayBeOne : Cond) ∈ wsG := wG_of 346 (by decide +kernel) (by decide +kernel)
theorem wm_154 : (.code yJL_numberOfTrailingZeros cJL_numberOfTrailingZeros 3 (some .int) : Cond) ∈ wsG := wG_of 349 (by decide +kernel) (by decide +kernel)
theorem wm_155 : (.methodLink RX2 135 yJL_numberOfTrailingZeros : Cond) ∈ wsG := wG_of 347 (by decide +kernel) (by decide +kernel)
theorem wm_156 : (.static yJL_numberOfTrailingZeros : Cond) ∈ wsG := wG_of 348 (by decide +kernel) (by decide +kernel)
theorem wm_157 : (.code yX1_becomeExact cX1_becomeExact 3 none : Cond) ∈ wsG := wG_of 178 (by decide +kernel) (by decide +kernel)
theorem wm_158 : (.methodLink RX2 127 yX1_becomeExact : Cond) ∈ wsG := wG_of 345 (by decide +kernel) (by decide +kernel)
theorem wm_159 : (.instanceMethod yX1_becomeExact : Cond) ∈ wsG := wG_of 176 (by decide +kernel) (by decide +kernel)
theorem wm_160 : (.selects RX1 yX1_becomeExact yX1_becomeExact : Cond) ∈ wsG := wG_of 177 (by decide +kernel) (by decide +kernel)
theorem wm_161 : (.constantLong RX2 141 4294967295 : Cond) ∈ wsG := wG_of 353 (by decide +kernel) (by decide +kernel)
theorem wm_162 : (.code yX2_quotient cX2_quotient 6 (some .long) : Cond) ∈ wsG := wG_of 360 (by decide +kernel) (by decide +kernel)
theorem wm_163 : (.methodLink RX2 143 yX2_quotient : Cond) ∈ wsG := wG_of 358 (by decide +kernel) (by decide +kernel)
theorem wm_164 : (.static yX2_quotient : Cond) ∈ wsG := wG_of 359 (by decide +kernel) (by decide +kernel)
theorem wm_165 : (.code yX1_become cX1_become 2 none : Cond) ∈ wsG := wG_of 287 (by decide +kernel) (by decide +kernel)
theorem wm_166 : (.methodLink RX2 24 yX1_become : Cond) ∈ wsG := wG_of 284 (by decide +kernel) (by decide +kernel)
theorem wm_167 : (.instanceMethod yX1_become : Cond) ∈ wsG := wG_of 285 (by decide +kernel) (by decide +kernel)
theorem wm_168 : (.selects RX1 yX1_become yX1_become : Cond) ∈ wsG := wG_of 286 (by decide +kernel) (by decide +kernel)
theorem wm_169 : (.code yX0_unsignedMin cX0_unsignedMin 4 (some .long) : Cond) ∈ wsG := wG_of 371 (by decide +kernel) (by decide +kernel)
theorem wm_170 : (.static yX0_unsignedMin : Cond) ∈ wsG := wG_of 370 (by decide +kernel) (by decide +kernel)
theorem wm_171 : (.code yX0_unsignedMax cX0_unsignedMax 4 (some .long) : Cond) ∈ wsG := wG_of 378 (by decide +kernel) (by decide +kernel)
theorem wm_172 : (.static yX0_unsignedMax : Cond) ∈ wsG := wG_of 377 (by decide +kernel) (by decide +kernel)
theorem wm_173 : (.code yX2_shiftRightSigned cX2_shiftRightSigned 2 none : Cond) ∈ wsG := wG_of 318 (by decide +kernel) (by decide +kernel)
theorem wm_174 : (.methodLink RX2 163 yX2_shiftRightSigned : Cond) ∈ wsG := wG_of 315 (by decide +kernel) (by decide +kernel)
theorem wm_175 : (.instanceMethod yX2_shiftRightSigned : Cond) ∈ wsG := wG_of 317 (by decide +kernel) (by decide +kernel)
theorem wm_176 : (.selects RX2 yX2_shiftRightSigned yX2_shiftRightSigned : Cond) ∈ wsG := wG_of 8 (by decide +kernel) (by decide +kernel)
theorem wm_177 : (.code yX2_shiftRight cX2_shiftRight 2 none : Cond) ∈ wsG := wG_of 314 (by decide +kernel) (by decide +kernel)
theorem wm_178 : (.methodLink RX2 160 yX2_shiftRight : Cond) ∈ wsG := wG_of 311 (by decide +kernel) (by decide +kernel)
theorem wm_179 : (.instanceMethod yX2_shiftRight : Cond) ∈ wsG := wG_of 313 (by decide +kernel) (by decide +kernel)
theorem wm_180 : (.selects RX2 yX2_shiftRight yX2_shiftRight : Cond) ∈ wsG := wG_of 7 (by decide +kernel) (by decide +kernel)
theorem wm_181 : (.code yX2_shiftLeft cX2_shiftLeft 2 none : Cond) ∈ wsG := wG_of 308 (by decide +kernel) (by decide +kernel)
theorem wm_182 : (.methodLink RX2 157 yX2_shiftLeft : Cond) ∈ wsG := wG_of 305 (by decide +kernel) (by decide +kernel)
theorem wm_183 : (.instanceMethod yX2_shiftLeft : Cond) ∈ wsG := wG_of 307 (by decide +kernel) (by decide +kernel)
theorem wm_184 : (.selects RX2 yX2_shiftLeft yX2_shiftLeft : Cond) ∈ wsG := wG_of 6 (by decide +kernel) (by decide +kernel)
theorem wm_185 : (.constantLong RX2 155 63 : Cond) ∈ wsG := wG_of 304 (by decide +kernel) (by decide +kernel)
theorem wm_186 : (.constantLong RX2 153 31 : Cond) ∈ wsG := wG_of 303 (by decide +kernel) (by decide +kernel)
theorem wm_187 : (.constantLong RX2 166 2147483648 : Cond) ∈ wsG := wG_of 320 (by decide +kernel) (by decide +kernel)
theorem wm_188 : (.code yX2_subtract cX2_subtract 5 none : Cond) ∈ wsG := wG_of 337 (by decide +kernel) (by decide +kernel)
theorem wm_189 : (.methodLink RX2 49 yX2_subtract : Cond) ∈ wsG := wG_of 334 (by decide +kernel) (by decide +kernel)
theorem wm_190 : (.instanceMethod yX2_subtract : Cond) ∈ wsG := wG_of 336 (by decide +kernel) (by decide +kernel)
theorem wm_191 : (.selects RX2 yX2_subtract yX2_subtract : Cond) ∈ wsG := wG_of 11 (by decide +kernel) (by decide +kernel)
theorem wm_192 : (.code yX2_greatestOf cX2_greatestOf 1 (some .long) : Cond) ∈ wsG := wG_of 408 (by decide +kernel) (by decide +kernel)
theorem wm_193 : (.methodLink RX2 172 yX2_greatestOf : Cond) ∈ wsG := wG_of 406 (by decide +kernel) (by decide +kernel)
theorem wm_194 : (.static yX2_greatestOf : Cond) ∈ wsG := wG_of 407 (by decide +kernel) (by decide +kernel)
theorem wm_195 : (.code yJL_reverseBytes cJL_reverseBytes 2 (some .long) : Cond) ∈ wsG := wG_of 403 (by decide +kernel) (by decide +kernel)
theorem wm_196 : (.methodLink RX2 168 yJL_reverseBytes : Cond) ∈ wsG := wG_of 401 (by decide +kernel) (by decide +kernel)
theorem wm_197 : (.static yJL_reverseBytes : Cond) ∈ wsG := wG_of 402 (by decide +kernel) (by decide +kernel)
theorem wm_198 : (.code yX2_and cX2_and 3 none : Cond) ∈ wsG := wG_of 368 (by decide +kernel) (by decide +kernel)
theorem wm_199 : (.methodLink RX2 61 yX2_and : Cond) ∈ wsG := wG_of 365 (by decide +kernel) (by decide +kernel)
theorem wm_200 : (.instanceMethod yX2_and : Cond) ∈ wsG := wG_of 367 (by decide +kernel) (by decide +kernel)
theorem wm_201 : (.selects RX2 yX2_and yX2_and : Cond) ∈ wsG := wG_of 15 (by decide +kernel) (by decide +kernel)
theorem dX2_greatestOf_0 : decode cX2_greatestOf 0 = .ok (.ldc2_w 90, 3) := by decide +kernel
theorem dX2_greatestOf_3 : decode cX2_greatestOf 3 = .ok (.bipush 64, 2) := by decide +kernel
theorem dX2_greatestOf_5 : decode cX2_greatestOf 5 = .ok (.bipush 8, 2) := by decide +kernel
theorem dX2_greatestOf_7 : decode cX2_greatestOf 7 = .ok (.iload_n 0, 1) := by decide +kernel
theorem dX2_greatestOf_8 : decode cX2_greatestOf 8 = .ok (.imul, 1) := by decide +kernel
theorem dX2_greatestOf_9 : decode cX2_greatestOf 9 = .ok (.isub, 1) := by decide +kernel
theorem dX2_greatestOf_10 : decode cX2_greatestOf 10 = .ok (.lushr, 1) := by decide +kernel
theorem dX2_greatestOf_11 : decode cX2_greatestOf 11 = .ok (.lreturn, 1) := by decide +kernel
theorem dX2_quotient_0 : decode cX2_quotient 0 = .ok (.lload_n 2, 1) := by decide +kernel
theorem dX2_quotient_1 : decode cX2_quotient 1 = .ok (.lconst 0, 1) := by decide +kernel
theorem dX2_quotient_2 : decode cX2_quotient 2 = .ok (.lcmp, 1) := by decide +kernel
theorem dX2_quotient_3 : decode cX2_quotient 3 = .ok (.ifCond .ne 5, 3) := by decide +kernel
theorem dX2_quotient_6 : decode cX2_quotient 6 = .ok (.lconst 0, 1) := by decide +kernel
theorem dX2_quotient_7 : decode cX2_quotient 7 = .ok (.lreturn, 1) := by decide +kernel
theorem dX2_quotient_8 : decode cX2_quotient 8 = .ok (.lload_n 2, 1) := by decide +kernel
theorem dX2_quotient_9 : decode cX2_quotient 9 = .ok (.lconst 0, 1) := by decide +kernel
theorem dX2_quotient_10 : decode cX2_quotient 10 = .ok (.lcmp, 1) := by decide +kernel
theorem dX2_quotient_11 : decode cX2_quotient 11 = .ok (.ifCond .ge 17, 3) := by decide +kernel
theorem dX2_quotient_14 : decode cX2_quotient 14 = .ok (.lload_n 2, 1) := by decide +kernel
theorem dX2_quotient_15 : decode cX2_quotient 15 = .ok (.lload_n 0, 1) := by decide +kernel
theorem dX2_quotient_16 : decode cX2_quotient 16 = .ok (.invokestatic 99, 3) := by decide +kernel
theorem dX2_quotient_19 : decode cX2_quotient 19 = .ok (.ifCond .eq 7, 3) := by decide +kernel
theorem dX2_quotient_22 : decode cX2_quotient 22 = .ok (.lconst 0, 1) := by decide +kernel
theorem dX2_quotient_23 : decode cX2_quotient 23 = .ok (.goto 4, 3) := by decide +kernel
theorem dX2_quotient_26 : decode cX2_quotient 26 = .ok (.lconst 1, 1) := by decide +kernel
theorem dX2_quotient_27 : decode cX2_quotient 27 = .ok (.lreturn, 1) := by decide +kernel
theorem dX2_quotient_28 : decode cX2_quotient 28 = .ok (.lload_n 0, 1) := by decide +kernel
theorem dX2_quotient_29 : decode cX2_quotient 29 = .ok (.iconst 1, 1) := by decide +kernel
theorem dX2_quotient_30 : decode cX2_quotient 30 = .ok (.lushr, 1) := by decide +kernel
theorem dX2_quotient_31 : decode cX2_quotient 31 = .ok (.lload_n 2, 1) := by decide +kernel
theorem dX2_quotient_32 : decode cX2_quotient 32 = .ok (.ldiv, 1) := by decide +kernel
theorem dX2_quotient_33 : decode cX2_quotient 33 = .ok (.iconst 1, 1) := by decide +kernel
theorem dX2_quotient_34 : decode cX2_quotient 34 = .ok (.lshl, 1) := by decide +kernel
theorem dX2_quotient_35 : decode cX2_quotient 35 = .ok (.lstore 4, 2) := by decide +kernel
theorem dX2_quotient_37 : decode cX2_quotient 37 = .ok (.lload_n 2, 1) := by decide +kernel
theorem dX2_quotient_38 : decode cX2_quotient 38 = .ok (.lload_n 0, 1) := by decide +kernel
theorem dX2_quotient_39 : decode cX2_quotient 39 = .ok (.lload 4, 2) := by decide +kernel
theorem dX2_quotient_41 : decode cX2_quotient 41 = .ok (.lload_n 2, 1) := by decide +kernel
theorem dX2_quotient_42 : decode cX2_quotient 42 = .ok (.lmul, 1) := by decide +kernel
theorem dX2_quotient_43 : decode cX2_quotient 43 = .ok (.lsub, 1) := by decide +kernel
theorem dX2_quotient_44 : decode cX2_quotient 44 = .ok (.invokestatic 99, 3) := by decide +kernel
theorem dX2_quotient_47 : decode cX2_quotient 47 = .ok (.ifCond .eq 8, 3) := by decide +kernel
theorem dX2_quotient_50 : decode cX2_quotient 50 = .ok (.lload 4, 2) := by decide +kernel
theorem dX2_quotient_52 : decode cX2_quotient 52 = .ok (.goto 7, 3) := by decide +kernel
theorem dX2_quotient_55 : decode cX2_quotient 55 = .ok (.lload 4, 2) := by decide +kernel
theorem dX2_quotient_57 : decode cX2_quotient 57 = .ok (.lconst 1, 1) := by decide +kernel
theorem dX2_quotient_58 : decode cX2_quotient 58 = .ok (.ladd, 1) := by decide +kernel
theorem dX2_quotient_59 : decode cX2_quotient 59 = .ok (.lreturn, 1) := by decide +kernel
theorem dX2_sumOverflows_0 : decode cX2_sumOverflows 0 = .ok (.lload_n 0, 1) := by decide +kernel
theorem dX2_sumOverflows_1 : decode cX2_sumOverflows 1 = .ok (.lload_n 2, 1) := by decide +kernel
theorem dX2_sumOverflows_2 : decode cX2_sumOverflows 2 = .ok (.ladd, 1) := by decide +kernel
theorem dX2_sumOverflows_3 : decode cX2_sumOverflows 3 = .ok (.lstore 4, 2) := by decide +kernel
theorem dX2_sumOverflows_5 : decode cX2_sumOverflows 5 = .ok (.lload_n 0, 1) := by decide +kernel
theorem dX2_sumOverflows_6 : decode cX2_sumOverflows 6 = .ok (.lload 4, 2) := by decide +kernel
theorem dX2_sumOverflows_8 : decode cX2_sumOverflows 8 = .ok (.lxor, 1) := by decide +kernel
theorem dX2_sumOverflows_9 : decode cX2_sumOverflows 9 = .ok (.lload_n 2, 1) := by decide +kernel
theorem dX2_sumOverflows_10 : decode cX2_sumOverflows 10 = .ok (.lload 4, 2) := by decide +kernel
theorem dX2_sumOverflows_12 : decode cX2_sumOverflows 12 = .ok (.lxor, 1) := by decide +kernel
theorem dX2_sumOverflows_13 : decode cX2_sumOverflows 13 = .ok (.land, 1) := by decide +kernel
theorem dX2_sumOverflows_14 : decode cX2_sumOverflows 14 = .ok (.lconst 0, 1) := by decide +kernel
theorem dX2_sumOverflows_15 : decode cX2_sumOverflows 15 = .ok (.lcmp, 1) := by decide +kernel
theorem dX2_sumOverflows_16 : decode cX2_sumOverflows 16 = .ok (.ifCond .ge 7, 3) := by decide +kernel
theorem dX2_sumOverflows_19 : decode cX2_sumOverflows 19 = .ok (.iconst 1, 1) := by decide +kernel
theorem dX2_sumOverflows_20 : decode cX2_sumOverflows 20 = .ok (.goto 4, 3) := by decide +kernel
theorem dX2_sumOverflows_23 : decode cX2_sumOverflows 23 = .ok (.iconst 0, 1) := by decide +kernel
theorem dX2_sumOverflows_24 : decode cX2_sumOverflows 24 = .ok (.ireturn, 1) := by decide +kernel
theorem dX2_differenceOverflows_0 : decode cX2_differenceOverflows 0 = .ok (.lload_n 0, 1) := by decide +kernel
theorem dX2_differenceOverflows_1 : decode cX2_differenceOverflows 1 = .ok (.lload_n 2, 1) := by decide +kernel
theorem dX2_differenceOverflows_2 : decode cX2_differenceOverflows 2 = .ok (.lxor, 1) := by decide +kernel
theorem dX2_differenceOverflows_3 : decode cX2_differenceOverflows 3 = .ok (.lload_n 0, 1) := by decide +kernel
theorem dX2_differenceOverflows_4 : decode cX2_differenceOverflows 4 = .ok (.lload_n 0, 1) := by decide +kernel
theorem dX2_differenceOverflows_5 : decode cX2_differenceOverflows 5 = .ok (.lload_n 2, 1) := by decide +kernel
theorem dX2_differenceOverflows_6 : decode cX2_differenceOverflows 6 = .ok (.lsub, 1) := by decide +kernel
theorem dX2_differenceOverflows_7 : decode cX2_differenceOverflows 7 = .ok (.lxor, 1) := by decide +kernel
theorem dX2_differenceOverflows_8 : decode cX2_differenceOverflows 8 = .ok (.land, 1) := by decide +kernel
theorem dX2_differenceOverflows_9 : decode cX2_differenceOverflows 9 = .ok (.lconst 0, 1) := by decide +kernel
theorem dX2_differenceOverflows_10 : decode cX2_differenceOverflows 10 = .ok (.lcmp, 1) := by decide +kernel
theorem dX2_differenceOverflows_11 : decode cX2_differenceOverflows 11 = .ok (.ifCond .ge 7, 3) := by decide +kernel
theorem dX2_differenceOverflows_14 : decode cX2_differenceOverflows 14 = .ok (.iconst 1, 1) := by decide +kernel
theorem dX2_differenceOverflows_15 : decode cX2_differenceOverflows 15 = .ok (.goto 4, 3) := by decide +kernel
theorem dX2_differenceOverflows_18 : decode cX2_differenceOverflows 18 = .ok (.iconst 0, 1) := by decide +kernel
theorem dX2_differenceOverflows_19 : decode cX2_differenceOverflows 19 = .ok (.ireturn, 1) := by decide +kernel
theorem dX2_byteCount_0 : decode cX2_byteCount 0 = .ok (.aload_n 0, 1) := by decide +kernel
theorem dX2_byteCount_1 : decode cX2_byteCount 1 = .ok (.getfield 18, 3) := by decide +kernel
theorem dX2_byteCount_4 : decode cX2_byteCount 4 = .ok (.ldc2_w 176, 3) := by decide +kernel
theorem dX2_byteCount_7 : decode cX2_byteCount 7 = .ok (.invokevirtual 178, 3) := by decide +kernel
theorem dX2_byteCount_10 : decode cX2_byteCount 10 = .ok (.ifCond .eq 5, 3) := by decide +kernel
theorem dX2_byteCount_13 : decode cX2_byteCount 13 = .ok (.iconst 2, 1) := by decide +kernel
theorem dX2_byteCount_14 : decode cX2_byteCount 14 = .ok (.ireturn, 1) := by decide +kernel
theorem dX2_byteCount_15 : decode cX2_byteCount 15 = .ok (.aload_n 0, 1) := by decide +kernel
theorem dX2_byteCount_16 : decode cX2_byteCount 16 = .ok (.getfield 18, 3) := by decide +kernel
theorem dX2_byteCount_19 : decode cX2_byteCount 19 = .ok (.ldc2_w 182, 3) := by decide +kernel
theorem dX2_byteCount_22 : decode cX2_byteCount 22 = .ok (.invokevirtual 178, 3) := by decide +kernel
theorem dX2_byteCount_25 : decode cX2_byteCount 25 = .ok (.ifCond .eq 7, 3) := by decide +kernel
theorem dX2_byteCount_28 : decode cX2_byteCount 28 = .ok (.iconst 4, 1) := by decide +kernel
theorem dX2_byteCount_29 : decode cX2_byteCount 29 = .ok (.goto 5, 3) := by decide +kernel
theorem dX2_byteCount_32 : decode cX2_byteCount 32 = .ok (.bipush 8, 2) := by decide +kernel
theorem dX2_byteCount_34 : decode cX2_byteCount 34 = .ok (.ireturn, 1) := by decide +kernel
theorem dX2_add_0 : decode cX2_add 0 = .ok (.aload_n 0, 1) := by decide +kernel
theorem dX2_add_1 : decode cX2_add 1 = .ok (.getfield 12, 3) := by decide +kernel
theorem dX2_add_4 : decode cX2_add 4 = .ok (.getfield 83, 3) := by decide +kernel
theorem dX2_add_7 : decode cX2_add 7 = .ok (.aload_n 0, 1) := by decide +kernel
theorem dX2_add_8 : decode cX2_add 8 = .ok (.getfield 18, 3) := by decide +kernel
theorem dX2_add_11 : decode cX2_add 11 = .ok (.getfield 83, 3) := by decide +kernel
theorem dX2_add_14 : decode cX2_add 14 = .ok (.ladd, 1) := by decide +kernel
theorem dX2_add_15 : decode cX2_add 15 = .ok (.lstore_n 1, 1) := by decide +kernel
theorem dX2_add_16 : decode cX2_add 16 = .ok (.aload_n 0, 1) := by decide +kernel
theorem dX2_add_17 : decode cX2_add 17 = .ok (.getfield 12, 3) := by decide +kernel
theorem dX2_add_20 : decode cX2_add 20 = .ok (.getfield 87, 3) := by decide +kernel
theorem dX2_add_23 : decode cX2_add 23 = .ok (.aload_n 0, 1) := by decide +kernel
theorem dX2_add_24 : decode cX2_add 24 = .ok (.getfield 18, 3) := by decide +kernel
theorem dX2_add_27 : decode cX2_add 27 = .ok (.getfield 87, 3) := by decide +kernel
theorem dX2_add_30 : decode cX2_add 30 = .ok (.ladd, 1) := by decide +kernel
theorem dX2_add_31 : decode cX2_add 31 = .ok (.lload_n 1, 1) := by decide +kernel
theorem dX2_add_32 : decode cX2_add 32 = .ok (.ladd, 1) := by decide +kernel
theorem dX2_add_33 : decode cX2_add 33 = .ok (.lload_n 1, 1) := by decide +kernel
theorem dX2_add_34 : decode cX2_add 34 = .ok (.lxor, 1) := by decide +kernel
theorem dX2_add_35 : decode cX2_add 35 = .ok (.aload_n 0, 1) := by decide +kernel
theorem dX2_add_36 : decode cX2_add 36 = .ok (.getfield 12, 3) := by decide +kernel
theorem dX2_add_39 : decode cX2_add 39 = .ok (.getfield 87, 3) := by decide +kernel
theorem dX2_add_42 : decode cX2_add 42 = .ok (.lor, 1) := by decide +kernel
theorem dX2_add_43 : decode cX2_add 43 = .ok (.aload_n 0, 1) := by decide +kernel
theorem dX2_add_44 : decode cX2_add 44 = .ok (.getfield 18, 3) := by decide +kernel
theorem dX2_add_47 : decode cX2_add 47 = .ok (.getfield 87, 3) := by decide +kernel
theorem dX2_add_50 : decode cX2_add 50 = .ok (.lor, 1) := by decide +kernel
theorem dX2_add_51 : decode cX2_add 51 = .ok (.lstore_n 3, 1) := by decide +kernel
theorem dX2_add_52 : decode cX2_add 52 = .ok (.aload_n 0, 1) := by decide +kernel
theorem dX2_add_53 : decode cX2_add 53 = .ok (.getfield 21, 3) := by decide +kernel
theorem dX2_add_56 : decode cX2_add 56 = .ok (.lload_n 1, 1) := by decide +kernel
theorem dX2_add_57 : decode cX2_add 57 = .ok (.lload_n 3, 1) := by decide +kernel
theorem dX2_add_58 : decode cX2_add 58 = .ok (.ldc2_w 90, 3) := by decide +kernel
theorem dX2_add_61 : decode cX2_add 61 = .ok (.lxor, 1) := by decide +kernel
theorem dX2_add_62 : decode cX2_add 62 = .ok (.land, 1) := by decide +kernel
theorem dX2_add_63 : decode cX2_add 63 = .ok (.lload_n 3, 1) := by decide +kernel
theorem dX2_add_64 : decode cX2_add 64 = .ok (.invokevirtual 92, 3) := by decide +kernel
theorem dX2_add_67 : decode cX2_add 67 = .ok (.aload_n 0, 1) := by decide +kernel
theorem dX2_add_68 : decode cX2_add 68 = .ok (.getfield 12, 3) := by decide +kernel
theorem dX2_add_71 : decode cX2_add 71 = .ok (.getfield 96, 3) := by decide +kernel
theorem dX2_add_74 : decode cX2_add 74 = .ok (.aload_n 0, 1) := by decide +kernel
theorem dX2_add_75 : decode cX2_add 75 = .ok (.getfield 18, 3) := by decide +kernel
theorem dX2_add_78 : decode cX2_add 78 = .ok (.getfield 96, 3) := by decide +kernel
theorem dX2_add_81 : decode cX2_add 81 = .ok (.ladd, 1) := by decide +kernel
theorem dX2_add_82 : decode cX2_add 82 = .ok (.lstore 5, 2) := by decide +kernel
theorem dX2_add_84 : decode cX2_add 84 = .ok (.aload_n 0, 1) := by decide +kernel
theorem dX2_add_85 : decode cX2_add 85 = .ok (.getfield 12, 3) := by decide +kernel
theorem dX2_add_88 : decode cX2_add 88 = .ok (.getfield 96, 3) := by decide +kernel
theorem dX2_add_91 : decode cX2_add 91 = .ok (.lload 5, 2) := by decide +kernel
theorem dX2_add_93 : decode cX2_add 93 = .ok (.invokestatic 99, 3) := by decide +kernel
theorem dX2_add_96 : decode cX2_add 96 = .ok (.ifCond .ne 27, 3) := by decide +kernel
theorem dX2_add_99 : decode cX2_add 99 = .ok (.aload_n 0, 1) := by decide +kernel
theorem dX2_add_100 : decode cX2_add 100 = .ok (.getfield 21, 3) := by decide +kernel
theorem dX2_add_103 : decode cX2_add 103 = .ok (.aload_n 0, 1) := by decide +kernel
theorem dX2_add_104 : decode cX2_add 104 = .ok (.getfield 12, 3) := by decide +kernel
theorem dX2_add_107 : decode cX2_add 107 = .ok (.getfield 103, 3) := by decide +kernel
theorem dX2_add_110 : decode cX2_add 110 = .ok (.aload_n 0, 1) := by decide +kernel
theorem dX2_add_111 : decode cX2_add 111 = .ok (.getfield 18, 3) := by decide +kernel
theorem dX2_add_114 : decode cX2_add 114 = .ok (.getfield 103, 3) := by decide +kernel
theorem dX2_add_117 : decode cX2_add 117 = .ok (.ladd, 1) := by decide +kernel
theorem dX2_add_118 : decode cX2_add 118 = .ok (.lload 5, 2) := by decide +kernel
theorem dX2_add_120 : decode cX2_add 120 = .ok (.invokevirtual 106, 3) := by decide +kernel
theorem dX2_add_123 : decode cX2_add 123 = .ok (.aload_n 0, 1) := by decide +kernel
theorem dX2_add_124 : decode cX2_add 124 = .ok (.getfield 12, 3) := by decide +kernel
theorem dX2_add_127 : decode cX2_add 127 = .ok (.getfield 109, 3) := by decide +kernel
theorem dX2_add_130 : decode cX2_add 130 = .ok (.aload_n 0, 1) := by decide +kernel
theorem dX2_add_131 : decode cX2_add 131 = .ok (.getfield 18, 3) := by decide +kernel
theorem dX2_add_134 : decode cX2_add 134 = .ok (.getfield 109, 3) := by decide +kernel
theorem dX2_add_137 : decode cX2_add 137 = .ok (.invokestatic 112, 3) := by decide +kernel
theorem dX2_add_140 : decode cX2_add 140 = .ok (.ifCond .ne 60, 3) := by decide +kernel
theorem dX2_add_143 : decode cX2_add 143 = .ok (.aload_n 0, 1) := by decide +kernel
theorem dX2_add_144 : decode cX2_add 144 = .ok (.getfield 12, 3) := by decide +kernel
theorem dX2_add_147 : decode cX2_add 147 = .ok (.getfield 115, 3) := by decide +kernel
theorem dX2_add_150 : decode cX2_add 150 = .ok (.aload_n 0, 1) := by decide +kernel
theorem dX2_add_151 : decode cX2_add 151 = .ok (.getfield 18, 3) := by decide +kernel
theorem dX2_add_154 : decode cX2_add 154 = .ok (.getfield 115, 3) := by decide +kernel
theorem dX2_add_157 : decode cX2_add 157 = .ok (.invokestatic 112, 3) := by decide +kernel
theorem dX2_add_160 : decode cX2_add 160 = .ok (.ifCond .ne 40, 3) := by decide +kernel
theorem dX2_add_163 : decode cX2_add 163 = .ok (.aload_n 0, 1) := by decide +kernel
theorem dX2_add_164 : decode cX2_add 164 = .ok (.getfield 21, 3) := by decide +kernel
theorem dX2_add_167 : decode cX2_add 167 = .ok (.aload_n 0, 1) := by decide +kernel
theorem dX2_add_168 : decode cX2_add 168 = .ok (.getfield 12, 3) := by decide +kernel
theorem dX2_add_171 : decode cX2_add 171 = .ok (.getfield 109, 3) := by decide +kernel
theorem dX2_add_174 : decode cX2_add 174 = .ok (.aload_n 0, 1) := by decide +kernel
theorem dX2_add_175 : decode cX2_add 175 = .ok (.getfield 18, 3) := by decide +kernel
theorem dX2_add_178 : decode cX2_add 178 = .ok (.getfield 109, 3) := by decide +kernel
theorem dX2_add_181 : decode cX2_add 181 = .ok (.ladd, 1) := by decide +kernel
theorem dX2_add_182 : decode cX2_add 182 = .ok (.aload_n 0, 1) := by decide +kernel
theorem dX2_add_183 : decode cX2_add 183 = .ok (.getfield 12, 3) := by decide +kernel
theorem dX2_add_186 : decode cX2_add 186 = .ok (.getfield 115, 3) := by decide +kernel
theorem dX2_add_189 : decode cX2_add 189 = .ok (.aload_n 0, 1) := by decide +kernel
theorem dX2_add_190 : decode cX2_add 190 = .ok (.getfield 18, 3) := by decide +kernel
theorem dX2_add_193 : decode cX2_add 193 = .ok (.getfield 115, 3) := by decide +kernel
theorem dX2_add_196 : decode cX2_add 196 = .ok (.ladd, 1) := by decide +kernel
theorem dX2_add_197 : decode cX2_add 197 = .ok (.invokevirtual 118, 3) := by decide +kernel
theorem dX2_add_200 : decode cX2_add 200 = .ok (.return_, 1) := by decide +kernel
theorem dX2_subtract_0 : decode cX2_subtract 0 = .ok (.aload_n 0, 1) := by decide +kernel
theorem dX2_subtract_1 : decode cX2_subtract 1 = .ok (.getfield 12, 3) := by decide +kernel
theorem dX2_subtract_4 : decode cX2_subtract 4 = .ok (.getfield 83, 3) := by decide +kernel
theorem dX2_subtract_7 : decode cX2_subtract 7 = .ok (.aload_n 0, 1) := by decide +kernel
theorem dX2_subtract_8 : decode cX2_subtract 8 = .ok (.getfield 18, 3) := by decide +kernel
theorem dX2_subtract_11 : decode cX2_subtract 11 = .ok (.getfield 83, 3) := by decide +kernel
theorem dX2_subtract_14 : decode cX2_subtract 14 = .ok (.lsub, 1) := by decide +kernel
theorem dX2_subtract_15 : decode cX2_subtract 15 = .ok (.lstore_n 1, 1) := by decide +kernel
theorem dX2_subtract_16 : decode cX2_subtract 16 = .ok (.lload_n 1, 1) := by decide +kernel
theorem dX2_subtract_17 : decode cX2_subtract 17 = .ok (.aload_n 0, 1) := by decide +kernel
theorem dX2_subtract_18 : decode cX2_subtract 18 = .ok (.getfield 12, 3) := by decide +kernel
theorem dX2_subtract_21 : decode cX2_subtract 21 = .ok (.getfield 87, 3) := by decide +kernel
theorem dX2_subtract_24 : decode cX2_subtract 24 = .ok (.ladd, 1) := by decide +kernel
theorem dX2_subtract_25 : decode cX2_subtract 25 = .ok (.lload_n 1, 1) := by decide +kernel
theorem dX2_subtract_26 : decode cX2_subtract 26 = .ok (.aload_n 0, 1) := by decide +kernel
theorem dX2_subtract_27 : decode cX2_subtract 27 = .ok (.getfield 18, 3) := by decide +kernel
theorem dX2_subtract_30 : decode cX2_subtract 30 = .ok (.getfield 87, 3) := by decide +kernel
theorem dX2_subtract_33 : decode cX2_subtract 33 = .ok (.lsub, 1) := by decide +kernel
theorem dX2_subtract_34 : decode cX2_subtract 34 = .ok (.lxor, 1) := by decide +kernel
theorem dX2_subtract_35 : decode cX2_subtract 35 = .ok (.aload_n 0, 1) := by decide +kernel
theorem dX2_subtract_36 : decode cX2_subtract 36 = .ok (.getfield 12, 3) := by decide +kernel
theorem dX2_subtract_39 : decode cX2_subtract 39 = .ok (.getfield 87, 3) := by decide +kernel
theorem dX2_subtract_42 : decode cX2_subtract 42 = .ok (.lor, 1) := by decide +kernel
theorem dX2_subtract_43 : decode cX2_subtract 43 = .ok (.aload_n 0, 1) := by decide +kernel
theorem dX2_subtract_44 : decode cX2_subtract 44 = .ok (.getfield 18, 3) := by decide +kernel
theorem dX2_subtract_47 : decode cX2_subtract 47 = .ok (.getfield 87, 3) := by decide +kernel
theorem dX2_subtract_50 : decode cX2_subtract 50 = .ok (.lor, 1) := by decide +kernel
theorem dX2_subtract_51 : decode cX2_subtract 51 = .ok (.lstore_n 3, 1) := by decide +kernel
theorem dX2_subtract_52 : decode cX2_subtract 52 = .ok (.aload_n 0, 1) := by decide +kernel
theorem dX2_subtract_53 : decode cX2_subtract 53 = .ok (.getfield 21, 3) := by decide +kernel
theorem dX2_subtract_56 : decode cX2_subtract 56 = .ok (.lload_n 1, 1) := by decide +kernel
theorem dX2_subtract_57 : decode cX2_subtract 57 = .ok (.lload_n 3, 1) := by decide +kernel
theorem dX2_subtract_58 : decode cX2_subtract 58 = .ok (.ldc2_w 90, 3) := by decide +kernel
theorem dX2_subtract_61 : decode cX2_subtract 61 = .ok (.lxor, 1) := by decide +kernel
theorem dX2_subtract_62 : decode cX2_subtract 62 = .ok (.land, 1) := by decide +kernel
theorem dX2_subtract_63 : decode cX2_subtract 63 = .ok (.lload_n 3, 1) := by decide +kernel
theorem dX2_subtract_64 : decode cX2_subtract 64 = .ok (.invokevirtual 92, 3) := by decide +kernel
theorem dX2_subtract_67 : decode cX2_subtract 67 = .ok (.aload_n 0, 1) := by decide +kernel
theorem dX2_subtract_68 : decode cX2_subtract 68 = .ok (.getfield 18, 3) := by decide +kernel
theorem dX2_subtract_71 : decode cX2_subtract 71 = .ok (.getfield 96, 3) := by decide +kernel
theorem dX2_subtract_74 : decode cX2_subtract 74 = .ok (.aload_n 0, 1) := by decide +kernel
theorem dX2_subtract_75 : decode cX2_subtract 75 = .ok (.getfield 12, 3) := by decide +kernel
theorem dX2_subtract_78 : decode cX2_subtract 78 = .ok (.getfield 103, 3) := by decide +kernel
theorem dX2_subtract_81 : decode cX2_subtract 81 = .ok (.invokestatic 99, 3) := by decide +kernel
theorem dX2_subtract_84 : decode cX2_subtract 84 = .ok (.ifCond .ne 40, 3) := by decide +kernel
theorem dX2_subtract_87 : decode cX2_subtract 87 = .ok (.aload_n 0, 1) := by decide +kernel
theorem dX2_subtract_88 : decode cX2_subtract 88 = .ok (.getfield 21, 3) := by decide +kernel
theorem dX2_subtract_91 : decode cX2_subtract 91 = .ok (.aload_n 0, 1) := by decide +kernel
theorem dX2_subtract_92 : decode cX2_subtract 92 = .ok (.getfield 12, 3) := by decide +kernel
theorem dX2_subtract_95 : decode cX2_subtract 95 = .ok (.getfield 103, 3) := by decide +kernel
theorem dX2_subtract_98 : decode cX2_subtract 98 = .ok (.aload_n 0, 1) := by decide +kernel
theorem dX2_subtract_99 : decode cX2_subtract 99 = .ok (.getfield 18, 3) := by decide +kernel
theorem dX2_subtract_102 : decode cX2_subtract 102 = .ok (.getfield 96, 3) := by decide +kernel
theorem dX2_subtract_105 : decode cX2_subtract 105 = .ok (.lsub, 1) := by decide +kernel
theorem dX2_subtract_106 : decode cX2_subtract 106 = .ok (.aload_n 0, 1) := by decide +kernel
theorem dX2_subtract_107 : decode cX2_subtract 107 = .ok (.getfield 12, 3) := by decide +kernel
theorem dX2_subtract_110 : decode cX2_subtract 110 = .ok (.getfield 96, 3) := by decide +kernel
theorem dX2_subtract_113 : decode cX2_subtract 113 = .ok (.aload_n 0, 1) := by decide +kernel
theorem dX2_subtract_114 : decode cX2_subtract 114 = .ok (.getfield 18, 3) := by decide +kernel
theorem dX2_subtract_117 : decode cX2_subtract 117 = .ok (.getfield 103, 3) := by decide +kernel
theorem dX2_subtract_120 : decode cX2_subtract 120 = .ok (.lsub, 1) := by decide +kernel
theorem dX2_subtract_121 : decode cX2_subtract 121 = .ok (.invokevirtual 106, 3) := by decide +kernel
theorem dX2_subtract_124 : decode cX2_subtract 124 = .ok (.aload_n 0, 1) := by decide +kernel
theorem dX2_subtract_125 : decode cX2_subtract 125 = .ok (.getfield 12, 3) := by decide +kernel
theorem dX2_subtract_128 : decode cX2_subtract 128 = .ok (.getfield 109, 3) := by decide +kernel
theorem dX2_subtract_131 : decode cX2_subtract 131 = .ok (.aload_n 0, 1) := by decide +kernel
theorem dX2_subtract_132 : decode cX2_subtract 132 = .ok (.getfield 18, 3) := by decide +kernel
theorem dX2_subtract_135 : decode cX2_subtract 135 = .ok (.getfield 115, 3) := by decide +kernel
theorem dX2_subtract_138 : decode cX2_subtract 138 = .ok (.invokestatic 121, 3) := by decide +kernel
theorem dX2_subtract_141 : decode cX2_subtract 141 = .ok (.ifCond .ne 60, 3) := by decide +kernel
theorem dX2_subtract_144 : decode cX2_subtract 144 = .ok (.aload_n 0, 1) := by decide +kernel
theorem dX2_subtract_145 : decode cX2_subtract 145 = .ok (.getfield 12, 3) := by decide +kernel
theorem dX2_subtract_148 : decode cX2_subtract 148 = .ok (.getfield 115, 3) := by decide +kernel
theorem dX2_subtract_151 : decode cX2_subtract 151 = .ok (.aload_n 0, 1) := by decide +kernel
theorem dX2_subtract_152 : decode cX2_subtract 152 = .ok (.getfield 18, 3) := by decide +kernel
theorem dX2_subtract_155 : decode cX2_subtract 155 = .ok (.getfield 109, 3) := by decide +kernel
theorem dX2_subtract_158 : decode cX2_subtract 158 = .ok (.invokestatic 121, 3) := by decide +kernel
theorem dX2_subtract_161 : decode cX2_subtract 161 = .ok (.ifCond .ne 40, 3) := by decide +kernel
theorem dX2_subtract_164 : decode cX2_subtract 164 = .ok (.aload_n 0, 1) := by decide +kernel
theorem dX2_subtract_165 : decode cX2_subtract 165 = .ok (.getfield 21, 3) := by decide +kernel
theorem dX2_subtract_168 : decode cX2_subtract 168 = .ok (.aload_n 0, 1) := by decide +kernel
theorem dX2_subtract_169 : decode cX2_subtract 169 = .ok (.getfield 12, 3) := by decide +kernel
theorem dX2_subtract_172 : decode cX2_subtract 172 = .ok (.getfield 109, 3) := by decide +kernel
theorem dX2_subtract_175 : decode cX2_subtract 175 = .ok (.aload_n 0, 1) := by decide +kernel
theorem dX2_subtract_176 : decode cX2_subtract 176 = .ok (.getfield 18, 3) := by decide +kernel
theorem dX2_subtract_179 : decode cX2_subtract 179 = .ok (.getfield 115, 3) := by decide +kernel
theorem dX2_subtract_182 : decode cX2_subtract 182 = .ok (.lsub, 1) := by decide +kernel
theorem dX2_subtract_183 : decode cX2_subtract 183 = .ok (.aload_n 0, 1) := by decide +kernel
theorem dX2_subtract_184 : decode cX2_subtract 184 = .ok (.getfield 12, 3) := by decide +kernel
theorem dX2_subtract_187 : decode cX2_subtract 187 = .ok (.getfield 115, 3) := by decide +kernel
theorem dX2_subtract_190 : decode cX2_subtract 190 = .ok (.aload_n 0, 1) := by decide +kernel
theorem dX2_subtract_191 : decode cX2_subtract 191 = .ok (.getfield 18, 3) := by decide +kernel
theorem dX2_subtract_194 : decode cX2_subtract 194 = .ok (.getfield 109, 3) := by decide +kernel
theorem dX2_subtract_197 : decode cX2_subtract 197 = .ok (.lsub, 1) := by decide +kernel
theorem dX2_subtract_198 : decode cX2_subtract 198 = .ok (.invokevirtual 118, 3) := by decide +kernel
theorem dX2_subtract_201 : decode cX2_subtract 201 = .ok (.return_, 1) := by decide +kernel
theorem dX2_multiply_0 : decode cX2_multiply 0 = .ok (.aload_n 0, 1) := by decide +kernel
theorem dX2_multiply_1 : decode cX2_multiply 1 = .ok (.getfield 12, 3) := by decide +kernel
theorem dX2_multiply_4 : decode cX2_multiply 4 = .ok (.invokevirtual 124, 3) := by decide +kernel
theorem dX2_multiply_7 : decode cX2_multiply 7 = .ok (.ifCond .eq 36, 3) := by decide +kernel
theorem dX2_multiply_10 : decode cX2_multiply 10 = .ok (.aload_n 0, 1) := by decide +kernel
theorem dX2_multiply_11 : decode cX2_multiply 11 = .ok (.getfield 18, 3) := by decide +kernel
theorem dX2_multiply_14 : decode cX2_multiply 14 = .ok (.invokevirtual 124, 3) := by decide +kernel
theorem dX2_multiply_17 : decode cX2_multiply 17 = .ok (.ifCond .eq 26, 3) := by decide +kernel
theorem dX2_multiply_20 : decode cX2_multiply 20 = .ok (.aload_n 0, 1) := by decide +kernel
theorem dX2_multiply_21 : decode cX2_multiply 21 = .ok (.getfield 21, 3) := by decide +kernel
theorem dX2_multiply_24 : decode cX2_multiply 24 = .ok (.aload_n 0, 1) := by decide +kernel
theorem dX2_multiply_25 : decode cX2_multiply 25 = .ok (.getfield 12, 3) := by decide +kernel
theorem dX2_multiply_28 : decode cX2_multiply 28 = .ok (.getfield 83, 3) := by decide +kernel
theorem dX2_multiply_31 : decode cX2_multiply 31 = .ok (.aload_n 0, 1) := by decide +kernel
theorem dX2_multiply_32 : decode cX2_multiply 32 = .ok (.getfield 18, 3) := by decide +kernel
theorem dX2_multiply_35 : decode cX2_multiply 35 = .ok (.getfield 83, 3) := by decide +kernel
theorem dX2_multiply_38 : decode cX2_multiply 38 = .ok (.lmul, 1) := by decide +kernel
theorem dX2_multiply_39 : decode cX2_multiply 39 = .ok (.invokevirtual 127, 3) := by decide +kernel
theorem dX2_multiply_42 : decode cX2_multiply 42 = .ok (.return_, 1) := by decide +kernel
theorem dX2_multiply_43 : decode cX2_multiply 43 = .ok (.aload_n 0, 1) := by decide +kernel
theorem dX2_multiply_44 : decode cX2_multiply 44 = .ok (.getfield 12, 3) := by decide +kernel
theorem dX2_multiply_47 : decode cX2_multiply 47 = .ok (.invokevirtual 131, 3) := by decide +kernel
theorem dX2_multiply_50 : decode cX2_multiply 50 = .ok (.invokestatic 135, 3) := by decide +kernel
theorem dX2_multiply_53 : decode cX2_multiply 53 = .ok (.aload_n 0, 1) := by decide +kernel
theorem dX2_multiply_54 : decode cX2_multiply 54 = .ok (.getfield 18, 3) := by decide +kernel
theorem dX2_multiply_57 : decode cX2_multiply 57 = .ok (.invokevirtual 131, 3) := by decide +kernel
theorem dX2_multiply_60 : decode cX2_multiply 60 = .ok (.invokestatic 135, 3) := by decide +kernel
theorem dX2_multiply_63 : decode cX2_multiply 63 = .ok (.iadd, 1) := by decide +kernel
theorem dX2_multiply_64 : decode cX2_multiply 64 = .ok (.istore_n 1, 1) := by decide +kernel
theorem dX2_multiply_65 : decode cX2_multiply 65 = .ok (.aload_n 0, 1) := by decide +kernel
theorem dX2_multiply_66 : decode cX2_multiply 66 = .ok (.getfield 21, 3) := by decide +kernel
theorem dX2_multiply_69 : decode cX2_multiply 69 = .ok (.lconst 0, 1) := by decide +kernel
theorem dX2_multiply_70 : decode cX2_multiply 70 = .ok (.iload_n 1, 1) := by decide +kernel
theorem dX2_multiply_71 : decode cX2_multiply 71 = .ok (.bipush 64, 2) := by decide +kernel
theorem dX2_multiply_73 : decode cX2_multiply 73 = .ok (.if_icmp .lt 7, 3) := by decide +kernel
theorem dX2_multiply_76 : decode cX2_multiply 76 = .ok (.lconst 0, 1) := by decide +kernel
theorem dX2_multiply_77 : decode cX2_multiply 77 = .ok (.goto 8, 3) := by decide +kernel
theorem dX2_multiply_80 : decode cX2_multiply 80 = .ok (.ldc2_w 90, 3) := by decide +kernel
theorem dX2_multiply_83 : decode cX2_multiply 83 = .ok (.iload_n 1, 1) := by decide +kernel
theorem dX2_multiply_84 : decode cX2_multiply 84 = .ok (.lshl, 1) := by decide +kernel
theorem dX2_multiply_85 : decode cX2_multiply 85 = .ok (.invokevirtual 92, 3) := by decide +kernel
theorem dX2_multiply_88 : decode cX2_multiply 88 = .ok (.aload_n 0, 1) := by decide +kernel
theorem dX2_multiply_89 : decode cX2_multiply 89 = .ok (.getfield 12, 3) := by decide +kernel
theorem dX2_multiply_92 : decode cX2_multiply 92 = .ok (.getfield 96, 3) := by decide +kernel
theorem dX2_multiply_95 : decode cX2_multiply 95 = .ok (.ldc2_w 141, 3) := by decide +kernel
theorem dX2_multiply_98 : decode cX2_multiply 98 = .ok (.invokestatic 99, 3) := by decide +kernel
theorem dX2_multiply_101 : decode cX2_multiply 101 = .ok (.ifCond .ne 56, 3) := by decide +kernel
theorem dX2_multiply_104 : decode cX2_multiply 104 = .ok (.aload_n 0, 1) := by decide +kernel
theorem dX2_multiply_105 : decode cX2_multiply 105 = .ok (.getfield 18, 3) := by decide +kernel
theorem dX2_multiply_108 : decode cX2_multiply 108 = .ok (.getfield 96, 3) := by decide +kernel
theorem dX2_multiply_111 : decode cX2_multiply 111 = .ok (.ldc2_w 141, 3) := by decide +kernel
theorem dX2_multiply_114 : decode cX2_multiply 114 = .ok (.invokestatic 99, 3) := by decide +kernel
theorem dX2_multiply_117 : decode cX2_multiply 117 = .ok (.ifCond .ne 40, 3) := by decide +kernel
theorem dX2_multiply_120 : decode cX2_multiply 120 = .ok (.aload_n 0, 1) := by decide +kernel
theorem dX2_multiply_121 : decode cX2_multiply 121 = .ok (.getfield 21, 3) := by decide +kernel
theorem dX2_multiply_124 : decode cX2_multiply 124 = .ok (.aload_n 0, 1) := by decide +kernel
theorem dX2_multiply_125 : decode cX2_multiply 125 = .ok (.getfield 12, 3) := by decide +kernel
theorem dX2_multiply_128 : decode cX2_multiply 128 = .ok (.getfield 103, 3) := by decide +kernel
theorem dX2_multiply_131 : decode cX2_multiply 131 = .ok (.aload_n 0, 1) := by decide +kernel
theorem dX2_multiply_132 : decode cX2_multiply 132 = .ok (.getfield 18, 3) := by decide +kernel
theorem dX2_multiply_135 : decode cX2_multiply 135 = .ok (.getfield 103, 3) := by decide +kernel
theorem dX2_multiply_138 : decode cX2_multiply 138 = .ok (.lmul, 1) := by decide +kernel
theorem dX2_multiply_139 : decode cX2_multiply 139 = .ok (.aload_n 0, 1) := by decide +kernel
theorem dX2_multiply_140 : decode cX2_multiply 140 = .ok (.getfield 12, 3) := by decide +kernel
theorem dX2_multiply_143 : decode cX2_multiply 143 = .ok (.getfield 96, 3) := by decide +kernel
theorem dX2_multiply_146 : decode cX2_multiply 146 = .ok (.aload_n 0, 1) := by decide +kernel
theorem dX2_multiply_147 : decode cX2_multiply 147 = .ok (.getfield 18, 3) := by decide +kernel
theorem dX2_multiply_150 : decode cX2_multiply 150 = .ok (.getfield 96, 3) := by decide +kernel
theorem dX2_multiply_153 : decode cX2_multiply 153 = .ok (.lmul, 1) := by decide +kernel
theorem dX2_multiply_154 : decode cX2_multiply 154 = .ok (.invokevirtual 106, 3) := by decide +kernel
theorem dX2_multiply_157 : decode cX2_multiply 157 = .ok (.return_, 1) := by decide +kernel
theorem dX2_divide_0 : decode cX2_divide 0 = .ok (.aload_n 0, 1) := by decide +kernel
theorem dX2_divide_1 : decode cX2_divide 1 = .ok (.getfield 18, 3) := by decide +kernel
theorem dX2_divide_4 : decode cX2_divide 4 = .ok (.invokevirtual 124, 3) := by decide +kernel
theorem dX2_divide_7 : decode cX2_divide 7 = .ok (.ifCond .ne 21, 3) := by decide +kernel
theorem dX2_divide_10 : decode cX2_divide 10 = .ok (.aload_n 0, 1) := by decide +kernel
theorem dX2_divide_11 : decode cX2_divide 11 = .ok (.getfield 21, 3) := by decide +kernel
theorem dX2_divide_14 : decode cX2_divide 14 = .ok (.lconst 0, 1) := by decide +kernel
theorem dX2_divide_15 : decode cX2_divide 15 = .ok (.aload_n 0, 1) := by decide +kernel
theorem dX2_divide_16 : decode cX2_divide 16 = .ok (.getfield 12, 3) := by decide +kernel
theorem dX2_divide_19 : decode cX2_divide 19 = .ok (.getfield 96, 3) := by decide +kernel
theorem dX2_divide_22 : decode cX2_divide 22 = .ok (.invokevirtual 106, 3) := by decide +kernel
theorem dX2_divide_25 : decode cX2_divide 25 = .ok (.goto 44, 3) := by decide +kernel
theorem dX2_divide_28 : decode cX2_divide 28 = .ok (.aload_n 0, 1) := by decide +kernel
theorem dX2_divide_29 : decode cX2_divide 29 = .ok (.getfield 21, 3) := by decide +kernel
theorem dX2_divide_32 : decode cX2_divide 32 = .ok (.aload_n 0, 1) := by decide +kernel
theorem dX2_divide_33 : decode cX2_divide 33 = .ok (.getfield 12, 3) := by decide +kernel
theorem dX2_divide_36 : decode cX2_divide 36 = .ok (.getfield 103, 3) := by decide +kernel
theorem dX2_divide_39 : decode cX2_divide 39 = .ok (.aload_n 0, 1) := by decide +kernel
theorem dX2_divide_40 : decode cX2_divide 40 = .ok (.getfield 18, 3) := by decide +kernel
theorem dX2_divide_43 : decode cX2_divide 43 = .ok (.getfield 83, 3) := by decide +kernel
theorem dX2_divide_46 : decode cX2_divide 46 = .ok (.invokestatic 143, 3) := by decide +kernel
theorem dX2_divide_49 : decode cX2_divide 49 = .ok (.aload_n 0, 1) := by decide +kernel
theorem dX2_divide_50 : decode cX2_divide 50 = .ok (.getfield 12, 3) := by decide +kernel
theorem dX2_divide_53 : decode cX2_divide 53 = .ok (.getfield 96, 3) := by decide +kernel
theorem dX2_divide_56 : decode cX2_divide 56 = .ok (.aload_n 0, 1) := by decide +kernel
theorem dX2_divide_57 : decode cX2_divide 57 = .ok (.getfield 18, 3) := by decide +kernel
theorem dX2_divide_60 : decode cX2_divide 60 = .ok (.getfield 83, 3) := by decide +kernel
theorem dX2_divide_63 : decode cX2_divide 63 = .ok (.invokestatic 143, 3) := by decide +kernel
theorem dX2_divide_66 : decode cX2_divide 66 = .ok (.invokevirtual 106, 3) := by decide +kernel
theorem dX2_divide_69 : decode cX2_divide 69 = .ok (.return_, 1) := by decide +kernel
theorem dX2_rest_0 : decode cX2_rest 0 = .ok (.aload_n 0, 1) := by decide +kernel
theorem dX2_rest_1 : decode cX2_rest 1 = .ok (.getfield 18, 3) := by decide +kernel
theorem dX2_rest_4 : decode cX2_rest 4 = .ok (.invokevirtual 124, 3) := by decide +kernel
theorem dX2_rest_7 : decode cX2_rest 7 = .ok (.ifCond .ne 21, 3) := by decide +kernel
theorem dX2_rest_10 : decode cX2_rest 10 = .ok (.aload_n 0, 1) := by decide +kernel
theorem dX2_rest_11 : decode cX2_rest 11 = .ok (.getfield 21, 3) := by decide +kernel
theorem dX2_rest_14 : decode cX2_rest 14 = .ok (.lconst 0, 1) := by decide +kernel
theorem dX2_rest_15 : decode cX2_rest 15 = .ok (.aload_n 0, 1) := by decide +kernel
theorem dX2_rest_16 : decode cX2_rest 16 = .ok (.getfield 12, 3) := by decide +kernel
theorem dX2_rest_19 : decode cX2_rest 19 = .ok (.getfield 96, 3) := by decide +kernel
theorem dX2_rest_22 : decode cX2_rest 22 = .ok (.invokevirtual 106, 3) := by decide +kernel
theorem dX2_rest_25 : decode cX2_rest 25 = .ok (.goto 66, 3) := by decide +kernel
theorem dX2_rest_28 : decode cX2_rest 28 = .ok (.aload_n 0, 1) := by decide +kernel
theorem dX2_rest_29 : decode cX2_rest 29 = .ok (.getfield 18, 3) := by decide +kernel
theorem dX2_rest_32 : decode cX2_rest 32 = .ok (.getfield 83, 3) := by decide +kernel
theorem dX2_rest_35 : decode cX2_rest 35 = .ok (.lconst 0, 1) := by decide +kernel
theorem dX2_rest_36 : decode cX2_rest 36 = .ok (.lcmp, 1) := by decide +kernel
theorem dX2_rest_37 : decode cX2_rest 37 = .ok (.ifCond .eq 23, 3) := by decide +kernel
theorem dX2_rest_40 : decode cX2_rest 40 = .ok (.aload_n 0, 1) := by decide +kernel
theorem dX2_rest_41 : decode cX2_rest 41 = .ok (.getfield 18, 3) := by decide +kernel
theorem dX2_rest_44 : decode cX2_rest 44 = .ok (.getfield 83, 3) := by decide +kernel
theorem dX2_rest_47 : decode cX2_rest 47 = .ok (.aload_n 0, 1) := by decide +kernel
theorem dX2_rest_48 : decode cX2_rest 48 = .ok (.getfield 12, 3) := by decide +kernel
theorem dX2_rest_51 : decode cX2_rest 51 = .ok (.getfield 96, 3) := by decide +kernel
theorem dX2_rest_54 : decode cX2_rest 54 = .ok (.invokestatic 99, 3) := by decide +kernel
theorem dX2_rest_57 : decode cX2_rest 57 = .ok (.ifCond .eq 17, 3) := by decide +kernel
theorem dX2_rest_60 : decode cX2_rest 60 = .ok (.aload_n 0, 1) := by decide +kernel
theorem dX2_rest_61 : decode cX2_rest 61 = .ok (.getfield 21, 3) := by decide +kernel
theorem dX2_rest_64 : decode cX2_rest 64 = .ok (.aload_n 0, 1) := by decide +kernel
theorem dX2_rest_65 : decode cX2_rest 65 = .ok (.getfield 12, 3) := by decide +kernel
theorem dX2_rest_68 : decode cX2_rest 68 = .ok (.invokevirtual 24, 3) := by decide +kernel
theorem dX2_rest_71 : decode cX2_rest 71 = .ok (.goto 20, 3) := by decide +kernel
theorem dX2_rest_74 : decode cX2_rest 74 = .ok (.aload_n 0, 1) := by decide +kernel
theorem dX2_rest_75 : decode cX2_rest 75 = .ok (.getfield 21, 3) := by decide +kernel
theorem dX2_rest_78 : decode cX2_rest 78 = .ok (.lconst 0, 1) := by decide +kernel
theorem dX2_rest_79 : decode cX2_rest 79 = .ok (.aload_n 0, 1) := by decide +kernel
theorem dX2_rest_80 : decode cX2_rest 80 = .ok (.getfield 18, 3) := by decide +kernel
theorem dX2_rest_83 : decode cX2_rest 83 = .ok (.getfield 83, 3) := by decide +kernel
theorem dX2_rest_86 : decode cX2_rest 86 = .ok (.lconst 1, 1) := by decide +kernel
theorem dX2_rest_87 : decode cX2_rest 87 = .ok (.lsub, 1) := by decide +kernel
theorem dX2_rest_88 : decode cX2_rest 88 = .ok (.invokevirtual 106, 3) := by decide +kernel
theorem dX2_rest_91 : decode cX2_rest 91 = .ok (.return_, 1) := by decide +kernel
theorem dX2_and_0 : decode cX2_and 0 = .ok (.aload_n 0, 1) := by decide +kernel
theorem dX2_and_1 : decode cX2_and 1 = .ok (.getfield 12, 3) := by decide +kernel
theorem dX2_and_4 : decode cX2_and 4 = .ok (.getfield 83, 3) := by decide +kernel
theorem dX2_and_7 : decode cX2_and 7 = .ok (.aload_n 0, 1) := by decide +kernel
theorem dX2_and_8 : decode cX2_and 8 = .ok (.getfield 18, 3) := by decide +kernel
theorem dX2_and_11 : decode cX2_and 11 = .ok (.getfield 83, 3) := by decide +kernel
theorem dX2_and_14 : decode cX2_and 14 = .ok (.land, 1) := by decide +kernel
theorem dX2_and_15 : decode cX2_and 15 = .ok (.lstore_n 1, 1) := by decide +kernel
theorem dX2_and_16 : decode cX2_and 16 = .ok (.aload_n 0, 1) := by decide +kernel
theorem dX2_and_17 : decode cX2_and 17 = .ok (.getfield 21, 3) := by decide +kernel
theorem dX2_and_20 : decode cX2_and 20 = .ok (.lload_n 1, 1) := by decide +kernel
theorem dX2_and_21 : decode cX2_and 21 = .ok (.aload_n 0, 1) := by decide +kernel
theorem dX2_and_22 : decode cX2_and 22 = .ok (.getfield 12, 3) := by decide +kernel
theorem dX2_and_25 : decode cX2_and 25 = .ok (.invokevirtual 131, 3) := by decide +kernel
theorem dX2_and_28 : decode cX2_and 28 = .ok (.aload_n 0, 1) := by decide +kernel
theorem dX2_and_29 : decode cX2_and 29 = .ok (.getfield 18, 3) := by decide +kernel
theorem dX2_and_32 : decode cX2_and 32 = .ok (.invokevirtual 131, 3) := by decide +kernel
theorem dX2_and_35 : decode cX2_and 35 = .ok (.land, 1) := by decide +kernel
theorem dX2_and_36 : decode cX2_and 36 = .ok (.lload_n 1, 1) := by decide +kernel
theorem dX2_and_37 : decode cX2_and 37 = .ok (.ldc2_w 90, 3) := by decide +kernel
theorem dX2_and_40 : decode cX2_and 40 = .ok (.lxor, 1) := by decide +kernel
theorem dX2_and_41 : decode cX2_and 41 = .ok (.land, 1) := by decide +kernel
theorem dX2_and_42 : decode cX2_and 42 = .ok (.invokevirtual 92, 3) := by decide +kernel
theorem dX2_and_45 : decode cX2_and 45 = .ok (.aload_n 0, 1) := by decide +kernel
theorem dX2_and_46 : decode cX2_and 46 = .ok (.getfield 21, 3) := by decide +kernel
theorem dX2_and_49 : decode cX2_and 49 = .ok (.lconst 0, 1) := by decide +kernel
theorem dX2_and_50 : decode cX2_and 50 = .ok (.aload_n 0, 1) := by decide +kernel
theorem dX2_and_51 : decode cX2_and 51 = .ok (.getfield 12, 3) := by decide +kernel
theorem dX2_and_54 : decode cX2_and 54 = .ok (.getfield 96, 3) := by decide +kernel
theorem dX2_and_57 : decode cX2_and 57 = .ok (.aload_n 0, 1) := by decide +kernel
theorem dX2_and_58 : decode cX2_and 58 = .ok (.getfield 18, 3) := by decide +kernel
theorem dX2_and_61 : decode cX2_and 61 = .ok (.getfield 96, 3) := by decide +kernel
theorem dX2_and_64 : decode cX2_and 64 = .ok (.invokestatic 147, 3) := by decide +kernel
theorem dX2_and_67 : decode cX2_and 67 = .ok (.invokevirtual 106, 3) := by decide +kernel
theorem dX2_and_70 : decode cX2_and 70 = .ok (.return_, 1) := by decide +kernel
theorem dX2_or_0 : decode cX2_or 0 = .ok (.aload_n 0, 1) := by decide +kernel
theorem dX2_or_1 : decode cX2_or 1 = .ok (.getfield 12, 3) := by decide +kernel
theorem dX2_or_4 : decode cX2_or 4 = .ok (.getfield 83, 3) := by decide +kernel
theorem dX2_or_7 : decode cX2_or 7 = .ok (.aload_n 0, 1) := by decide +kernel
theorem dX2_or_8 : decode cX2_or 8 = .ok (.getfield 18, 3) := by decide +kernel
theorem dX2_or_11 : decode cX2_or 11 = .ok (.getfield 83, 3) := by decide +kernel
theorem dX2_or_14 : decode cX2_or 14 = .ok (.lor, 1) := by decide +kernel
theorem dX2_or_15 : decode cX2_or 15 = .ok (.lstore_n 1, 1) := by decide +kernel
theorem dX2_or_16 : decode cX2_or 16 = .ok (.aload_n 0, 1) := by decide +kernel
theorem dX2_or_17 : decode cX2_or 17 = .ok (.getfield 21, 3) := by decide +kernel
theorem dX2_or_20 : decode cX2_or 20 = .ok (.lload_n 1, 1) := by decide +kernel
theorem dX2_or_21 : decode cX2_or 21 = .ok (.aload_n 0, 1) := by decide +kernel
theorem dX2_or_22 : decode cX2_or 22 = .ok (.getfield 12, 3) := by decide +kernel
theorem dX2_or_25 : decode cX2_or 25 = .ok (.getfield 87, 3) := by decide +kernel
theorem dX2_or_28 : decode cX2_or 28 = .ok (.aload_n 0, 1) := by decide +kernel
theorem dX2_or_29 : decode cX2_or 29 = .ok (.getfield 18, 3) := by decide +kernel
theorem dX2_or_32 : decode cX2_or 32 = .ok (.getfield 87, 3) := by decide +kernel
theorem dX2_or_35 : decode cX2_or 35 = .ok (.lor, 1) := by decide +kernel
theorem dX2_or_36 : decode cX2_or 36 = .ok (.lload_n 1, 1) := by decide +kernel
theorem dX2_or_37 : decode cX2_or 37 = .ok (.ldc2_w 90, 3) := by decide +kernel
theorem dX2_or_40 : decode cX2_or 40 = .ok (.lxor, 1) := by decide +kernel
theorem dX2_or_41 : decode cX2_or 41 = .ok (.land, 1) := by decide +kernel
theorem dX2_or_42 : decode cX2_or 42 = .ok (.invokevirtual 92, 3) := by decide +kernel
theorem dX2_or_45 : decode cX2_or 45 = .ok (.aload_n 0, 1) := by decide +kernel
theorem dX2_or_46 : decode cX2_or 46 = .ok (.getfield 21, 3) := by decide +kernel
theorem dX2_or_49 : decode cX2_or 49 = .ok (.aload_n 0, 1) := by decide +kernel
theorem dX2_or_50 : decode cX2_or 50 = .ok (.getfield 12, 3) := by decide +kernel
theorem dX2_or_53 : decode cX2_or 53 = .ok (.getfield 103, 3) := by decide +kernel
theorem dX2_or_56 : decode cX2_or 56 = .ok (.aload_n 0, 1) := by decide +kernel
theorem dX2_or_57 : decode cX2_or 57 = .ok (.getfield 18, 3) := by decide +kernel
theorem dX2_or_60 : decode cX2_or 60 = .ok (.getfield 103, 3) := by decide +kernel
theorem dX2_or_63 : decode cX2_or 63 = .ok (.invokestatic 150, 3) := by decide +kernel
theorem dX2_or_66 : decode cX2_or 66 = .ok (.ldc2_w 90, 3) := by decide +kernel
theorem dX2_or_69 : decode cX2_or 69 = .ok (.invokevirtual 106, 3) := by decide +kernel
theorem dX2_or_72 : decode cX2_or 72 = .ok (.return_, 1) := by decide +kernel
theorem dX2_xor_0 : decode cX2_xor 0 = .ok (.aload_n 0, 1) := by decide +kernel
theorem dX2_xor_1 : decode cX2_xor 1 = .ok (.getfield 12, 3) := by decide +kernel
theorem dX2_xor_4 : decode cX2_xor 4 = .ok (.getfield 87, 3) := by decide +kernel
theorem dX2_xor_7 : decode cX2_xor 7 = .ok (.aload_n 0, 1) := by decide +kernel
theorem dX2_xor_8 : decode cX2_xor 8 = .ok (.getfield 18, 3) := by decide +kernel
theorem dX2_xor_11 : decode cX2_xor 11 = .ok (.getfield 87, 3) := by decide +kernel
theorem dX2_xor_14 : decode cX2_xor 14 = .ok (.lor, 1) := by decide +kernel
theorem dX2_xor_15 : decode cX2_xor 15 = .ok (.lstore_n 1, 1) := by decide +kernel
theorem dX2_xor_16 : decode cX2_xor 16 = .ok (.aload_n 0, 1) := by decide +kernel
theorem dX2_xor_17 : decode cX2_xor 17 = .ok (.getfield 21, 3) := by decide +kernel
theorem dX2_xor_20 : decode cX2_xor 20 = .ok (.aload_n 0, 1) := by decide +kernel
theorem dX2_xor_21 : decode cX2_xor 21 = .ok (.getfield 12, 3) := by decide +kernel
theorem dX2_xor_24 : decode cX2_xor 24 = .ok (.getfield 83, 3) := by decide +kernel
theorem dX2_xor_27 : decode cX2_xor 27 = .ok (.aload_n 0, 1) := by decide +kernel
theorem dX2_xor_28 : decode cX2_xor 28 = .ok (.getfield 18, 3) := by decide +kernel
theorem dX2_xor_31 : decode cX2_xor 31 = .ok (.getfield 83, 3) := by decide +kernel
theorem dX2_xor_34 : decode cX2_xor 34 = .ok (.lxor, 1) := by decide +kernel
theorem dX2_xor_35 : decode cX2_xor 35 = .ok (.lload_n 1, 1) := by decide +kernel
theorem dX2_xor_36 : decode cX2_xor 36 = .ok (.ldc2_w 90, 3) := by decide +kernel
theorem dX2_xor_39 : decode cX2_xor 39 = .ok (.lxor, 1) := by decide +kernel
theorem dX2_xor_40 : decode cX2_xor 40 = .ok (.land, 1) := by decide +kernel
theorem dX2_xor_41 : decode cX2_xor 41 = .ok (.lload_n 1, 1) := by decide +kernel
theorem dX2_xor_42 : decode cX2_xor 42 = .ok (.invokevirtual 92, 3) := by decide +kernel
theorem dX2_xor_45 : decode cX2_xor 45 = .ok (.return_, 1) := by decide +kernel
theorem dX2_shiftLeft_0 : decode cX2_shiftLeft 0 = .ok (.aload_n 0, 1) := by decide +kernel
theorem dX2_shiftLeft_1 : decode cX2_shiftLeft 1 = .ok (.getfield 21, 3) := by decide +kernel
theorem dX2_shiftLeft_4 : decode cX2_shiftLeft 4 = .ok (.aload_n 0, 1) := by decide +kernel
theorem dX2_shiftLeft_5 : decode cX2_shiftLeft 5 = .ok (.getfield 12, 3) := by decide +kernel
theorem dX2_shiftLeft_8 : decode cX2_shiftLeft 8 = .ok (.getfield 83, 3) := by decide +kernel
theorem dX2_shiftLeft_11 : decode cX2_shiftLeft 11 = .ok (.iload_n 1, 1) := by decide +kernel
theorem dX2_shiftLeft_12 : decode cX2_shiftLeft 12 = .ok (.lshl, 1) := by decide +kernel
theorem dX2_shiftLeft_13 : decode cX2_shiftLeft 13 = .ok (.aload_n 0, 1) := by decide +kernel
theorem dX2_shiftLeft_14 : decode cX2_shiftLeft 14 = .ok (.getfield 12, 3) := by decide +kernel
theorem dX2_shiftLeft_17 : decode cX2_shiftLeft 17 = .ok (.getfield 87, 3) := by decide +kernel
theorem dX2_shiftLeft_20 : decode cX2_shiftLeft 20 = .ok (.iload_n 1, 1) := by decide +kernel
theorem dX2_shiftLeft_21 : decode cX2_shiftLeft 21 = .ok (.lshl, 1) := by decide +kernel
theorem dX2_shiftLeft_22 : decode cX2_shiftLeft 22 = .ok (.invokevirtual 92, 3) := by decide +kernel
theorem dX2_shiftLeft_25 : decode cX2_shiftLeft 25 = .ok (.aload_n 0, 1) := by decide +kernel
theorem dX2_shiftLeft_26 : decode cX2_shiftLeft 26 = .ok (.getfield 12, 3) := by decide +kernel
theorem dX2_shiftLeft_29 : decode cX2_shiftLeft 29 = .ok (.getfield 96, 3) := by decide +kernel
theorem dX2_shiftLeft_32 : decode cX2_shiftLeft 32 = .ok (.iload_n 1, 1) := by decide +kernel
theorem dX2_shiftLeft_33 : decode cX2_shiftLeft 33 = .ok (.lshl, 1) := by decide +kernel
theorem dX2_shiftLeft_34 : decode cX2_shiftLeft 34 = .ok (.iload_n 1, 1) := by decide +kernel
theorem dX2_shiftLeft_35 : decode cX2_shiftLeft 35 = .ok (.lushr, 1) := by decide +kernel
theorem dX2_shiftLeft_36 : decode cX2_shiftLeft 36 = .ok (.aload_n 0, 1) := by decide +kernel
theorem dX2_shiftLeft_37 : decode cX2_shiftLeft 37 = .ok (.getfield 12, 3) := by decide +kernel
theorem dX2_shiftLeft_40 : decode cX2_shiftLeft 40 = .ok (.getfield 96, 3) := by decide +kernel
theorem dX2_shiftLeft_43 : decode cX2_shiftLeft 43 = .ok (.lcmp, 1) := by decide +kernel
theorem dX2_shiftLeft_44 : decode cX2_shiftLeft 44 = .ok (.ifCond .ne 28, 3) := by decide +kernel
theorem dX2_shiftLeft_47 : decode cX2_shiftLeft 47 = .ok (.aload_n 0, 1) := by decide +kernel
theorem dX2_shiftLeft_48 : decode cX2_shiftLeft 48 = .ok (.getfield 21, 3) := by decide +kernel
theorem dX2_shiftLeft_51 : decode cX2_shiftLeft 51 = .ok (.aload_n 0, 1) := by decide +kernel
theorem dX2_shiftLeft_52 : decode cX2_shiftLeft 52 = .ok (.getfield 12, 3) := by decide +kernel
theorem dX2_shiftLeft_55 : decode cX2_shiftLeft 55 = .ok (.getfield 103, 3) := by decide +kernel
theorem dX2_shiftLeft_58 : decode cX2_shiftLeft 58 = .ok (.iload_n 1, 1) := by decide +kernel
theorem dX2_shiftLeft_59 : decode cX2_shiftLeft 59 = .ok (.lshl, 1) := by decide +kernel
theorem dX2_shiftLeft_60 : decode cX2_shiftLeft 60 = .ok (.aload_n 0, 1) := by decide +kernel
theorem dX2_shiftLeft_61 : decode cX2_shiftLeft 61 = .ok (.getfield 12, 3) := by decide +kernel
theorem dX2_shiftLeft_64 : decode cX2_shiftLeft 64 = .ok (.getfield 96, 3) := by decide +kernel
theorem dX2_shiftLeft_67 : decode cX2_shiftLeft 67 = .ok (.iload_n 1, 1) := by decide +kernel
theorem dX2_shiftLeft_68 : decode cX2_shiftLeft 68 = .ok (.lshl, 1) := by decide +kernel
theorem dX2_shiftLeft_69 : decode cX2_shiftLeft 69 = .ok (.invokevirtual 106, 3) := by decide +kernel
theorem dX2_shiftLeft_72 : decode cX2_shiftLeft 72 = .ok (.return_, 1) := by decide +kernel
theorem dX2_shiftRight_0 : decode cX2_shiftRight 0 = .ok (.aload_n 0, 1) := by decide +kernel
theorem dX2_shiftRight_1 : decode cX2_shiftRight 1 = .ok (.getfield 21, 3) := by decide +kernel
theorem dX2_shiftRight_4 : decode cX2_shiftRight 4 = .ok (.aload_n 0, 1) := by decide +kernel
theorem dX2_shiftRight_5 : decode cX2_shiftRight 5 = .ok (.getfield 12, 3) := by decide +kernel
theorem dX2_shiftRight_8 : decode cX2_shiftRight 8 = .ok (.getfield 83, 3) := by decide +kernel
theorem dX2_shiftRight_11 : decode cX2_shiftRight 11 = .ok (.iload_n 1, 1) := by decide +kernel
theorem dX2_shiftRight_12 : decode cX2_shiftRight 12 = .ok (.lushr, 1) := by decide +kernel
theorem dX2_shiftRight_13 : decode cX2_shiftRight 13 = .ok (.aload_n 0, 1) := by decide +kernel
theorem dX2_shiftRight_14 : decode cX2_shiftRight 14 = .ok (.getfield 12, 3) := by decide +kernel
theorem dX2_shiftRight_17 : decode cX2_shiftRight 17 = .ok (.getfield 87, 3) := by decide +kernel
theorem dX2_shiftRight_20 : decode cX2_shiftRight 20 = .ok (.iload_n 1, 1) := by decide +kernel
theorem dX2_shiftRight_21 : decode cX2_shiftRight 21 = .ok (.lushr, 1) := by decide +kernel
theorem dX2_shiftRight_22 : decode cX2_shiftRight 22 = .ok (.invokevirtual 92, 3) := by decide +kernel
theorem dX2_shiftRight_25 : decode cX2_shiftRight 25 = .ok (.aload_n 0, 1) := by decide +kernel
theorem dX2_shiftRight_26 : decode cX2_shiftRight 26 = .ok (.getfield 21, 3) := by decide +kernel
theorem dX2_shiftRight_29 : decode cX2_shiftRight 29 = .ok (.aload_n 0, 1) := by decide +kernel
theorem dX2_shiftRight_30 : decode cX2_shiftRight 30 = .ok (.getfield 12, 3) := by decide +kernel
theorem dX2_shiftRight_33 : decode cX2_shiftRight 33 = .ok (.getfield 103, 3) := by decide +kernel
theorem dX2_shiftRight_36 : decode cX2_shiftRight 36 = .ok (.iload_n 1, 1) := by decide +kernel
theorem dX2_shiftRight_37 : decode cX2_shiftRight 37 = .ok (.lushr, 1) := by decide +kernel
theorem dX2_shiftRight_38 : decode cX2_shiftRight 38 = .ok (.aload_n 0, 1) := by decide +kernel
theorem dX2_shiftRight_39 : decode cX2_shiftRight 39 = .ok (.getfield 12, 3) := by decide +kernel
theorem dX2_shiftRight_42 : decode cX2_shiftRight 42 = .ok (.getfield 96, 3) := by decide +kernel
theorem dX2_shiftRight_45 : decode cX2_shiftRight 45 = .ok (.iload_n 1, 1) := by decide +kernel
theorem dX2_shiftRight_46 : decode cX2_shiftRight 46 = .ok (.lushr, 1) := by decide +kernel
theorem dX2_shiftRight_47 : decode cX2_shiftRight 47 = .ok (.invokevirtual 106, 3) := by decide +kernel
theorem dX2_shiftRight_50 : decode cX2_shiftRight 50 = .ok (.return_, 1) := by decide +kernel
theorem dX2_shiftRightSigned_0 : decode cX2_shiftRightSigned 0 = .ok (.aload_n 0, 1) := by decide +kernel
theorem dX2_shiftRightSigned_1 : decode cX2_shiftRightSigned 1 = .ok (.getfield 21, 3) := by decide +kernel
theorem dX2_shiftRightSigned_4 : decode cX2_shiftRightSigned 4 = .ok (.aload_n 0, 1) := by decide +kernel
theorem dX2_shiftRightSigned_5 : decode cX2_shiftRightSigned 5 = .ok (.getfield 12, 3) := by decide +kernel
theorem dX2_shiftRightSigned_8 : decode cX2_shiftRightSigned 8 = .ok (.getfield 83, 3) := by decide +kernel
theorem dX2_shiftRightSigned_11 : decode cX2_shiftRightSigned 11 = .ok (.iload_n 1, 1) := by decide +kernel
theorem dX2_shiftRightSigned_12 : decode cX2_shiftRightSigned 12 = .ok (.lshr, 1) := by decide +kernel
theorem dX2_shiftRightSigned_13 : decode cX2_shiftRightSigned 13 = .ok (.aload_n 0, 1) := by decide +kernel
theorem dX2_shiftRightSigned_14 : decode cX2_shiftRightSigned 14 = .ok (.getfield 12, 3) := by decide +kernel
theorem dX2_shiftRightSigned_17 : decode cX2_shiftRightSigned 17 = .ok (.getfield 87, 3) := by decide +kernel
theorem dX2_shiftRightSigned_20 : decode cX2_shiftRightSigned 20 = .ok (.iload_n 1, 1) := by decide +kernel
theorem dX2_shiftRightSigned_21 : decode cX2_shiftRightSigned 21 = .ok (.lshr, 1) := by decide +kernel
theorem dX2_shiftRightSigned_22 : decode cX2_shiftRightSigned 22 = .ok (.invokevirtual 92, 3) := by decide +kernel
theorem dX2_shiftRightSigned_25 : decode cX2_shiftRightSigned 25 = .ok (.aload_n 0, 1) := by decide +kernel
theorem dX2_shiftRightSigned_26 : decode cX2_shiftRightSigned 26 = .ok (.getfield 21, 3) := by decide +kernel
theorem dX2_shiftRightSigned_29 : decode cX2_shiftRightSigned 29 = .ok (.aload_n 0, 1) := by decide +kernel
theorem dX2_shiftRightSigned_30 : decode cX2_shiftRightSigned 30 = .ok (.getfield 12, 3) := by decide +kernel
theorem dX2_shiftRightSigned_33 : decode cX2_shiftRightSigned 33 = .ok (.getfield 109, 3) := by decide +kernel
theorem dX2_shiftRightSigned_36 : decode cX2_shiftRightSigned 36 = .ok (.iload_n 1, 1) := by decide +kernel
theorem dX2_shiftRightSigned_37 : decode cX2_shiftRightSigned 37 = .ok (.lshr, 1) := by decide +kernel
theorem dX2_shiftRightSigned_38 : decode cX2_shiftRightSigned 38 = .ok (.aload_n 0, 1) := by decide +kernel
theorem dX2_shiftRightSigned_39 : decode cX2_shiftRightSigned 39 = .ok (.getfield 12, 3) := by decide +kernel
theorem dX2_shiftRightSigned_42 : decode cX2_shiftRightSigned 42 = .ok (.getfield 115, 3) := by decide +kernel
theorem dX2_shiftRightSigned_45 : decode cX2_shiftRightSigned 45 = .ok (.iload_n 1, 1) := by decide +kernel
theorem dX2_shiftRightSigned_46 : decode cX2_shiftRightSigned 46 = .ok (.lshr, 1) := by decide +kernel
theorem dX2_shiftRightSigned_47 : decode cX2_shiftRightSigned 47 = .ok (.invokevirtual 118, 3) := by decide +kernel
theorem dX2_shiftRightSigned_50 : decode cX2_shiftRightSigned 50 = .ok (.return_, 1) := by decide +kernel
theorem dX2_shift_0 : decode cX2_shift 0 = .ok (.aload_n 0, 1) := by decide +kernel
theorem dX2_shift_1 : decode cX2_shift 1 = .ok (.getfield 18, 3) := by decide +kernel
theorem dX2_shift_4 : decode cX2_shift 4 = .ok (.invokevirtual 124, 3) := by decide +kernel
theorem dX2_shift_7 : decode cX2_shift 7 = .ok (.ifCond .ne 4, 3) := by decide +kernel
theorem dX2_shift_10 : decode cX2_shift 10 = .ok (.return_, 1) := by decide +kernel
theorem dX2_shift_11 : decode cX2_shift 11 = .ok (.aload_n 0, 1) := by decide +kernel
theorem dX2_shift_12 : decode cX2_shift 12 = .ok (.getfield 18, 3) := by decide +kernel
theorem dX2_shift_15 : decode cX2_shift 15 = .ok (.getfield 83, 3) := by decide +kernel
theorem dX2_shift_18 : decode cX2_shift 18 = .ok (.iload_n 2, 1) := by decide +kernel
theorem dX2_shift_19 : decode cX2_shift 19 = .ok (.ifCond .eq 9, 3) := by decide +kernel
theorem dX2_shift_22 : decode cX2_shift 22 = .ok (.ldc2_w 153, 3) := by decide +kernel
theorem dX2_shift_25 : decode cX2_shift 25 = .ok (.goto 6, 3) := by decide +kernel
theorem dX2_shift_28 : decode cX2_shift 28 = .ok (.ldc2_w 155, 3) := by decide +kernel
theorem dX2_shift_31 : decode cX2_shift 31 = .ok (.land, 1) := by decide +kernel
theorem dX2_shift_32 : decode cX2_shift 32 = .ok (.l2i, 1) := by decide +kernel
theorem dX2_shift_33 : decode cX2_shift 33 = .ok (.istore_n 3, 1) := by decide +kernel
theorem dX2_shift_34 : decode cX2_shift 34 = .ok (.iload_n 1, 1) := by decide +kernel
theorem dX2_shift_35 : decode cX2_shift 35 = .ok (.bipush 8, 2) := by decide +kernel
theorem dX2_shift_37 : decode cX2_shift 37 = .ok (.if_icmp .ne 11, 3) := by decide +kernel
theorem dX2_shift_40 : decode cX2_shift 40 = .ok (.aload_n 0, 1) := by decide +kernel
theorem dX2_shift_41 : decode cX2_shift 41 = .ok (.iload_n 3, 1) := by decide +kernel
theorem dX2_shift_42 : decode cX2_shift 42 = .ok (.invokevirtual 157, 3) := by decide +kernel
theorem dX2_shift_45 : decode cX2_shift 45 = .ok (.goto 50, 3) := by decide +kernel
theorem dX2_shift_48 : decode cX2_shift 48 = .ok (.iload_n 1, 1) := by decide +kernel
theorem dX2_shift_49 : decode cX2_shift 49 = .ok (.bipush 9, 2) := by decide +kernel
theorem dX2_shift_51 : decode cX2_shift 51 = .ok (.if_icmp .ne 11, 3) := by decide +kernel
theorem dX2_shift_54 : decode cX2_shift 54 = .ok (.aload_n 0, 1) := by decide +kernel
theorem dX2_shift_55 : decode cX2_shift 55 = .ok (.iload_n 3, 1) := by decide +kernel
theorem dX2_shift_56 : decode cX2_shift 56 = .ok (.invokevirtual 160, 3) := by decide +kernel
theorem dX2_shift_59 : decode cX2_shift 59 = .ok (.goto 36, 3) := by decide +kernel
theorem dX2_shift_62 : decode cX2_shift 62 = .ok (.iload_n 2, 1) := by decide +kernel
theorem dX2_shift_63 : decode cX2_shift 63 = .ok (.ifCond .ne 11, 3) := by decide +kernel
theorem dX2_shift_66 : decode cX2_shift 66 = .ok (.aload_n 0, 1) := by decide +kernel
theorem dX2_shift_67 : decode cX2_shift 67 = .ok (.iload_n 3, 1) := by decide +kernel
theorem dX2_shift_68 : decode cX2_shift 68 = .ok (.invokevirtual 163, 3) := by decide +kernel
theorem dX2_shift_71 : decode cX2_shift 71 = .ok (.goto 24, 3) := by decide +kernel
theorem dX2_shift_74 : decode cX2_shift 74 = .ok (.ldc2_w 166, 3) := by decide +kernel
theorem dX2_shift_77 : decode cX2_shift 77 = .ok (.aload_n 0, 1) := by decide +kernel
theorem dX2_shift_78 : decode cX2_shift 78 = .ok (.getfield 12, 3) := by decide +kernel
theorem dX2_shift_81 : decode cX2_shift 81 = .ok (.getfield 96, 3) := by decide +kernel
theorem dX2_shift_84 : decode cX2_shift 84 = .ok (.invokestatic 99, 3) := by decide +kernel
theorem dX2_shift_87 : decode cX2_shift 87 = .ok (.ifCond .eq 8, 3) := by decide +kernel
theorem dX2_shift_90 : decode cX2_shift 90 = .ok (.aload_n 0, 1) := by decide +kernel
theorem dX2_shift_91 : decode cX2_shift 91 = .ok (.iload_n 3, 1) := by decide +kernel
theorem dX2_shift_92 : decode cX2_shift 92 = .ok (.invokevirtual 160, 3) := by decide +kernel
theorem dX2_shift_95 : decode cX2_shift 95 = .ok (.return_, 1) := by decide +kernel
theorem dX2_negate_0 : decode cX2_negate 0 = .ok (.aload_n 0, 1) := by decide +kernel
theorem dX2_negate_1 : decode cX2_negate 1 = .ok (.getfield 18, 3) := by decide +kernel
theorem dX2_negate_4 : decode cX2_negate 4 = .ok (.aload_n 0, 1) := by decide +kernel
theorem dX2_negate_5 : decode cX2_negate 5 = .ok (.getfield 12, 3) := by decide +kernel
theorem dX2_negate_8 : decode cX2_negate 8 = .ok (.invokevirtual 24, 3) := by decide +kernel
theorem dX2_negate_11 : decode cX2_negate 11 = .ok (.aload_n 0, 1) := by decide +kernel
theorem dX2_negate_12 : decode cX2_negate 12 = .ok (.getfield 12, 3) := by decide +kernel
theorem dX2_negate_15 : decode cX2_negate 15 = .ok (.lconst 0, 1) := by decide +kernel
theorem dX2_negate_16 : decode cX2_negate 16 = .ok (.invokevirtual 127, 3) := by decide +kernel
theorem dX2_negate_19 : decode cX2_negate 19 = .ok (.aload_n 0, 1) := by decide +kernel
theorem dX2_negate_20 : decode cX2_negate 20 = .ok (.invokevirtual 49, 3) := by decide +kernel
theorem dX2_negate_23 : decode cX2_negate 23 = .ok (.return_, 1) := by decide +kernel
theorem dX2_swap_0 : decode cX2_swap 0 = .ok (.aload_n 0, 1) := by decide +kernel
theorem dX2_swap_1 : decode cX2_swap 1 = .ok (.getfield 12, 3) := by decide +kernel
theorem dX2_swap_4 : decode cX2_swap 4 = .ok (.invokevirtual 124, 3) := by decide +kernel
theorem dX2_swap_7 : decode cX2_swap 7 = .ok (.ifCond .eq 31, 3) := by decide +kernel
theorem dX2_swap_10 : decode cX2_swap 10 = .ok (.aload_n 0, 1) := by decide +kernel
theorem dX2_swap_11 : decode cX2_swap 11 = .ok (.getfield 21, 3) := by decide +kernel
theorem dX2_swap_14 : decode cX2_swap 14 = .ok (.aload_n 0, 1) := by decide +kernel
theorem dX2_swap_15 : decode cX2_swap 15 = .ok (.getfield 12, 3) := by decide +kernel
theorem dX2_swap_18 : decode cX2_swap 18 = .ok (.getfield 83, 3) := by decide +kernel
theorem dX2_swap_21 : decode cX2_swap 21 = .ok (.invokestatic 168, 3) := by decide +kernel
theorem dX2_swap_24 : decode cX2_swap 24 = .ok (.bipush 64, 2) := by decide +kernel
theorem dX2_swap_26 : decode cX2_swap 26 = .ok (.bipush 8, 2) := by decide +kernel
theorem dX2_swap_28 : decode cX2_swap 28 = .ok (.iload_n 1, 1) := by decide +kernel
theorem dX2_swap_29 : decode cX2_swap 29 = .ok (.imul, 1) := by decide +kernel
theorem dX2_swap_30 : decode cX2_swap 30 = .ok (.isub, 1) := by decide +kernel
theorem dX2_swap_31 : decode cX2_swap 31 = .ok (.lushr, 1) := by decide +kernel
theorem dX2_swap_32 : decode cX2_swap 32 = .ok (.invokevirtual 127, 3) := by decide +kernel
theorem dX2_swap_35 : decode cX2_swap 35 = .ok (.goto 15, 3) := by decide +kernel
theorem dX2_swap_38 : decode cX2_swap 38 = .ok (.aload_n 0, 1) := by decide +kernel
theorem dX2_swap_39 : decode cX2_swap 39 = .ok (.getfield 21, 3) := by decide +kernel
theorem dX2_swap_42 : decode cX2_swap 42 = .ok (.lconst 0, 1) := by decide +kernel
theorem dX2_swap_43 : decode cX2_swap 43 = .ok (.iload_n 1, 1) := by decide +kernel
theorem dX2_swap_44 : decode cX2_swap 44 = .ok (.invokestatic 172, 3) := by decide +kernel
theorem dX2_swap_47 : decode cX2_swap 47 = .ok (.invokevirtual 106, 3) := by decide +kernel
theorem dX2_swap_50 : decode cX2_swap 50 = .ok (.return_, 1) := by decide +kernel
theorem dX2_cut_0 : decode cX2_cut 0 = .ok (.aload_n 0, 1) := by decide +kernel
theorem dX2_cut_1 : decode cX2_cut 1 = .ok (.getfield 12, 3) := by decide +kernel
theorem dX2_cut_4 : decode cX2_cut 4 = .ok (.getfield 96, 3) := by decide +kernel
theorem dX2_cut_7 : decode cX2_cut 7 = .ok (.iload_n 1, 1) := by decide +kernel
theorem dX2_cut_8 : decode cX2_cut 8 = .ok (.invokestatic 172, 3) := by decide +kernel
theorem dX2_cut_11 : decode cX2_cut 11 = .ok (.invokestatic 99, 3) := by decide +kernel
theorem dX2_cut_14 : decode cX2_cut 14 = .ok (.ifCond .ne 17, 3) := by decide +kernel
theorem dX2_cut_17 : decode cX2_cut 17 = .ok (.aload_n 0, 1) := by decide +kernel
theorem dX2_cut_18 : decode cX2_cut 18 = .ok (.getfield 21, 3) := by decide +kernel
theorem dX2_cut_21 : decode cX2_cut 21 = .ok (.aload_n 0, 1) := by decide +kernel
theorem dX2_cut_22 : decode cX2_cut 22 = .ok (.getfield 12, 3) := by decide +kernel
theorem dX2_cut_25 : decode cX2_cut 25 = .ok (.invokevirtual 24, 3) := by decide +kernel
theorem dX2_cut_28 : decode cX2_cut 28 = .ok (.goto 18, 3) := by decide +kernel
theorem dX2_cut_31 : decode cX2_cut 31 = .ok (.aload_n 0, 1) := by decide +kernel
theorem dX2_cut_32 : decode cX2_cut 32 = .ok (.getfield 18, 3) := by decide +kernel
theorem dX2_cut_35 : decode cX2_cut 35 = .ok (.iload_n 1, 1) := by decide +kernel
theorem dX2_cut_36 : decode cX2_cut 36 = .ok (.invokestatic 172, 3) := by decide +kernel
theorem dX2_cut_39 : decode cX2_cut 39 = .ok (.invokevirtual 127, 3) := by decide +kernel
theorem dX2_cut_42 : decode cX2_cut 42 = .ok (.aload_n 0, 1) := by decide +kernel
theorem dX2_cut_43 : decode cX2_cut 43 = .ok (.invokevirtual 61, 3) := by decide +kernel
theorem dX2_cut_46 : decode cX2_cut 46 = .ok (.return_, 1) := by decide +kernel
def f_X2_greatestOf (p1 : Int32) : Int64 :=
  (((-1) : Int64).toUInt64 >>> ((64 - (8 * p1)).toInt64.toUInt64 &&& Int64.toUInt64 63)).toInt64
set_option maxHeartbeats 4000000 in
set_option maxRecDepth 100000 in
theorem c_X2_greatestOf (l : Launch) (D : va_G) (p1 : Int32) : sp_M l yX2_greatestOf wsX2_greatestOf ({ frames := 0, cells := 0, slots := 0, locals := 0 }) D [.int p1] ([]) [] (sp_Ql D ([]) ([]) [] (f_X2_greatestOf p1)) := by
  refine sp_ofW (cc := cX2_greatestOf) (nL := 1) (ret := (some .long)) (own := RX2) (by decide) rfl rfl (Nat.le_of_ble_eq_true rfl) ?_
  intro p e s m below meth c A ls hAe hnm C hA hP hK hD hS hl
  have hx := C.1
  have hb := C.2.1
  have hown := C.2.2.2.2.1
  have hts := C.2.2.2.2.2.1
  have hl : lv_has ls 1 [(0, .int p1)] := hl
  have hk0 := hts _ (List.mem_cons_of_mem _ wm_130)
  refine lv_ldc2 (v := (-1)) hx hb hown hk0 dX2_greatestOf_0 ?_
  refine lv_bipush (v := 64) hx hb dX2_greatestOf_3 (by decide) ?_
  refine lv_bipush (v := 8) hx hb dX2_greatestOf_5 (by decide) ?_
  refine lv_iload_n hx hb dX2_greatestOf_7 rfl (lv_at hl 0 rfl) ?_
  refine lv_imul hx hb dX2_greatestOf_8 ?_
  refine lv_isub hx hb dX2_greatestOf_9 ?_
  refine lv_lushr (v := (((-1) : Int64).toUInt64 >>> ((64 - (8 * p1)).toInt64.toUInt64 &&& Int64.toUInt64 63)).toInt64) hx hb dX2_greatestOf_10 rfl ?_
  have e9 : f_X2_greatestOf p1 = (((-1) : Int64).toUInt64 >>> ((64 - (8 * p1)).toInt64.toUInt64 &&& Int64.toUInt64 63)).toInt64 := rfl
  rw [e9]
  exact sp_lret C hAe hP hK hD hS dX2_greatestOf_11
def f_X2_quotient (p1 : Int64) (p2 : Int64) : Int64 :=
  if (lg_cmp p2 0) = 0 then 0
  else if 0 ≤ (lg_cmp p2 0) then (let v3 : Int64 := (((p1.toUInt64 >>> ((1 : Int32).toInt64.toUInt64 &&& Int64.toUInt64 63)).toInt64) / p2) <<< ((1 : Int32).toInt64 &&& 63)
    if (f_X0_isAbove p2 (p1 - (v3 * p2))) = 0 then v3 + 1
    else v3)
  else if (f_X0_isAbove p2 p1) = 0 then 1
  else 0
set_option maxHeartbeats 4000000 in
set_option maxRecDepth 100000 in
theorem c_X2_quotient (l : Launch) (D : va_G) (p1 : Int64) (p2 : Int64) : sp_M l yX2_quotient wsX2_quotient ({ frames := 1, cells := 0, slots := 0, locals := 23 }) D [.long p1, .long p2] ([]) [] (sp_Ql D ([]) ([]) [] (f_X2_quotient p1 p2)) := by
  refine sp_ofW (cc := cX2_quotient) (nL := 6) (ret := (some .long)) (own := RX2) (by decide) rfl rfl (Nat.le_of_ble_eq_true rfl) ?_
  intro p e s m below meth c A ls hAe hnm C hA hP hK hD hS hl
  have hx := C.1
  have hb := C.2.1
  have hown := C.2.2.2.2.1
  have hts := C.2.2.2.2.2.1
  have hl : lv_has ls 6 [(0, .long p1), (2, .long p2)] := hl
  have hk0 := hts _ (List.mem_cons_of_mem _ wm_4)
  have hk1 := hts _ (List.mem_cons_of_mem _ wm_3)
  refine lv_lload_n hx hb dX2_quotient_0 rfl (lv_at hl 1 rfl) ?_
  refine lv_lconst (v := 0) hx hb dX2_quotient_1 (by decide) ?_
  refine W.lcmp hx hb dX2_quotient_2 ?_
  refine lv_if_ne (tgt := 8) hx hb dX2_quotient_3 (by decide) (fun c1 => ?_) (fun c1 => ?_)
  · refine lv_lload_n hx hb dX2_quotient_8 rfl (lv_at hl 1 rfl) ?_
    refine lv_lconst (v := 0) hx hb dX2_quotient_9 (by decide) ?_
    refine W.lcmp hx hb dX2_quotient_10 ?_
    refine lv_if_ge (tgt := 28) hx hb dX2_quotient_11 (by decide) (fun c2 => ?_) (fun c2 => ?_)
    · refine lv_lload_n hx hb dX2_quotient_28 rfl (lv_at hl 0 rfl) ?_
      refine lv_iconst (v := 1) hx hb dX2_quotient_29 (by decide) ?_
      refine lv_lushr (v := (p1.toUInt64 >>> ((1 : Int32).toInt64.toUInt64 &&& Int64.toUInt64 63)).toInt64) hx hb dX2_quotient_30 rfl ?_
      refine lv_lload_n hx hb dX2_quotient_31 rfl (lv_at hl 1 rfl) ?_
      refine lv_ldiv hx hb dX2_quotient_32 (sp_ne0 c1) ?_
      refine lv_iconst (v := 1) hx hb dX2_quotient_33 (by decide) ?_
      refine lv_lshl (v := (((p1.toUInt64 >>> ((1 : Int32).toInt64.toUInt64 &&& Int64.toUInt64 63)).toInt64) / p2) <<< ((1 : Int32).toInt64 &&& 63)) hx hb dX2_quotient_34 rfl ?_
      refine lv_topl (fun v3 ev3 => ?_)
      refine lv_lstore (lv' := [(4, .long v3), (0, .long p1), (2, .long p2)]) hx hb dX2_quotient_35 hl (by decide) rfl (fun ls hl => ?_)
      refine lv_lload_n hx hb dX2_quotient_37 rfl (lv_at hl 2 rfl) ?_
      refine lv_lload_n hx hb dX2_quotient_38 rfl (lv_at hl 1 rfl) ?_
      refine lv_lload hx hb dX2_quotient_39 (lv_at hl 0 rfl) ?_
      refine lv_lload_n hx hb dX2_quotient_41 rfl (lv_at hl 2 rfl) ?_
      refine lv_lmul hx hb dX2_quotient_42 ?_
      refine lv_lsub hx hb dX2_quotient_43 ?_
      refine sp_callz (sp_runSN (As := [.long p2, .long (p1 - (v3 * p2))]) (rest := []) C (c_X0_isAbove l D p2 (p1 - (v3 * p2))) ⟨va_cnB 2 hts (gG wG_c wm_1) rfl rfl rfl (C.2.2.2.2.2.2.2.1 (RX2, 99, yX0_isAbove, "RangeDesk") (List.mem_of_getElem? (i := 5) rfl)) hk0 (by decide +kernel) ⟨Nat.le_of_ble_eq_true rfl, Nat.le_of_ble_eq_true rfl⟩, hk1, trivial⟩ hK hP hD [] (by decide) rfl [] rfl rfl hl.1 rfl (Nat.le_of_ble_eq_true rfl) dX2_quotient_44 ⟨Nat.le_of_ble_eq_true rfl, Nat.le_of_ble_eq_true rfl⟩) hP hD hS hA [] rfl sp_f0 (fun H locs z4 hP hD hS => ?_)
      have hP : va_P D vwCl ([]) H := hP
      have hD : va_D A ([]) := hD
      refine lv_if_eq (tgt := 55) hx hb dX2_quotient_47 (by decide) (fun c5 => ?_) (fun c5 => ?_)
      · refine lv_lload hx hb dX2_quotient_55 (lv_at hl 0 rfl) ?_
        refine lv_lconst (v := 1) hx hb dX2_quotient_57 (by decide) ?_
        refine lv_ladd hx hb dX2_quotient_58 ?_
        have e9 : f_X2_quotient p1 p2 = v3 + 1 := by
              subst ev3
              exact (if_neg c1).trans ((if_pos c2).trans ((if_pos c5).trans (rfl)))
        rw [e9]
        exact sp_lret C hAe hP hK hD hS dX2_quotient_59
      · refine lv_lload hx hb dX2_quotient_50 (lv_at hl 0 rfl) ?_
        refine lv_goto (tgt := 59) hx hb dX2_quotient_52 (by decide) ?_
        have e9 : f_X2_quotient p1 p2 = v3 := by
              subst ev3
              exact (if_neg c1).trans ((if_pos c2).trans ((if_neg c5).trans (rfl)))
        rw [e9]
        exact sp_lret C hAe hP hK hD hS dX2_quotient_59
    · refine lv_lload_n hx hb dX2_quotient_14 rfl (lv_at hl 1 rfl) ?_
      refine lv_lload_n hx hb dX2_quotient_15 rfl (lv_at hl 0 rfl) ?_
      refine sp_callz (sp_runSN (As := [.long p2, .long p1]) (rest := []) C (c_X0_isAbove l D p2 p1) ⟨va_cnB 2 hts (gG wG_c wm_1) rfl rfl rfl (C.2.2.2.2.2.2.2.1 (RX2, 99, yX0_isAbove, "RangeDesk") (List.mem_of_getElem? (i := 5) rfl)) hk0 (by decide +kernel) ⟨Nat.le_of_ble_eq_true rfl, Nat.le_of_ble_eq_true rfl⟩, hk1, trivial⟩ hK hP hD [] (by decide) rfl [] rfl rfl hl.1 rfl (Nat.le_of_ble_eq_true rfl) dX2_quotient_16 ⟨Nat.le_of_ble_eq_true rfl, Nat.le_of_ble_eq_true rfl⟩) hP hD hS hA [] rfl sp_f0 (fun H locs z6 hP hD hS => ?_)
      have hP : va_P D vwCl ([]) H := hP
      have hD : va_D A ([]) := hD
      refine lv_if_eq (tgt := 26) hx hb dX2_quotient_19 (by decide) (fun c7 => ?_) (fun c7 => ?_)
      · refine lv_lconst (v := 1) hx hb dX2_quotient_26 (by decide) ?_
        have e9 : f_X2_quotient p1 p2 = 1 := (if_neg c1).trans ((if_neg c2).trans ((if_pos c7).trans (rfl)))
        rw [e9]
        exact sp_lret C hAe hP hK hD hS dX2_quotient_27
      · refine lv_lconst (v := 0) hx hb dX2_quotient_22 (by decide) ?_
        refine lv_goto (tgt := 27) hx hb dX2_quotient_23 (by decide) ?_
        have e9 : f_X2_quotient p1 p2 = 0 := (if_neg c1).trans ((if_neg c2).trans ((if_neg c7).trans (rfl)))
        rw [e9]
        exact sp_lret C hAe hP hK hD hS dX2_quotient_27
  · refine lv_lconst (v := 0) hx hb dX2_quotient_6 (by decide) ?_
    have e9 : f_X2_quotient p1 p2 = 0 := (if_pos c1).trans (rfl)
    rw [e9]
    exact sp_lret C hAe hP hK hD hS dX2_quotient_7
def f_X2_sumOverflows (p1 : Int64) (p2 : Int64) : Int32 :=
  if 0 ≤ (lg_cmp ((p1 ^^^ (p1 + p2)) &&& (p2 ^^^ (p1 + p2))) 0) then 0
  else 1
set_option maxHeartbeats 4000000 in
set_option maxRecDepth 100000 in
theorem c_X2_sumOverflows (l : Launch) (D : va_G) (p1 : Int64) (p2 : Int64) : sp_M l yX2_sumOverflows wsX2_sumOverflows ({ frames := 0, cells := 0, slots := 0, locals := 0 }) D [.long p1, .long p2] ([]) [] (sp_Qz D ([]) ([]) [] (f_X2_sumOverflows p1 p2)) := by
  refine sp_ofW (cc := cX2_sumOverflows) (nL := 6) (ret := (some .boolean)) (own := RX2) (by decide) rfl rfl (Nat.le_of_ble_eq_true rfl) ?_
  intro p e s m below meth c A ls hAe hnm C hA hP hK hD hS hl
  have hx := C.1
  have hb := C.2.1
  have hown := C.2.2.2.2.1
  have hts := C.2.2.2.2.2.1
  have hl : lv_has ls 6 [(0, .long p1), (2, .long p2)] := hl
  refine lv_lload_n hx hb dX2_sumOverflows_0 rfl (lv_at hl 0 rfl) ?_
  refine lv_lload_n hx hb dX2_sumOverflows_1 rfl (lv_at hl 1 rfl) ?_
  refine lv_ladd hx hb dX2_sumOverflows_2 ?_
  refine lv_lstore (lv' := [(4, .long (p1 + p2)), (0, .long p1), (2, .long p2)]) hx hb dX2_sumOverflows_3 hl (by decide) rfl (fun ls hl => ?_)
  refine lv_lload_n hx hb dX2_sumOverflows_5 rfl (lv_at hl 1 rfl) ?_
  refine lv_lload hx hb dX2_sumOverflows_6 (lv_at hl 0 rfl) ?_
  refine lv_lxor hx hb dX2_sumOverflows_8 ?_
  refine lv_lload_n hx hb dX2_sumOverflows_9 rfl (lv_at hl 2 rfl) ?_
  refine lv_lload hx hb dX2_sumOverflows_10 (lv_at hl 0 rfl) ?_
  refine lv_lxor hx hb dX2_sumOverflows_12 ?_
  refine lv_land hx hb dX2_sumOverflows_13 ?_
  refine lv_lconst (v := 0) hx hb dX2_sumOverflows_14 (by decide) ?_
  refine W.lcmp hx hb dX2_sumOverflows_15 ?_
  refine lv_if_ge (tgt := 23) hx hb dX2_sumOverflows_16 (by decide) (fun c1 => ?_) (fun c1 => ?_)
  · refine lv_iconst (v := 0) hx hb dX2_sumOverflows_23 (by decide) ?_
    have e9 : f_X2_sumOverflows p1 p2 = 0 := (if_pos c1).trans (rfl)
    rw [e9]
    exact sp_zret C hAe hP hK hD hS (Or.inl rfl) dX2_sumOverflows_24
  · refine lv_iconst (v := 1) hx hb dX2_sumOverflows_19 (by decide) ?_
    refine lv_goto (tgt := 24) hx hb dX2_sumOverflows_20 (by decide) ?_
    have e9 : f_X2_sumOverflows p1 p2 = 1 := (if_neg c1).trans (rfl)
    rw [e9]
    exact sp_zret C hAe hP hK hD hS (Or.inr rfl) dX2_sumOverflows_24
def f_X2_differenceOverflows (p1 : Int64) (p2 : Int64) : Int32 :=
  if 0 ≤ (lg_cmp ((p1 ^^^ p2) &&& (p1 ^^^ (p1 - p2))) 0) then 0
  else 1
set_option maxHeartbeats 4000000 in
set_option maxRecDepth 100000 in
theorem c_X2_differenceOverflows (l : Launch) (D : va_G) (p1 : Int64) (p2 : Int64) : sp_M l yX2_differenceOverflows wsX2_differenceOverflows ({ frames := 0, cells := 0, slots := 0, locals := 0 }) D [.long p1, .long p2] ([]) [] (sp_Qz D ([]) ([]) [] (f_X2_differenceOverflows p1 p2)) := by
  refine sp_ofW (cc := cX2_differenceOverflows) (nL := 4) (ret := (some .boolean)) (own := RX2) (by decide) rfl rfl (Nat.le_of_ble_eq_true rfl) ?_
  intro p e s m below meth c A ls hAe hnm C hA hP hK hD hS hl
  have hx := C.1
  have hb := C.2.1
  have hown := C.2.2.2.2.1
  have hts := C.2.2.2.2.2.1
  have hl : lv_has ls 4 [(0, .long p1), (2, .long p2)] := hl
  refine lv_lload_n hx hb dX2_differenceOverflows_0 rfl (lv_at hl 0 rfl) ?_
  refine lv_lload_n hx hb dX2_differenceOverflows_1 rfl (lv_at hl 1 rfl) ?_
  refine lv_lxor hx hb dX2_differenceOverflows_2 ?_
  refine lv_lload_n hx hb dX2_differenceOverflows_3 rfl (lv_at hl 0 rfl) ?_
  refine lv_lload_n hx hb dX2_differenceOverflows_4 rfl (lv_at hl 0 rfl) ?_
  refine lv_lload_n hx hb dX2_differenceOverflows_5 rfl (lv_at hl 1 rfl) ?_
  refine lv_lsub hx hb dX2_differenceOverflows_6 ?_
  refine lv_lxor hx hb dX2_differenceOverflows_7 ?_
  refine lv_land hx hb dX2_differenceOverflows_8 ?_
  refine lv_lconst (v := 0) hx hb dX2_differenceOverflows_9 (by decide) ?_
  refine W.lcmp hx hb dX2_differenceOverflows_10 ?_
  refine lv_if_ge (tgt := 18) hx hb dX2_differenceOverflows_11 (by decide) (fun c1 => ?_) (fun c1 => ?_)
  · refine lv_iconst (v := 0) hx hb dX2_differenceOverflows_18 (by decide) ?_
    have e9 : f_X2_differenceOverflows p1 p2 = 0 := (if_pos c1).trans (rfl)
    rw [e9]
    exact sp_zret C hAe hP hK hD hS (Or.inl rfl) dX2_differenceOverflows_19
  · refine lv_iconst (v := 1) hx hb dX2_differenceOverflows_14 (by decide) ?_
    refine lv_goto (tgt := 19) hx hb dX2_differenceOverflows_15 (by decide) ?_
    have e9 : f_X2_differenceOverflows p1 p2 = 1 := (if_neg c1).trans (rfl)
    rw [e9]
    exact sp_zret C hAe hP hK hD hS (Or.inr rfl) dX2_differenceOverflows_19
def f_X2_byteCount (n0 : Nm) (n1 : Nm) (n2 : Nm) : Int32 :=
  if (f_X1_isExactly n1 2) = 0 then (if (f_X1_isExactly n1 4) = 0 then 8
    else 4)
  else 2
set_option maxHeartbeats 4000000 in
set_option maxRecDepth 100000 in
theorem c_X2_byteCount (l : Launch) (D : va_G) (h0 : Nat) (h1 : Nat) (h2 : Nat) (h3 : Nat) (n0 : Nm) (n1 : Nm) (n2 : Nm) : sp_M l yX2_byteCount wsX2_byteCount ({ frames := 1, cells := 0, slots := 0, locals := 22 }) D [.ref h0] ([(h0, .inr (2, [.ref h1, .ref h2, .ref h3])), (h1, .inr (1, nm_fs n0)), (h2, .inr (1, nm_fs n1)), (h3, .inr (1, nm_fs n2))]) [] (sp_Qi D ([(h0, .inr (2, [.ref h1, .ref h2, .ref h3])), (h1, .inr (1, nm_fs n0)), (h2, .inr (1, nm_fs n1)), (h3, .inr (1, nm_fs n2))]) ([(h0, .inr (2, [.ref h1, .ref h2, .ref h3])), (h1, .inr (1, nm_fs n0)), (h2, .inr (1, nm_fs n1)), (h3, .inr (1, nm_fs n2))]) [] (f_X2_byteCount n0 n1 n2)) := by
  refine sp_ofW (cc := cX2_byteCount) (nL := 1) (ret := (some .int)) (own := RX2) (by decide) rfl rfl (Nat.le_of_ble_eq_true rfl) ?_
  intro p e s m below meth c A ls hAe hnm C hA hP hK hD hS hl
  have hx := C.1
  have hb := C.2.1
  have hown := C.2.2.2.2.1
  have hts := C.2.2.2.2.2.1
  have hl : lv_has ls 1 [(0, .ref h0)] := hl
  have hi2 : ∀ w ∈ u_ws RX2 TX2 3, w ∈ wsX2_byteCount := fun w h => List.mem_cons_of_mem _ (inX2 w h)
  have hk0 := hts _ (List.mem_cons_of_mem _ wm_109)
  have hk1 := hts _ (List.mem_cons_of_mem _ wm_132)
  have hk2 := hts _ (List.mem_cons_of_mem _ wm_133)
  refine lv_aload_n hx hb dX2_byteCount_0 rfl (lv_at hl 0 rfl) ?_
  refine va_get (D := D) (ci := 2) (v := .ref h2) (C := RX2) (T := TX2) (N := 3) hx hb hts hi2 hown hK hP 0 rfl rfl 1 (by decide) hk0 (fun _ h9 => h9) rfl dX2_byteCount_1 ?_
  refine lv_ldc2 (v := 2) hx hb hown hk1 dX2_byteCount_4 ?_
  refine sp_callz (sp_runV (As := [.long 2]) (rest := []) C (c_X1_isExactly l D h2 n1 2) (cwV 1 hts (gV wG_c wm_131 wm_52 wm_53 wm_31 wm_50) rfl rfl rfl (by decide +kernel) ⟨Nat.le_of_ble_eq_true rfl, Nat.le_of_ble_eq_true rfl⟩) hK hP hD [2] (by decide) rfl [] rfl 0 1 rfl rfl rfl rfl hl.1 rfl (Nat.le_of_ble_eq_true rfl) dX2_byteCount_7 ⟨Nat.le_of_ble_eq_true rfl, Nat.le_of_ble_eq_true rfl⟩) hP hD hS hA [2] rfl (sp_fc sp_f0) (fun H locs z1 hP hD hS => ?_)
  have hP : va_P D vwCl ([(h0, .inr (2, [.ref h1, .ref h2, .ref h3])), (h1, .inr (1, nm_fs n0)), (h2, .inr (1, nm_fs n1)), (h3, .inr (1, nm_fs n2))]) H := hP
  have hD : va_D A ([(h0, .inr (2, [.ref h1, .ref h2, .ref h3])), (h1, .inr (1, nm_fs n0)), (h2, .inr (1, nm_fs n1)), (h3, .inr (1, nm_fs n2))]) := hD
  refine lv_if_eq (tgt := 15) hx hb dX2_byteCount_10 (by decide) (fun c2 => ?_) (fun c2 => ?_)
  · refine lv_aload_n hx hb dX2_byteCount_15 rfl (lv_at hl 0 rfl) ?_
    refine va_get (D := D) (ci := 2) (v := .ref h2) (C := RX2) (T := TX2) (N := 3) hx hb hts hi2 hown hK hP 0 rfl rfl 1 (by decide) hk0 (fun _ h9 => h9) rfl dX2_byteCount_16 ?_
    refine lv_ldc2 (v := 4) hx hb hown hk2 dX2_byteCount_19 ?_
    refine sp_callz (sp_runV (As := [.long 4]) (rest := []) C (c_X1_isExactly l D h2 n1 4) (cwV 1 hts (gV wG_c wm_131 wm_52 wm_53 wm_31 wm_50) rfl rfl rfl (by decide +kernel) ⟨Nat.le_of_ble_eq_true rfl, Nat.le_of_ble_eq_true rfl⟩) hK hP hD [2] (by decide) rfl [] rfl 0 1 rfl rfl rfl rfl hl.1 rfl (Nat.le_of_ble_eq_true rfl) dX2_byteCount_22 ⟨Nat.le_of_ble_eq_true rfl, Nat.le_of_ble_eq_true rfl⟩) hP hD hS hA [2] rfl (sp_fc sp_f0) (fun H locs z3 hP hD hS => ?_)
    have hP : va_P D vwCl ([(h0, .inr (2, [.ref h1, .ref h2, .ref h3])), (h1, .inr (1, nm_fs n0)), (h2, .inr (1, nm_fs n1)), (h3, .inr (1, nm_fs n2))]) H := hP
    have hD : va_D A ([(h0, .inr (2, [.ref h1, .ref h2, .ref h3])), (h1, .inr (1, nm_fs n0)), (h2, .inr (1, nm_fs n1)), (h3, .inr (1, nm_fs n2))]) := hD
    refine lv_if_eq (tgt := 32) hx hb dX2_byteCount_25 (by decide) (fun c4 => ?_) (fun c4 => ?_)
    · refine lv_bipush (v := 8) hx hb dX2_byteCount_32 (by decide) ?_
      have e9 : f_X2_byteCount n0 n1 n2 = 8 := (if_pos c2).trans ((if_pos c4).trans (rfl))
      rw [e9]
      exact sp_iret C hAe hP hK hD hS dX2_byteCount_34
    · refine lv_iconst (v := 4) hx hb dX2_byteCount_28 (by decide) ?_
      refine lv_goto (tgt := 34) hx hb dX2_byteCount_29 (by decide) ?_
      have e9 : f_X2_byteCount n0 n1 n2 = 4 := (if_pos c2).trans ((if_neg c4).trans (rfl))
      rw [e9]
      exact sp_iret C hAe hP hK hD hS dX2_byteCount_34
  · refine lv_iconst (v := 2) hx hb dX2_byteCount_13 (by decide) ?_
    have e9 : f_X2_byteCount n0 n1 n2 = 2 := (if_neg c2).trans (rfl)
    rw [e9]
    exact sp_iret C hAe hP hK hD hS dX2_byteCount_14
def f_X2_add (n0 : Nm) (n1 : Nm) (n2 : Nm) : Nm :=
  (let v1 : Int64 := ((((n0.2.1 + n1.2.1) + (n0.1 + n1.1)) ^^^ (n0.1 + n1.1)) ||| n0.2.1) ||| n1.2.1
  if (f_X0_isAbove n0.2.2.2.1 (n0.2.2.2.1 + n1.2.2.2.1)) = 0 then (if (f_X2_sumOverflows n0.2.2.2.2.1 n1.2.2.2.2.1) = 0 then (if (f_X2_sumOverflows n0.2.2.2.2.2 n1.2.2.2.2.2) = 0 then (f_X1_setSigned (f_X1_setUnsigned (f_X1_setBits n2 ((n0.1 + n1.1) &&& (v1 ^^^ (-1))) v1) (n0.2.2.1 + n1.2.2.1) (n0.2.2.2.1 + n1.2.2.2.1)) (n0.2.2.2.2.1 + n1.2.2.2.2.1) (n0.2.2.2.2.2 + n1.2.2.2.2.2))
      else (f_X1_setUnsigned (f_X1_setBits n2 ((n0.1 + n1.1) &&& (v1 ^^^ (-1))) v1) (n0.2.2.1 + n1.2.2.1) (n0.2.2.2.1 + n1.2.2.2.1)))
    else (f_X1_setUnsigned (f_X1_setBits n2 ((n0.1 + n1.1) &&& (v1 ^^^ (-1))) v1) (n0.2.2.1 + n1.2.2.1) (n0.2.2.2.1 + n1.2.2.2.1)))
  else if (f_X2_sumOverflows n0.2.2.2.2.1 n1.2.2.2.2.1) = 0 then (if (f_X2_sumOverflows n0.2.2.2.2.2 n1.2.2.2.2.2) = 0 then (f_X1_setSigned (f_X1_setBits n2 ((n0.1 + n1.1) &&& (v1 ^^^ (-1))) v1) (n0.2.2.2.2.1 + n1.2.2.2.2.1) (n0.2.2.2.2.2 + n1.2.2.2.2.2))
    else (f_X1_setBits n2 ((n0.1 + n1.1) &&& (v1 ^^^ (-1))) v1))
  else (f_X1_setBits n2 ((n0.1 + n1.1) &&& (v1 ^^^ (-1))) v1))
set_option maxHeartbeats 4000000 in
set_option maxRecDepth 100000 in
theorem c_X2_add (l : Launch) (D : va_G) (h0 : Nat) (h1 : Nat) (h2 : Nat) (h3 : Nat) (n0 : Nm) (n1 : Nm) (n2 : Nm) : sp_M l yX2_add wsX2_add ({ frames := 1, cells := 0, slots := 0, locals := 25 }) D [.ref h0] ([(h0, .inr (2, [.ref h1, .ref h2, .ref h3])), (h1, .inr (1, nm_fs n0)), (h2, .inr (1, nm_fs n1)), (h3, .inr (1, nm_fs n2))]) [] (sp_Qv D ([(h0, .inr (2, [.ref h1, .ref h2, .ref h3])), (h1, .inr (1, nm_fs n0)), (h2, .inr (1, nm_fs n1)), (h3, .inr (1, nm_fs n2))]) ([(h0, .inr (2, [.ref h1, .ref h2, .ref h3])), (h1, .inr (1, nm_fs n0)), (h2, .inr (1, nm_fs n1)), (h3, .inr (1, nm_fs (f_X2_add n0 n1 n2)))]) []) := by
  refine sp_ofW (cc := cX2_add) (nL := 7) (ret := none) (own := RX2) (by decide) rfl rfl (Nat.le_of_ble_eq_true rfl) ?_
  intro p e s m below meth c A ls hAe hnm C hA hP hK hD hS hl
  have hx := C.1
  have hb := C.2.1
  have hown := C.2.2.2.2.1
  have hts := C.2.2.2.2.2.1
  have hl : lv_has ls 7 [(0, .ref h0)] := hl
  have hi1 : ∀ w ∈ u_ws RX1 TX1 6, w ∈ wsX2_add := fun w h => List.mem_cons_of_mem _ (inX1 w h)
  have hi2 : ∀ w ∈ u_ws RX2 TX2 3, w ∈ wsX2_add := fun w h => List.mem_cons_of_mem _ (inX2 w h)
  have hk0 := hts _ (List.mem_cons_of_mem _ wm_108)
  have hk1 := hts _ (List.mem_cons_of_mem _ wm_140)
  have hk2 := hts _ (List.mem_cons_of_mem _ wm_109)
  have hk3 := hts _ (List.mem_cons_of_mem _ wm_141)
  have hk4 := hts _ (List.mem_cons_of_mem _ wm_110)
  have hk5 := hts _ (List.mem_cons_of_mem _ wm_130)
  have hk6 := hts _ (List.mem_cons_of_mem _ wm_142)
  have hk7 := hts _ (List.mem_cons_of_mem _ wm_4)
  have hk8 := hts _ (List.mem_cons_of_mem _ wm_3)
  have hk9 := hts _ (List.mem_cons_of_mem _ wm_143)
  have hk10 := hts _ (List.mem_cons_of_mem _ wm_144)
  have hk11 := hts _ (List.mem_cons_of_mem _ wm_145)
  refine lv_aload_n hx hb dX2_add_0 rfl (lv_at hl 0 rfl) ?_
  refine va_get (D := D) (ci := 2) (v := .ref h1) (C := RX2) (T := TX2) (N := 3) hx hb hts hi2 hown hK hP 0 rfl rfl 0 (by decide) hk0 (fun _ h9 => h9) rfl dX2_add_1 ?_
  refine va_get (D := D) (ci := 1) (v := .long n0.1) (C := RX1) (T := TX1) (N := 6) hx hb hts hi1 hown hK hP 1 rfl rfl 0 (by decide) hk1 (fun _ h9 => h9) rfl dX2_add_4 ?_
  refine lv_aload_n hx hb dX2_add_7 rfl (lv_at hl 0 rfl) ?_
  refine va_get (D := D) (ci := 2) (v := .ref h2) (C := RX2) (T := TX2) (N := 3) hx hb hts hi2 hown hK hP 0 rfl rfl 1 (by decide) hk2 (fun _ h9 => h9) rfl dX2_add_8 ?_
  refine va_get (D := D) (ci := 1) (v := .long n1.1) (C := RX1) (T := TX1) (N := 6) hx hb hts hi1 hown hK hP 2 rfl rfl 0 (by decide) hk1 (fun _ h9 => h9) rfl dX2_add_11 ?_
  refine lv_ladd hx hb dX2_add_14 ?_
  refine lv_lstore_n (lv' := [(1, .long (n0.1 + n1.1)), (0, .ref h0)]) hx hb dX2_add_15 rfl hl (by decide) rfl (fun ls hl => ?_)
  refine lv_aload_n hx hb dX2_add_16 rfl (lv_at hl 1 rfl) ?_
  refine va_get (D := D) (ci := 2) (v := .ref h1) (C := RX2) (T := TX2) (N := 3) hx hb hts hi2 hown hK hP 0 rfl rfl 0 (by decide) hk0 (fun _ h9 => h9) rfl dX2_add_17 ?_
  refine va_get (D := D) (ci := 1) (v := .long n0.2.1) (C := RX1) (T := TX1) (N := 6) hx hb hts hi1 hown hK hP 1 rfl rfl 1 (by decide) hk3 (fun _ h9 => h9) rfl dX2_add_20 ?_
  refine lv_aload_n hx hb dX2_add_23 rfl (lv_at hl 1 rfl) ?_
  refine va_get (D := D) (ci := 2) (v := .ref h2) (C := RX2) (T := TX2) (N := 3) hx hb hts hi2 hown hK hP 0 rfl rfl 1 (by decide) hk2 (fun _ h9 => h9) rfl dX2_add_24 ?_
  refine va_get (D := D) (ci := 1) (v := .long n1.2.1) (C := RX1) (T := TX1) (N := 6) hx hb hts hi1 hown hK hP 2 rfl rfl 1 (by decide) hk3 (fun _ h9 => h9) rfl dX2_add_27 ?_
  refine lv_ladd hx hb dX2_add_30 ?_
  refine lv_lload_n hx hb dX2_add_31 rfl (lv_at hl 0 rfl) ?_
  refine lv_ladd hx hb dX2_add_32 ?_
  refine lv_lload_n hx hb dX2_add_33 rfl (lv_at hl 0 rfl) ?_
  refine lv_lxor hx hb dX2_add_34 ?_
  refine lv_aload_n hx hb dX2_add_35 rfl (lv_at hl 1 rfl) ?_
  refine va_get (D := D) (ci := 2) (v := .ref h1) (C := RX2) (T := TX2) (N := 3) hx hb hts hi2 hown hK hP 0 rfl rfl 0 (by decide) hk0 (fun _ h9 => h9) rfl dX2_add_36 ?_
  refine va_get (D := D) (ci := 1) (v := .long n0.2.1) (C := RX1) (T := TX1) (N := 6) hx hb hts hi1 hown hK hP 1 rfl rfl 1 (by decide) hk3 (fun _ h9 => h9) rfl dX2_add_39 ?_
  refine lv_lor hx hb dX2_add_42 ?_
  refine lv_aload_n hx hb dX2_add_43 rfl (lv_at hl 1 rfl) ?_
  refine va_get (D := D) (ci := 2) (v := .ref h2) (C := RX2) (T := TX2) (N := 3) hx hb hts hi2 hown hK hP 0 rfl rfl 1 (by decide) hk2 (fun _ h9 => h9) rfl dX2_add_44 ?_
  refine va_get (D := D) (ci := 1) (v := .long n1.2.1) (C := RX1) (T := TX1) (N := 6) hx hb hts hi1 hown hK hP 2 rfl rfl 1 (by decide) hk3 (fun _ h9 => h9) rfl dX2_add_47 ?_
  refine lv_lor hx hb dX2_add_50 ?_
  refine lv_topl (fun v1 ev1 => ?_)
  refine lv_lstore_n (lv' := [(3, .long v1), (1, .long (n0.1 + n1.1)), (0, .ref h0)]) hx hb dX2_add_51 rfl hl (by decide) rfl (fun ls hl => ?_)
  refine lv_aload_n hx hb dX2_add_52 rfl (lv_at hl 2 rfl) ?_
  refine va_get (D := D) (ci := 2) (v := .ref h3) (C := RX2) (T := TX2) (N := 3) hx hb hts hi2 hown hK hP 0 rfl rfl 2 (by decide) hk4 (fun _ h9 => h9) rfl dX2_add_53 ?_
  refine lv_lload_n hx hb dX2_add_56 rfl (lv_at hl 1 rfl) ?_
  refine lv_lload_n hx hb dX2_add_57 rfl (lv_at hl 0 rfl) ?_
  refine lv_ldc2 (v := (-1)) hx hb hown hk5 dX2_add_58 ?_
  refine lv_lxor hx hb dX2_add_61 ?_
  refine lv_land hx hb dX2_add_62 ?_
  refine lv_lload_n hx hb dX2_add_63 rfl (lv_at hl 0 rfl) ?_
  refine sp_callv (sp_runV (As := [.long ((n0.1 + n1.1) &&& (v1 ^^^ (-1))), .long v1]) (rest := []) C (c_X1_setBits l D h3 n2 ((n0.1 + n1.1) &&& (v1 ^^^ (-1))) v1) (cwV 2 hts (gV wG_c wm_134 wm_29 wm_30 wm_31 wm_27) rfl rfl rfl (by decide +kernel) ⟨Nat.le_of_ble_eq_true rfl, Nat.le_of_ble_eq_true rfl⟩) hK hP hD [3] (by decide) rfl [] rfl 0 1 rfl rfl rfl rfl hl.1 rfl (Nat.le_of_ble_eq_true rfl) dX2_add_64 ⟨Nat.le_of_ble_eq_true rfl, Nat.le_of_ble_eq_true rfl⟩) hP hD hS hA [3] rfl (sp_fc sp_f0) (fun H locs hP hD hS => ?_)
  have hP : va_P D vwCl ([(h0, .inr (2, [.ref h1, .ref h2, .ref h3])), (h1, .inr (1, nm_fs n0)), (h2, .inr (1, nm_fs n1)), (h3, .inr (1, nm_fs (f_X1_setBits n2 ((n0.1 + n1.1) &&& (v1 ^^^ (-1))) v1)))]) H := hP
  have hD : va_D A ([(h0, .inr (2, [.ref h1, .ref h2, .ref h3])), (h1, .inr (1, nm_fs n0)), (h2, .inr (1, nm_fs n1)), (h3, .inr (1, nm_fs (f_X1_setBits n2 ((n0.1 + n1.1) &&& (v1 ^^^ (-1))) v1)))]) := hD
  refine lv_aload_n hx hb dX2_add_67 rfl (lv_at hl 2 rfl) ?_
  refine va_get (D := D) (ci := 2) (v := .ref h1) (C := RX2) (T := TX2) (N := 3) hx hb hts hi2 hown hK hP 0 rfl rfl 0 (by decide) hk0 (fun _ h9 => h9) rfl dX2_add_68 ?_
  refine va_get (D := D) (ci := 1) (v := .long n0.2.2.2.1) (C := RX1) (T := TX1) (N := 6) hx hb hts hi1 hown hK hP 1 rfl rfl 3 (by decide) hk6 (fun _ h9 => h9) rfl dX2_add_71 ?_
  refine lv_aload_n hx hb dX2_add_74 rfl (lv_at hl 2 rfl) ?_
  refine va_get (D := D) (ci := 2) (v := .ref h2) (C := RX2) (T := TX2) (N := 3) hx hb hts hi2 hown hK hP 0 rfl rfl 1 (by decide) hk2 (fun _ h9 => h9) rfl dX2_add_75 ?_
  refine va_get (D := D) (ci := 1) (v := .long n1.2.2.2.1) (C := RX1) (T := TX1) (N := 6) hx hb hts hi1 hown hK hP 2 rfl rfl 3 (by decide) hk6 (fun _ h9 => h9) rfl dX2_add_78 ?_
  refine lv_ladd hx hb dX2_add_81 ?_
  refine lv_lstore (lv' := [(5, .long (n0.2.2.2.1 + n1.2.2.2.1)), (3, .long v1), (1, .long (n0.1 + n1.1)), (0, .ref h0)]) hx hb dX2_add_82 hl (by decide) rfl (fun ls hl => ?_)
  refine lv_aload_n hx hb dX2_add_84 rfl (lv_at hl 3 rfl) ?_
  refine va_get (D := D) (ci := 2) (v := .ref h1) (C := RX2) (T := TX2) (N := 3) hx hb hts hi2 hown hK hP 0 rfl rfl 0 (by decide) hk0 (fun _ h9 => h9) rfl dX2_add_85 ?_
  refine va_get (D := D) (ci := 1) (v := .long n0.2.2.2.1) (C := RX1) (T := TX1) (N := 6) hx hb hts hi1 hown hK hP 1 rfl rfl 3 (by decide) hk6 (fun _ h9 => h9) rfl dX2_add_88 ?_
  refine lv_lload hx hb dX2_add_91 (lv_at hl 0 rfl) ?_
  refine sp_callz (sp_runSN (As := [.long n0.2.2.2.1, .long (n0.2.2.2.1 + n1.2.2.2.1)]) (rest := []) C (c_X0_isAbove l D n0.2.2.2.1 (n0.2.2.2.1 + n1.2.2.2.1)) ⟨va_cnB 2 hts (gG wG_c wm_1) rfl rfl rfl (C.2.2.2.2.2.2.2.1 (RX2, 99, yX0_isAbove, "RangeDesk") (List.mem_of_getElem? (i := 5) rfl)) hk7 (by decide +kernel) ⟨Nat.le_of_ble_eq_true rfl, Nat.le_of_ble_eq_true rfl⟩, hk8, trivial⟩ hK hP hD [] (by decide) rfl [] rfl rfl hl.1 rfl (Nat.le_of_ble_eq_true rfl) dX2_add_93 ⟨Nat.le_of_ble_eq_true rfl, Nat.le_of_ble_eq_true rfl⟩) hP hD hS hA [] rfl sp_f0 (fun H locs z2 hP hD hS => ?_)
  have hP : va_P D vwCl ([(h0, .inr (2, [.ref h1, .ref h2, .ref h3])), (h1, .inr (1, nm_fs n0)), (h2, .inr (1, nm_fs n1)), (h3, .inr (1, nm_fs (f_X1_setBits n2 ((n0.1 + n1.1) &&& (v1 ^^^ (-1))) v1)))]) H := hP
  have hD : va_D A ([(h0, .inr (2, [.ref h1, .ref h2, .ref h3])), (h1, .inr (1, nm_fs n0)), (h2, .inr (1, nm_fs n1)), (h3, .inr (1, nm_fs (f_X1_setBits n2 ((n0.1 + n1.1) &&& (v1 ^^^ (-1))) v1)))]) := hD
  refine lv_if_ne (tgt := 123) hx hb dX2_add_96 (by decide) (fun c3 => ?_) (fun c3 => ?_)
  · refine lv_aload_n hx hb dX2_add_123 rfl (lv_at hl 3 rfl) ?_
    refine va_get (D := D) (ci := 2) (v := .ref h1) (C := RX2) (T := TX2) (N := 3) hx hb hts hi2 hown hK hP 0 rfl rfl 0 (by decide) hk0 (fun _ h9 => h9) rfl dX2_add_124 ?_
    refine va_get (D := D) (ci := 1) (v := .long n0.2.2.2.2.1) (C := RX1) (T := TX1) (N := 6) hx hb hts hi1 hown hK hP 1 rfl rfl 4 (by decide) hk9 (fun _ h9 => h9) rfl dX2_add_127 ?_
    refine lv_aload_n hx hb dX2_add_130 rfl (lv_at hl 3 rfl) ?_
    refine va_get (D := D) (ci := 2) (v := .ref h2) (C := RX2) (T := TX2) (N := 3) hx hb hts hi2 hown hK hP 0 rfl rfl 1 (by decide) hk2 (fun _ h9 => h9) rfl dX2_add_131 ?_
    refine va_get (D := D) (ci := 1) (v := .long n1.2.2.2.2.1) (C := RX1) (T := TX1) (N := 6) hx hb hts hi1 hown hK hP 2 rfl rfl 4 (by decide) hk9 (fun _ h9 => h9) rfl dX2_add_134 ?_
    refine sp_callz (sp_runS (As := [.long n0.2.2.2.2.1, .long n1.2.2.2.2.1]) (rest := []) C (c_X2_sumOverflows l D n0.2.2.2.2.1 n1.2.2.2.2.1) (va_cwS 2 hts (gS wG_c wm_136 wm_137 wm_122 wm_135) rfl rfl rfl (by decide +kernel) ⟨Nat.le_of_ble_eq_true rfl, Nat.le_of_ble_eq_true rfl⟩) hK hP hD [] (by decide) rfl [] rfl rfl hl.1 rfl (Nat.le_of_ble_eq_true rfl) dX2_add_137 ⟨Nat.le_of_ble_eq_true rfl, Nat.le_of_ble_eq_true rfl⟩) hP hD hS hA [] rfl sp_f0 (fun H locs z4 hP hD hS => ?_)
    have hP : va_P D vwCl ([(h0, .inr (2, [.ref h1, .ref h2, .ref h3])), (h1, .inr (1, nm_fs n0)), (h2, .inr (1, nm_fs n1)), (h3, .inr (1, nm_fs (f_X1_setBits n2 ((n0.1 + n1.1) &&& (v1 ^^^ (-1))) v1)))]) H := hP
    have hD : va_D A ([(h0, .inr (2, [.ref h1, .ref h2, .ref h3])), (h1, .inr (1, nm_fs n0)), (h2, .inr (1, nm_fs n1)), (h3, .inr (1, nm_fs (f_X1_setBits n2 ((n0.1 + n1.1) &&& (v1 ^^^ (-1))) v1)))]) := hD
    refine lv_if_ne (tgt := 200) hx hb dX2_add_140 (by decide) (fun c5 => ?_) (fun c5 => ?_)
    · have e9 : f_X2_add n0 n1 n2 = (f_X1_setBits n2 ((n0.1 + n1.1) &&& (v1 ^^^ (-1))) v1) := by
            subst ev1
            exact (if_neg c3).trans ((if_neg c5).trans (rfl))
      rw [e9]
      exact sp_vret C hAe hP hK hD hS dX2_add_200
    · refine lv_aload_n hx hb dX2_add_143 rfl (lv_at hl 3 rfl) ?_
      refine va_get (D := D) (ci := 2) (v := .ref h1) (C := RX2) (T := TX2) (N := 3) hx hb hts hi2 hown hK hP 0 rfl rfl 0 (by decide) hk0 (fun _ h9 => h9) rfl dX2_add_144 ?_
      refine va_get (D := D) (ci := 1) (v := .long n0.2.2.2.2.2) (C := RX1) (T := TX1) (N := 6) hx hb hts hi1 hown hK hP 1 rfl rfl 5 (by decide) hk10 (fun _ h9 => h9) rfl dX2_add_147 ?_
      refine lv_aload_n hx hb dX2_add_150 rfl (lv_at hl 3 rfl) ?_
      refine va_get (D := D) (ci := 2) (v := .ref h2) (C := RX2) (T := TX2) (N := 3) hx hb hts hi2 hown hK hP 0 rfl rfl 1 (by decide) hk2 (fun _ h9 => h9) rfl dX2_add_151 ?_
      refine va_get (D := D) (ci := 1) (v := .long n1.2.2.2.2.2) (C := RX1) (T := TX1) (N := 6) hx hb hts hi1 hown hK hP 2 rfl rfl 5 (by decide) hk10 (fun _ h9 => h9) rfl dX2_add_154 ?_
      refine sp_callz (sp_runS (As := [.long n0.2.2.2.2.2, .long n1.2.2.2.2.2]) (rest := []) C (c_X2_sumOverflows l D n0.2.2.2.2.2 n1.2.2.2.2.2) (va_cwS 2 hts (gS wG_c wm_136 wm_137 wm_122 wm_135) rfl rfl rfl (by decide +kernel) ⟨Nat.le_of_ble_eq_true rfl, Nat.le_of_ble_eq_true rfl⟩) hK hP hD [] (by decide) rfl [] rfl rfl hl.1 rfl (Nat.le_of_ble_eq_true rfl) dX2_add_157 ⟨Nat.le_of_ble_eq_true rfl, Nat.le_of_ble_eq_true rfl⟩) hP hD hS hA [] rfl sp_f0 (fun H locs z6 hP hD hS => ?_)
      have hP : va_P D vwCl ([(h0, .inr (2, [.ref h1, .ref h2, .ref h3])), (h1, .inr (1, nm_fs n0)), (h2, .inr (1, nm_fs n1)), (h3, .inr (1, nm_fs (f_X1_setBits n2 ((n0.1 + n1.1) &&& (v1 ^^^ (-1))) v1)))]) H := hP
      have hD : va_D A ([(h0, .inr (2, [.ref h1, .ref h2, .ref h3])), (h1, .inr (1, nm_fs n0)), (h2, .inr (1, nm_fs n1)), (h3, .inr (1, nm_fs (f_X1_setBits n2 ((n0.1 + n1.1) &&& (v1 ^^^ (-1))) v1)))]) := hD
      refine lv_if_ne (tgt := 200) hx hb dX2_add_160 (by decide) (fun c7 => ?_) (fun c7 => ?_)
      · have e9 : f_X2_add n0 n1 n2 = (f_X1_setBits n2 ((n0.1 + n1.1) &&& (v1 ^^^ (-1))) v1) := by
              subst ev1
              exact (if_neg c3).trans ((if_pos c5).trans ((if_neg c7).trans (rfl)))
        rw [e9]
        exact sp_vret C hAe hP hK hD hS dX2_add_200
      · refine lv_aload_n hx hb dX2_add_163 rfl (lv_at hl 3 rfl) ?_
        refine va_get (D := D) (ci := 2) (v := .ref h3) (C := RX2) (T := TX2) (N := 3) hx hb hts hi2 hown hK hP 0 rfl rfl 2 (by decide) hk4 (fun _ h9 => h9) rfl dX2_add_164 ?_
        refine lv_aload_n hx hb dX2_add_167 rfl (lv_at hl 3 rfl) ?_
        refine va_get (D := D) (ci := 2) (v := .ref h1) (C := RX2) (T := TX2) (N := 3) hx hb hts hi2 hown hK hP 0 rfl rfl 0 (by decide) hk0 (fun _ h9 => h9) rfl dX2_add_168 ?_
        refine va_get (D := D) (ci := 1) (v := .long n0.2.2.2.2.1) (C := RX1) (T := TX1) (N := 6) hx hb hts hi1 hown hK hP 1 rfl rfl 4 (by decide) hk9 (fun _ h9 => h9) rfl dX2_add_171 ?_
        refine lv_aload_n hx hb dX2_add_174 rfl (lv_at hl 3 rfl) ?_
        refine va_get (D := D) (ci := 2) (v := .ref h2) (C := RX2) (T := TX2) (N := 3) hx hb hts hi2 hown hK hP 0 rfl rfl 1 (by decide) hk2 (fun _ h9 => h9) rfl dX2_add_175 ?_
        refine va_get (D := D) (ci := 1) (v := .long n1.2.2.2.2.1) (C := RX1) (T := TX1) (N := 6) hx hb hts hi1 hown hK hP 2 rfl rfl 4 (by decide) hk9 (fun _ h9 => h9) rfl dX2_add_178 ?_
        refine lv_ladd hx hb dX2_add_181 ?_
        refine lv_aload_n hx hb dX2_add_182 rfl (lv_at hl 3 rfl) ?_
        refine va_get (D := D) (ci := 2) (v := .ref h1) (C := RX2) (T := TX2) (N := 3) hx hb hts hi2 hown hK hP 0 rfl rfl 0 (by decide) hk0 (fun _ h9 => h9) rfl dX2_add_183 ?_
        refine va_get (D := D) (ci := 1) (v := .long n0.2.2.2.2.2) (C := RX1) (T := TX1) (N := 6) hx hb hts hi1 hown hK hP 1 rfl rfl 5 (by decide) hk10 (fun _ h9 => h9) rfl dX2_add_186 ?_
        refine lv_aload_n hx hb dX2_add_189 rfl (lv_at hl 3 rfl) ?_
        refine va_get (D := D) (ci := 2) (v := .ref h2) (C := RX2) (T := TX2) (N := 3) hx hb hts hi2 hown hK hP 0 rfl rfl 1 (by decide) hk2 (fun _ h9 => h9) rfl dX2_add_190 ?_
        refine va_get (D := D) (ci := 1) (v := .long n1.2.2.2.2.2) (C := RX1) (T := TX1) (N := 6) hx hb hts hi1 hown hK hP 2 rfl rfl 5 (by decide) hk10 (fun _ h9 => h9) rfl dX2_add_193 ?_
        refine lv_ladd hx hb dX2_add_196 ?_
        refine sp_callv (sp_runV (As := [.long (n0.2.2.2.2.1 + n1.2.2.2.2.1), .long (n0.2.2.2.2.2 + n1.2.2.2.2.2)]) (rest := []) C (c_X1_setSigned l D h3 (f_X1_setBits n2 ((n0.1 + n1.1) &&& (v1 ^^^ (-1))) v1) (n0.2.2.2.2.1 + n1.2.2.2.2.1) (n0.2.2.2.2.2 + n1.2.2.2.2.2)) (cwV 2 hts (gV wG_c wm_138 wm_38 wm_39 wm_31 wm_36) rfl rfl rfl (by decide +kernel) ⟨Nat.le_of_ble_eq_true rfl, Nat.le_of_ble_eq_true rfl⟩) hK hP hD [3] (by decide) rfl [] rfl 0 1 rfl rfl rfl rfl hl.1 rfl (Nat.le_of_ble_eq_true rfl) dX2_add_197 ⟨Nat.le_of_ble_eq_true rfl, Nat.le_of_ble_eq_true rfl⟩) hP hD hS hA [3] rfl (sp_fc sp_f0) (fun H locs hP hD hS => ?_)
        have hP : va_P D vwCl ([(h0, .inr (2, [.ref h1, .ref h2, .ref h3])), (h1, .inr (1, nm_fs n0)), (h2, .inr (1, nm_fs n1)), (h3, .inr (1, nm_fs (f_X1_setSigned (f_X1_setBits n2 ((n0.1 + n1.1) &&& (v1 ^^^ (-1))) v1) (n0.2.2.2.2.1 + n1.2.2.2.2.1) (n0.2.2.2.2.2 + n1.2.2.2.2.2))))]) H := hP
        have hD : va_D A ([(h0, .inr (2, [.ref h1, .ref h2, .ref h3])), (h1, .inr (1, nm_fs n0)), (h2, .inr (1, nm_fs n1)), (h3, .inr (1, nm_fs (f_X1_setSigned (f_X1_setBits n2 ((n0.1 + n1.1) &&& (v1 ^^^ (-1))) v1) (n0.2.2.2.2.1 + n1.2.2.2.2.1) (n0.2.2.2.2.2 + n1.2.2.2.2.2))))]) := hD
        have e9 : f_X2_add n0 n1 n2 = (f_X1_setSigned (f_X1_setBits n2 ((n0.1 + n1.1) &&& (v1 ^^^ (-1))) v1) (n0.2.2.2.2.1 + n1.2.2.2.2.1) (n0.2.2.2.2.2 + n1.2.2.2.2.2)) := by
              subst ev1
              exact (if_neg c3).trans ((if_pos c5).trans ((if_pos c7).trans (rfl)))
        rw [e9]
        exact sp_vret C hAe hP hK hD hS dX2_add_200
  · refine lv_aload_n hx hb dX2_add_99 rfl (lv_at hl 3 rfl) ?_
    refine va_get (D := D) (ci := 2) (v := .ref h3) (C := RX2) (T := TX2) (N := 3) hx hb hts hi2 hown hK hP 0 rfl rfl 2 (by decide) hk4 (fun _ h9 => h9) rfl dX2_add_100 ?_
    refine lv_aload_n hx hb dX2_add_103 rfl (lv_at hl 3 rfl) ?_
    refine va_get (D := D) (ci := 2) (v := .ref h1) (C := RX2) (T := TX2) (N := 3) hx hb hts hi2 hown hK hP 0 rfl rfl 0 (by decide) hk0 (fun _ h9 => h9) rfl dX2_add_104 ?_
    refine va_get (D := D) (ci := 1) (v := .long n0.2.2.1) (C := RX1) (T := TX1) (N := 6) hx hb hts hi1 hown hK hP 1 rfl rfl 2 (by decide) hk11 (fun _ h9 => h9) rfl dX2_add_107 ?_
    refine lv_aload_n hx hb dX2_add_110 rfl (lv_at hl 3 rfl) ?_
    refine va_get (D := D) (ci := 2) (v := .ref h2) (C := RX2) (T := TX2) (N := 3) hx hb hts hi2 hown hK hP 0 rfl rfl 1 (by decide) hk2 (fun _ h9 => h9) rfl dX2_add_111 ?_
    refine va_get (D := D) (ci := 1) (v := .long n1.2.2.1) (C := RX1) (T := TX1) (N := 6) hx hb hts hi1 hown hK hP 2 rfl rfl 2 (by decide) hk11 (fun _ h9 => h9) rfl dX2_add_114 ?_
    refine lv_ladd hx hb dX2_add_117 ?_
    refine lv_lload hx hb dX2_add_118 (lv_at hl 0 rfl) ?_
    refine sp_callv (sp_runV (As := [.long (n0.2.2.1 + n1.2.2.1), .long (n0.2.2.2.1 + n1.2.2.2.1)]) (rest := []) C (c_X1_setUnsigned l D h3 (f_X1_setBits n2 ((n0.1 + n1.1) &&& (v1 ^^^ (-1))) v1) (n0.2.2.1 + n1.2.2.1) (n0.2.2.2.1 + n1.2.2.2.1)) (cwV 2 hts (gV wG_c wm_139 wm_34 wm_35 wm_31 wm_32) rfl rfl rfl (by decide +kernel) ⟨Nat.le_of_ble_eq_true rfl, Nat.le_of_ble_eq_true rfl⟩) hK hP hD [3] (by decide) rfl [] rfl 0 1 rfl rfl rfl rfl hl.1 rfl (Nat.le_of_ble_eq_true rfl) dX2_add_120 ⟨Nat.le_of_ble_eq_true rfl, Nat.le_of_ble_eq_true rfl⟩) hP hD hS hA [3] rfl (sp_fc sp_f0) (fun H locs hP hD hS => ?_)
    have hP : va_P D vwCl ([(h0, .inr (2, [.ref h1, .ref h2, .ref h3])), (h1, .inr (1, nm_fs n0)), (h2, .inr (1, nm_fs n1)), (h3, .inr (1, nm_fs (f_X1_setUnsigned (f_X1_setBits n2 ((n0.1 + n1.1) &&& (v1 ^^^ (-1))) v1) (n0.2.2.1 + n1.2.2.1) (n0.2.2.2.1 + n1.2.2.2.1))))]) H := hP
    have hD : va_D A ([(h0, .inr (2, [.ref h1, .ref h2, .ref h3])), (h1, .inr (1, nm_fs n0)), (h2, .inr (1, nm_fs n1)), (h3, .inr (1, nm_fs (f_X1_setUnsigned (f_X1_setBits n2 ((n0.1 + n1.1) &&& (v1 ^^^ (-1))) v1) (n0.2.2.1 + n1.2.2.1) (n0.2.2.2.1 + n1.2.2.2.1))))]) := hD
    refine lv_aload_n hx hb dX2_add_123 rfl (lv_at hl 3 rfl) ?_
    refine va_get (D := D) (ci := 2) (v := .ref h1) (C := RX2) (T := TX2) (N := 3) hx hb hts hi2 hown hK hP 0 rfl rfl 0 (by decide) hk0 (fun _ h9 => h9) rfl dX2_add_124 ?_
    refine va_get (D := D) (ci := 1) (v := .long n0.2.2.2.2.1) (C := RX1) (T := TX1) (N := 6) hx hb hts hi1 hown hK hP 1 rfl rfl 4 (by decide) hk9 (fun _ h9 => h9) rfl dX2_add_127 ?_
    refine lv_aload_n hx hb dX2_add_130 rfl (lv_at hl 3 rfl) ?_
    refine va_get (D := D) (ci := 2) (v := .ref h2) (C := RX2) (T := TX2) (N := 3) hx hb hts hi2 hown hK hP 0 rfl rfl 1 (by decide) hk2 (fun _ h9 => h9) rfl dX2_add_131 ?_
    refine va_get (D := D) (ci := 1) (v := .long n1.2.2.2.2.1) (C := RX1) (T := TX1) (N := 6) hx hb hts hi1 hown hK hP 2 rfl rfl 4 (by decide) hk9 (fun _ h9 => h9) rfl dX2_add_134 ?_
    refine sp_callz (sp_runS (As := [.long n0.2.2.2.2.1, .long n1.2.2.2.2.1]) (rest := []) C (c_X2_sumOverflows l D n0.2.2.2.2.1 n1.2.2.2.2.1) (va_cwS 2 hts (gS wG_c wm_136 wm_137 wm_122 wm_135) rfl rfl rfl (by decide +kernel) ⟨Nat.le_of_ble_eq_true rfl, Nat.le_of_ble_eq_true rfl⟩) hK hP hD [] (by decide) rfl [] rfl rfl hl.1 rfl (Nat.le_of_ble_eq_true rfl) dX2_add_137 ⟨Nat.le_of_ble_eq_true rfl, Nat.le_of_ble_eq_true rfl⟩) hP hD hS hA [] rfl sp_f0 (fun H locs z8 hP hD hS => ?_)
    have hP : va_P D vwCl ([(h0, .inr (2, [.ref h1, .ref h2, .ref h3])), (h1, .inr (1, nm_fs n0)), (h2, .inr (1, nm_fs n1)), (h3, .inr (1, nm_fs (f_X1_setUnsigned (f_X1_setBits n2 ((n0.1 + n1.1) &&& (v1 ^^^ (-1))) v1) (n0.2.2.1 + n1.2.2.1) (n0.2.2.2.1 + n1.2.2.2.1))))]) H := hP
    have hD : va_D A ([(h0, .inr (2, [.ref h1, .ref h2, .ref h3])), (h1, .inr (1, nm_fs n0)), (h2, .inr (1, nm_fs n1)), (h3, .inr (1, nm_fs (f_X1_setUnsigned (f_X1_setBits n2 ((n0.1 + n1.1) &&& (v1 ^^^ (-1))) v1) (n0.2.2.1 + n1.2.2.1) (n0.2.2.2.1 + n1.2.2.2.1))))]) := hD
    refine lv_if_ne (tgt := 200) hx hb dX2_add_140 (by decide) (fun c9 => ?_) (fun c9 => ?_)
    · have e9 : f_X2_add n0 n1 n2 = (f_X1_setUnsigned (f_X1_setBits n2 ((n0.1 + n1.1) &&& (v1 ^^^ (-1))) v1) (n0.2.2.1 + n1.2.2.1) (n0.2.2.2.1 + n1.2.2.2.1)) := by
            subst ev1
            exact (if_pos c3).trans ((if_neg c9).trans (rfl))
      rw [e9]
      exact sp_vret C hAe hP hK hD hS dX2_add_200
    · refine lv_aload_n hx hb dX2_add_143 rfl (lv_at hl 3 rfl) ?_
      refine va_get (D := D) (ci := 2) (v := .ref h1) (C := RX2) (T := TX2) (N := 3) hx hb hts hi2 hown hK hP 0 rfl rfl 0 (by decide) hk0 (fun _ h9 => h9) rfl dX2_add_144 ?_
      refine va_get (D := D) (ci := 1) (v := .long n0.2.2.2.2.2) (C := RX1) (T := TX1) (N := 6) hx hb hts hi1 hown hK hP 1 rfl rfl 5 (by decide) hk10 (fun _ h9 => h9) rfl dX2_add_147 ?_
      refine lv_aload_n hx hb dX2_add_150 rfl (lv_at hl 3 rfl) ?_
      refine va_get (D := D) (ci := 2) (v := .ref h2) (C := RX2) (T := TX2) (N := 3) hx hb hts hi2 hown hK hP 0 rfl rfl 1 (by decide) hk2 (fun _ h9 => h9) rfl dX2_add_151 ?_
      refine va_get (D := D) (ci := 1) (v := .long n1.2.2.2.2.2) (C := RX1) (T := TX1) (N := 6) hx hb hts hi1 hown hK hP 2 rfl rfl 5 (by decide) hk10 (fun _ h9 => h9) rfl dX2_add_154 ?_
      refine sp_callz (sp_runS (As := [.long n0.2.2.2.2.2, .long n1.2.2.2.2.2]) (rest := []) C (c_X2_sumOverflows l D n0.2.2.2.2.2 n1.2.2.2.2.2) (va_cwS 2 hts (gS wG_c wm_136 wm_137 wm_122 wm_135) rfl rfl rfl (by decide +kernel) ⟨Nat.le_of_ble_eq_true rfl, Nat.le_of_ble_eq_true rfl⟩) hK hP hD [] (by decide) rfl [] rfl rfl hl.1 rfl (Nat.le_of_ble_eq_true rfl) dX2_add_157 ⟨Nat.le_of_ble_eq_true rfl, Nat.le_of_ble_eq_true rfl⟩) hP hD hS hA [] rfl sp_f0 (fun H locs z10 hP hD hS => ?_)
      have hP : va_P D vwCl ([(h0, .inr (2, [.ref h1, .ref h2, .ref h3])), (h1, .inr (1, nm_fs n0)), (h2, .inr (1, nm_fs n1)), (h3, .inr (1, nm_fs (f_X1_setUnsigned (f_X1_setBits n2 ((n0.1 + n1.1) &&& (v1 ^^^ (-1))) v1) (n0.2.2.1 + n1.2.2.1) (n0.2.2.2.1 + n1.2.2.2.1))))]) H := hP
      have hD : va_D A ([(h0, .inr (2, [.ref h1, .ref h2, .ref h3])), (h1, .inr (1, nm_fs n0)), (h2, .inr (1, nm_fs n1)), (h3, .inr (1, nm_fs (f_X1_setUnsigned (f_X1_setBits n2 ((n0.1 + n1.1) &&& (v1 ^^^ (-1))) v1) (n0.2.2.1 + n1.2.2.1) (n0.2.2.2.1 + n1.2.2.2.1))))]) := hD
      refine lv_if_ne (tgt := 200) hx hb dX2_add_160 (by decide) (fun c11 => ?_) (fun c11 => ?_)
      · have e9 : f_X2_add n0 n1 n2 = (f_X1_setUnsigned (f_X1_setBits n2 ((n0.1 + n1.1) &&& (v1 ^^^ (-1))) v1) (n0.2.2.1 + n1.2.2.1) (n0.2.2.2.1 + n1.2.2.2.1)) := by
              subst ev1
              exact (if_pos c3).trans ((if_pos c9).trans ((if_neg c11).trans (rfl)))
        rw [e9]
        exact sp_vret C hAe hP hK hD hS dX2_add_200
      · refine lv_aload_n hx hb dX2_add_163 rfl (lv_at hl 3 rfl) ?_
        refine va_get (D := D) (ci := 2) (v := .ref h3) (C := RX2) (T := TX2) (N := 3) hx hb hts hi2 hown hK hP 0 rfl rfl 2 (by decide) hk4 (fun _ h9 => h9) rfl dX2_add_164 ?_
        refine lv_aload_n hx hb dX2_add_167 rfl (lv_at hl 3 rfl) ?_
        refine va_get (D := D) (ci := 2) (v := .ref h1) (C := RX2) (T := TX2) (N := 3) hx hb hts hi2 hown hK hP 0 rfl rfl 0 (by decide) hk0 (fun _ h9 => h9) rfl dX2_add_168 ?_
        refine va_get (D := D) (ci := 1) (v := .long n0.2.2.2.2.1) (C := RX1) (T := TX1) (N := 6) hx hb hts hi1 hown hK hP 1 rfl rfl 4 (by decide) hk9 (fun _ h9 => h9) rfl dX2_add_171 ?_
        refine lv_aload_n hx hb dX2_add_174 rfl (lv_at hl 3 rfl) ?_
        refine va_get (D := D) (ci := 2) (v := .ref h2) (C := RX2) (T := TX2) (N := 3) hx hb hts hi2 hown hK hP 0 rfl rfl 1 (by decide) hk2 (fun _ h9 => h9) rfl dX2_add_175 ?_
        refine va_get (D := D) (ci := 1) (v := .long n1.2.2.2.2.1) (C := RX1) (T := TX1) (N := 6) hx hb hts hi1 hown hK hP 2 rfl rfl 4 (by decide) hk9 (fun _ h9 => h9) rfl dX2_add_178 ?_
        refine lv_ladd hx hb dX2_add_181 ?_
        refine lv_aload_n hx hb dX2_add_182 rfl (lv_at hl 3 rfl) ?_
        refine va_get (D := D) (ci := 2) (v := .ref h1) (C := RX2) (T := TX2) (N := 3) hx hb hts hi2 hown hK hP 0 rfl rfl 0 (by decide) hk0 (fun _ h9 => h9) rfl dX2_add_183 ?_
        refine va_get (D := D) (ci := 1) (v := .long n0.2.2.2.2.2) (C := RX1) (T := TX1) (N := 6) hx hb hts hi1 hown hK hP 1 rfl rfl 5 (by decide) hk10 (fun _ h9 => h9) rfl dX2_add_186 ?_
        refine lv_aload_n hx hb dX2_add_189 rfl (lv_at hl 3 rfl) ?_
        refine va_get (D := D) (ci := 2) (v := .ref h2) (C := RX2) (T := TX2) (N := 3) hx hb hts hi2 hown hK hP 0 rfl rfl 1 (by decide) hk2 (fun _ h9 => h9) rfl dX2_add_190 ?_
        refine va_get (D := D) (ci := 1) (v := .long n1.2.2.2.2.2) (C := RX1) (T := TX1) (N := 6) hx hb hts hi1 hown hK hP 2 rfl rfl 5 (by decide) hk10 (fun _ h9 => h9) rfl dX2_add_193 ?_
        refine lv_ladd hx hb dX2_add_196 ?_
        refine sp_callv (sp_runV (As := [.long (n0.2.2.2.2.1 + n1.2.2.2.2.1), .long (n0.2.2.2.2.2 + n1.2.2.2.2.2)]) (rest := []) C (c_X1_setSigned l D h3 (f_X1_setUnsigned (f_X1_setBits n2 ((n0.1 + n1.1) &&& (v1 ^^^ (-1))) v1) (n0.2.2.1 + n1.2.2.1) (n0.2.2.2.1 + n1.2.2.2.1)) (n0.2.2.2.2.1 + n1.2.2.2.2.1) (n0.2.2.2.2.2 + n1.2.2.2.2.2)) (cwV 2 hts (gV wG_c wm_138 wm_38 wm_39 wm_31 wm_36) rfl rfl rfl (by decide +kernel) ⟨Nat.le_of_ble_eq_true rfl, Nat.le_of_ble_eq_true rfl⟩) hK hP hD [3] (by decide) rfl [] rfl 0 1 rfl rfl rfl rfl hl.1 rfl (Nat.le_of_ble_eq_true rfl) dX2_add_197 ⟨Nat.le_of_ble_eq_true rfl, Nat.le_of_ble_eq_true rfl⟩) hP hD hS hA [3] rfl (sp_fc sp_f0) (fun H locs hP hD hS => ?_)
        have hP : va_P D vwCl ([(h0, .inr (2, [.ref h1, .ref h2, .ref h3])), (h1, .inr (1, nm_fs n0)), (h2, .inr (1, nm_fs n1)), (h3, .inr (1, nm_fs (f_X1_setSigned (f_X1_setUnsigned (f_X1_setBits n2 ((n0.1 + n1.1) &&& (v1 ^^^ (-1))) v1) (n0.2.2.1 + n1.2.2.1) (n0.2.2.2.1 + n1.2.2.2.1)) (n0.2.2.2.2.1 + n1.2.2.2.2.1) (n0.2.2.2.2.2 + n1.2.2.2.2.2))))]) H := hP
        have hD : va_D A ([(h0, .inr (2, [.ref h1, .ref h2, .ref h3])), (h1, .inr (1, nm_fs n0)), (h2, .inr (1, nm_fs n1)), (h3, .inr (1, nm_fs (f_X1_setSigned (f_X1_setUnsigned (f_X1_setBits n2 ((n0.1 + n1.1) &&& (v1 ^^^ (-1))) v1) (n0.2.2.1 + n1.2.2.1) (n0.2.2.2.1 + n1.2.2.2.1)) (n0.2.2.2.2.1 + n1.2.2.2.2.1) (n0.2.2.2.2.2 + n1.2.2.2.2.2))))]) := hD
        have e9 : f_X2_add n0 n1 n2 = (f_X1_setSigned (f_X1_setUnsigned (f_X1_setBits n2 ((n0.1 + n1.1) &&& (v1 ^^^ (-1))) v1) (n0.2.2.1 + n1.2.2.1) (n0.2.2.2.1 + n1.2.2.2.1)) (n0.2.2.2.2.1 + n1.2.2.2.2.1) (n0.2.2.2.2.2 + n1.2.2.2.2.2)) := by
              subst ev1
              exact (if_pos c3).trans ((if_pos c9).trans ((if_pos c11).trans (rfl)))
        rw [e9]
        exact sp_vret C hAe hP hK hD hS dX2_add_200
def f_X2_subtract (n0 : Nm) (n1 : Nm) (n2 : Nm) : Nm :=
  (let v1 : Int64 := ((((n0.1 - n1.1) + n0.2.1) ^^^ ((n0.1 - n1.1) - n1.2.1)) ||| n0.2.1) ||| n1.2.1
  if (f_X0_isAbove n1.2.2.2.1 n0.2.2.1) = 0 then (if (f_X2_differenceOverflows n0.2.2.2.2.1 n1.2.2.2.2.2) = 0 then (if (f_X2_differenceOverflows n0.2.2.2.2.2 n1.2.2.2.2.1) = 0 then (f_X1_setSigned (f_X1_setUnsigned (f_X1_setBits n2 ((n0.1 - n1.1) &&& (v1 ^^^ (-1))) v1) (n0.2.2.1 - n1.2.2.2.1) (n0.2.2.2.1 - n1.2.2.1)) (n0.2.2.2.2.1 - n1.2.2.2.2.2) (n0.2.2.2.2.2 - n1.2.2.2.2.1))
      else (f_X1_setUnsigned (f_X1_setBits n2 ((n0.1 - n1.1) &&& (v1 ^^^ (-1))) v1) (n0.2.2.1 - n1.2.2.2.1) (n0.2.2.2.1 - n1.2.2.1)))
    else (f_X1_setUnsigned (f_X1_setBits n2 ((n0.1 - n1.1) &&& (v1 ^^^ (-1))) v1) (n0.2.2.1 - n1.2.2.2.1) (n0.2.2.2.1 - n1.2.2.1)))
  else if (f_X2_differenceOverflows n0.2.2.2.2.1 n1.2.2.2.2.2) = 0 then (if (f_X2_differenceOverflows n0.2.2.2.2.2 n1.2.2.2.2.1) = 0 then (f_X1_setSigned (f_X1_setBits n2 ((n0.1 - n1.1) &&& (v1 ^^^ (-1))) v1) (n0.2.2.2.2.1 - n1.2.2.2.2.2) (n0.2.2.2.2.2 - n1.2.2.2.2.1))
    else (f_X1_setBits n2 ((n0.1 - n1.1) &&& (v1 ^^^ (-1))) v1))
  else (f_X1_setBits n2 ((n0.1 - n1.1) &&& (v1 ^^^ (-1))) v1))
set_option maxHeartbeats 4000000 in
set_option maxRecDepth 100000 in
theorem c_X2_subtract (l : Launch) (D : va_G) (h0 : Nat) (h1 : Nat) (h2 : Nat) (h3 : Nat) (n0 : Nm) (n1 : Nm) (n2 : Nm) : sp_M l yX2_subtract wsX2_subtract ({ frames := 1, cells := 0, slots := 0, locals := 24 }) D [.ref h0] ([(h0, .inr (2, [.ref h1, .ref h2, .ref h3])), (h1, .inr (1, nm_fs n0)), (h2, .inr (1, nm_fs n1)), (h3, .inr (1, nm_fs n2))]) [] (sp_Qv D ([(h0, .inr (2, [.ref h1, .ref h2, .ref h3])), (h1, .inr (1, nm_fs n0)), (h2, .inr (1, nm_fs n1)), (h3, .inr (1, nm_fs n2))]) ([(h0, .inr (2, [.ref h1, .ref h2, .ref h3])), (h1, .inr (1, nm_fs n0)), (h2, .inr (1, nm_fs n1)), (h3, .inr (1, nm_fs (f_X2_subtract n0 n1 n2)))]) []) := by
  refine sp_ofW (cc := cX2_subtract) (nL := 5) (ret := none) (own := RX2) (by decide) rfl rfl (Nat.le_of_ble_eq_true rfl) ?_
  intro p e s m below meth c A ls hAe hnm C hA hP hK hD hS hl
  have hx := C.1
  have hb := C.2.1
  have hown := C.2.2.2.2.1
  have hts := C.2.2.2.2.2.1
  have hl : lv_has ls 5 [(0, .ref h0)] := hl
  have hi1 : ∀ w ∈ u_ws RX1 TX1 6, w ∈ wsX2_subtract := fun w h => List.mem_cons_of_mem _ (inX1 w h)
  have hi2 : ∀ w ∈ u_ws RX2 TX2 3, w ∈ wsX2_subtract := fun w h => List.mem_cons_of_mem _ (inX2 w h)
  have hk0 := hts _ (List.mem_cons_of_mem _ wm_108)
  have hk1 := hts _ (List.mem_cons_of_mem _ wm_140)
  have hk2 := hts _ (List.mem_cons_of_mem _ wm_109)
  have hk3 := hts _ (List.mem_cons_of_mem _ wm_141)
  have hk4 := hts _ (List.mem_cons_of_mem _ wm_110)
  have hk5 := hts _ (List.mem_cons_of_mem _ wm_130)
  have hk6 := hts _ (List.mem_cons_of_mem _ wm_142)
  have hk7 := hts _ (List.mem_cons_of_mem _ wm_145)
  have hk8 := hts _ (List.mem_cons_of_mem _ wm_4)
  have hk9 := hts _ (List.mem_cons_of_mem _ wm_3)
  have hk10 := hts _ (List.mem_cons_of_mem _ wm_143)
  have hk11 := hts _ (List.mem_cons_of_mem _ wm_144)
  refine lv_aload_n hx hb dX2_subtract_0 rfl (lv_at hl 0 rfl) ?_
  refine va_get (D := D) (ci := 2) (v := .ref h1) (C := RX2) (T := TX2) (N := 3) hx hb hts hi2 hown hK hP 0 rfl rfl 0 (by decide) hk0 (fun _ h9 => h9) rfl dX2_subtract_1 ?_
  refine va_get (D := D) (ci := 1) (v := .long n0.1) (C := RX1) (T := TX1) (N := 6) hx hb hts hi1 hown hK hP 1 rfl rfl 0 (by decide) hk1 (fun _ h9 => h9) rfl dX2_subtract_4 ?_
  refine lv_aload_n hx hb dX2_subtract_7 rfl (lv_at hl 0 rfl) ?_
  refine va_get (D := D) (ci := 2) (v := .ref h2) (C := RX2) (T := TX2) (N := 3) hx hb hts hi2 hown hK hP 0 rfl rfl 1 (by decide) hk2 (fun _ h9 => h9) rfl dX2_subtract_8 ?_
  refine va_get (D := D) (ci := 1) (v := .long n1.1) (C := RX1) (T := TX1) (N := 6) hx hb hts hi1 hown hK hP 2 rfl rfl 0 (by decide) hk1 (fun _ h9 => h9) rfl dX2_subtract_11 ?_
  refine lv_lsub hx hb dX2_subtract_14 ?_
  refine lv_lstore_n (lv' := [(1, .long (n0.1 - n1.1)), (0, .ref h0)]) hx hb dX2_subtract_15 rfl hl (by decide) rfl (fun ls hl => ?_)
  refine lv_lload_n hx hb dX2_subtract_16 rfl (lv_at hl 0 rfl) ?_
  refine lv_aload_n hx hb dX2_subtract_17 rfl (lv_at hl 1 rfl) ?_
  refine va_get (D := D) (ci := 2) (v := .ref h1) (C := RX2) (T := TX2) (N := 3) hx hb hts hi2 hown hK hP 0 rfl rfl 0 (by decide) hk0 (fun _ h9 => h9) rfl dX2_subtract_18 ?_
  refine va_get (D := D) (ci := 1) (v := .long n0.2.1) (C := RX1) (T := TX1) (N := 6) hx hb hts hi1 hown hK hP 1 rfl rfl 1 (by decide) hk3 (fun _ h9 => h9) rfl dX2_subtract_21 ?_
  refine lv_ladd hx hb dX2_subtract_24 ?_
  refine lv_lload_n hx hb dX2_subtract_25 rfl (lv_at hl 0 rfl) ?_
  refine lv_aload_n hx hb dX2_subtract_26 rfl (lv_at hl 1 rfl) ?_
  refine va_get (D := D) (ci := 2) (v := .ref h2) (C := RX2) (T := TX2) (N := 3) hx hb hts hi2 hown hK hP 0 rfl rfl 1 (by decide) hk2 (fun _ h9 => h9) rfl dX2_subtract_27 ?_
  refine va_get (D := D) (ci := 1) (v := .long n1.2.1) (C := RX1) (T := TX1) (N := 6) hx hb hts hi1 hown hK hP 2 rfl rfl 1 (by decide) hk3 (fun _ h9 => h9) rfl dX2_subtract_30 ?_
  refine lv_lsub hx hb dX2_subtract_33 ?_
  refine lv_lxor hx hb dX2_subtract_34 ?_
  refine lv_aload_n hx hb dX2_subtract_35 rfl (lv_at hl 1 rfl) ?_
  refine va_get (D := D) (ci := 2) (v := .ref h1) (C := RX2) (T := TX2) (N := 3) hx hb hts hi2 hown hK hP 0 rfl rfl 0 (by decide) hk0 (fun _ h9 => h9) rfl dX2_subtract_36 ?_
  refine va_get (D := D) (ci := 1) (v := .long n0.2.1) (C := RX1) (T := TX1) (N := 6) hx hb hts hi1 hown hK hP 1 rfl rfl 1 (by decide) hk3 (fun _ h9 => h9) rfl dX2_subtract_39 ?_
  refine lv_lor hx hb dX2_subtract_42 ?_
  refine lv_aload_n hx hb dX2_subtract_43 rfl (lv_at hl 1 rfl) ?_
  refine va_get (D := D) (ci := 2) (v := .ref h2) (C := RX2) (T := TX2) (N := 3) hx hb hts hi2 hown hK hP 0 rfl rfl 1 (by decide) hk2 (fun _ h9 => h9) rfl dX2_subtract_44 ?_
  refine va_get (D := D) (ci := 1) (v := .long n1.2.1) (C := RX1) (T := TX1) (N := 6) hx hb hts hi1 hown hK hP 2 rfl rfl 1 (by decide) hk3 (fun _ h9 => h9) rfl dX2_subtract_47 ?_
  refine lv_lor hx hb dX2_subtract_50 ?_
  refine lv_topl (fun v1 ev1 => ?_)
  refine lv_lstore_n (lv' := [(3, .long v1), (1, .long (n0.1 - n1.1)), (0, .ref h0)]) hx hb dX2_subtract_51 rfl hl (by decide) rfl (fun ls hl => ?_)
  refine lv_aload_n hx hb dX2_subtract_52 rfl (lv_at hl 2 rfl) ?_
  refine va_get (D := D) (ci := 2) (v := .ref h3) (C := RX2) (T := TX2) (N := 3) hx hb hts hi2 hown hK hP 0 rfl rfl 2 (by decide) hk4 (fun _ h9 => h9) rfl dX2_subtract_53 ?_
  refine lv_lload_n hx hb dX2_subtract_56 rfl (lv_at hl 1 rfl) ?_
  refine lv_lload_n hx hb dX2_subtract_57 rfl (lv_at hl 0 rfl) ?_
  refine lv_ldc2 (v := (-1)) hx hb hown hk5 dX2_subtract_58 ?_
  refine lv_lxor hx hb dX2_subtract_61 ?_
  refine lv_land hx hb dX2_subtract_62 ?_
  refine lv_lload_n hx hb dX2_subtract_63 rfl (lv_at hl 0 rfl) ?_
  refine sp_callv (sp_runV (As := [.long ((n0.1 - n1.1) &&& (v1 ^^^ (-1))), .long v1]) (rest := []) C (c_X1_setBits l D h3 n2 ((n0.1 - n1.1) &&& (v1 ^^^ (-1))) v1) (cwV 2 hts (gV wG_c wm_134 wm_29 wm_30 wm_31 wm_27) rfl rfl rfl (by decide +kernel) ⟨Nat.le_of_ble_eq_true rfl, Nat.le_of_ble_eq_true rfl⟩) hK hP hD [3] (by decide) rfl [] rfl 0 1 rfl rfl rfl rfl hl.1 rfl (Nat.le_of_ble_eq_true rfl) dX2_subtract_64 ⟨Nat.le_of_ble_eq_true rfl, Nat.le_of_ble_eq_true rfl⟩) hP hD hS hA [3] rfl (sp_fc sp_f0) (fun H locs hP hD hS => ?_)
  have hP : va_P D vwCl ([(h0, .inr (2, [.ref h1, .ref h2, .ref h3])), (h1, .inr (1, nm_fs n0)), (h2, .inr (1, nm_fs n1)), (h3, .inr (1, nm_fs (f_X1_setBits n2 ((n0.1 - n1.1) &&& (v1 ^^^ (-1))) v1)))]) H := hP
  have hD : va_D A ([(h0, .inr (2, [.ref h1, .ref h2, .ref h3])), (h1, .inr (1, nm_fs n0)), (h2, .inr (1, nm_fs n1)), (h3, .inr (1, nm_fs (f_X1_setBits n2 ((n0.1 - n1.1) &&& (v1 ^^^ (-1))) v1)))]) := hD
  refine lv_aload_n hx hb dX2_subtract_67 rfl (lv_at hl 2 rfl) ?_
  refine va_get (D := D) (ci := 2) (v := .ref h2) (C := RX2) (T := TX2) (N := 3) hx hb hts hi2 hown hK hP 0 rfl rfl 1 (by decide) hk2 (fun _ h9 => h9) rfl dX2_subtract_68 ?_
  refine va_get (D := D) (ci := 1) (v := .long n1.2.2.2.1) (C := RX1) (T := TX1) (N := 6) hx hb hts hi1 hown hK hP 2 rfl rfl 3 (by decide) hk6 (fun _ h9 => h9) rfl dX2_subtract_71 ?_
  refine lv_aload_n hx hb dX2_subtract_74 rfl (lv_at hl 2 rfl) ?_
  refine va_get (D := D) (ci := 2) (v := .ref h1) (C := RX2) (T := TX2) (N := 3) hx hb hts hi2 hown hK hP 0 rfl rfl 0 (by decide) hk0 (fun _ h9 => h9) rfl dX2_subtract_75 ?_
  refine va_get (D := D) (ci := 1) (v := .long n0.2.2.1) (C := RX1) (T := TX1) (N := 6) hx hb hts hi1 hown hK hP 1 rfl rfl 2 (by decide) hk7 (fun _ h9 => h9) rfl dX2_subtract_78 ?_
  refine sp_callz (sp_runSN (As := [.long n1.2.2.2.1, .long n0.2.2.1]) (rest := []) C (c_X0_isAbove l D n1.2.2.2.1 n0.2.2.1) ⟨va_cnB 2 hts (gG wG_c wm_1) rfl rfl rfl (C.2.2.2.2.2.2.2.1 (RX2, 99, yX0_isAbove, "RangeDesk") (List.mem_of_getElem? (i := 5) rfl)) hk8 (by decide +kernel) ⟨Nat.le_of_ble_eq_true rfl, Nat.le_of_ble_eq_true rfl⟩, hk9, trivial⟩ hK hP hD [] (by decide) rfl [] rfl rfl hl.1 rfl (Nat.le_of_ble_eq_true rfl) dX2_subtract_81 ⟨Nat.le_of_ble_eq_true rfl, Nat.le_of_ble_eq_true rfl⟩) hP hD hS hA [] rfl sp_f0 (fun H locs z2 hP hD hS => ?_)
  have hP : va_P D vwCl ([(h0, .inr (2, [.ref h1, .ref h2, .ref h3])), (h1, .inr (1, nm_fs n0)), (h2, .inr (1, nm_fs n1)), (h3, .inr (1, nm_fs (f_X1_setBits n2 ((n0.1 - n1.1) &&& (v1 ^^^ (-1))) v1)))]) H := hP
  have hD : va_D A ([(h0, .inr (2, [.ref h1, .ref h2, .ref h3])), (h1, .inr (1, nm_fs n0)), (h2, .inr (1, nm_fs n1)), (h3, .inr (1, nm_fs (f_X1_setBits n2 ((n0.1 - n1.1) &&& (v1 ^^^ (-1))) v1)))]) := hD
  refine lv_if_ne (tgt := 124) hx hb dX2_subtract_84 (by decide) (fun c3 => ?_) (fun c3 => ?_)
  · refine lv_aload_n hx hb dX2_subtract_124 rfl (lv_at hl 2 rfl) ?_
    refine va_get (D := D) (ci := 2) (v := .ref h1) (C := RX2) (T := TX2) (N := 3) hx hb hts hi2 hown hK hP 0 rfl rfl 0 (by decide) hk0 (fun _ h9 => h9) rfl dX2_subtract_125 ?_
    refine va_get (D := D) (ci := 1) (v := .long n0.2.2.2.2.1) (C := RX1) (T := TX1) (N := 6) hx hb hts hi1 hown hK hP 1 rfl rfl 4 (by decide) hk10 (fun _ h9 => h9) rfl dX2_subtract_128 ?_
    refine lv_aload_n hx hb dX2_subtract_131 rfl (lv_at hl 2 rfl) ?_
    refine va_get (D := D) (ci := 2) (v := .ref h2) (C := RX2) (T := TX2) (N := 3) hx hb hts hi2 hown hK hP 0 rfl rfl 1 (by decide) hk2 (fun _ h9 => h9) rfl dX2_subtract_132 ?_
    refine va_get (D := D) (ci := 1) (v := .long n1.2.2.2.2.2) (C := RX1) (T := TX1) (N := 6) hx hb hts hi1 hown hK hP 2 rfl rfl 5 (by decide) hk11 (fun _ h9 => h9) rfl dX2_subtract_135 ?_
    refine sp_callz (sp_runS (As := [.long n0.2.2.2.2.1, .long n1.2.2.2.2.2]) (rest := []) C (c_X2_differenceOverflows l D n0.2.2.2.2.1 n1.2.2.2.2.2) (va_cwS 2 hts (gS wG_c wm_147 wm_148 wm_122 wm_146) rfl rfl rfl (by decide +kernel) ⟨Nat.le_of_ble_eq_true rfl, Nat.le_of_ble_eq_true rfl⟩) hK hP hD [] (by decide) rfl [] rfl rfl hl.1 rfl (Nat.le_of_ble_eq_true rfl) dX2_subtract_138 ⟨Nat.le_of_ble_eq_true rfl, Nat.le_of_ble_eq_true rfl⟩) hP hD hS hA [] rfl sp_f0 (fun H locs z4 hP hD hS => ?_)
    have hP : va_P D vwCl ([(h0, .inr (2, [.ref h1, .ref h2, .ref h3])), (h1, .inr (1, nm_fs n0)), (h2, .inr (1, nm_fs n1)), (h3, .inr (1, nm_fs (f_X1_setBits n2 ((n0.1 - n1.1) &&& (v1 ^^^ (-1))) v1)))]) H := hP
    have hD : va_D A ([(h0, .inr (2, [.ref h1, .ref h2, .ref h3])), (h1, .inr (1, nm_fs n0)), (h2, .inr (1, nm_fs n1)), (h3, .inr (1, nm_fs (f_X1_setBits n2 ((n0.1 - n1.1) &&& (v1 ^^^ (-1))) v1)))]) := hD
    refine lv_if_ne (tgt := 201) hx hb dX2_subtract_141 (by decide) (fun c5 => ?_) (fun c5 => ?_)
    · have e9 : f_X2_subtract n0 n1 n2 = (f_X1_setBits n2 ((n0.1 - n1.1) &&& (v1 ^^^ (-1))) v1) := by
            subst ev1
            exact (if_neg c3).trans ((if_neg c5).trans (rfl))
      rw [e9]
      exact sp_vret C hAe hP hK hD hS dX2_subtract_201
    · refine lv_aload_n hx hb dX2_subtract_144 rfl (lv_at hl 2 rfl) ?_
      refine va_get (D := D) (ci := 2) (v := .ref h1) (C := RX2) (T := TX2) (N := 3) hx hb hts hi2 hown hK hP 0 rfl rfl 0 (by decide) hk0 (fun _ h9 => h9) rfl dX2_subtract_145 ?_
      refine va_get (D := D) (ci := 1) (v := .long n0.2.2.2.2.2) (C := RX1) (T := TX1) (N := 6) hx hb hts hi1 hown hK hP 1 rfl rfl 5 (by decide) hk11 (fun _ h9 => h9) rfl dX2_subtract_148 ?_
      refine lv_aload_n hx hb dX2_subtract_151 rfl (lv_at hl 2 rfl) ?_
      refine va_get (D := D) (ci := 2) (v := .ref h2) (C := RX2) (T := TX2) (N := 3) hx hb hts hi2 hown hK hP 0 rfl rfl 1 (by decide) hk2 (fun _ h9 => h9) rfl dX2_subtract_152 ?_
      refine va_get (D := D) (ci := 1) (v := .long n1.2.2.2.2.1) (C := RX1) (T := TX1) (N := 6) hx hb hts hi1 hown hK hP 2 rfl rfl 4 (by decide) hk10 (fun _ h9 => h9) rfl dX2_subtract_155 ?_
      refine sp_callz (sp_runS (As := [.long n0.2.2.2.2.2, .long n1.2.2.2.2.1]) (rest := []) C (c_X2_differenceOverflows l D n0.2.2.2.2.2 n1.2.2.2.2.1) (va_cwS 2 hts (gS wG_c wm_147 wm_148 wm_122 wm_146) rfl rfl rfl (by decide +kernel) ⟨Nat.le_of_ble_eq_true rfl, Nat.le_of_ble_eq_true rfl⟩) hK hP hD [] (by decide) rfl [] rfl rfl hl.1 rfl (Nat.le_of_ble_eq_true rfl) dX2_subtract_158 ⟨Nat.le_of_ble_eq_true rfl, Nat.le_of_ble_eq_true rfl⟩) hP hD hS hA [] rfl sp_f0 (fun H locs z6 hP hD hS => ?_)
      have hP : va_P D vwCl ([(h0, .inr (2, [.ref h1, .ref h2, .ref h3])), (h1, .inr (1, nm_fs n0)), (h2, .inr (1, nm_fs n1)), (h3, .inr (1, nm_fs (f_X1_setBits n2 ((n0.1 - n1.1) &&& (v1 ^^^ (-1))) v1)))]) H := hP
      have hD : va_D A ([(h0, .inr (2, [.ref h1, .ref h2, .ref h3])), (h1, .inr (1, nm_fs n0)), (h2, .inr (1, nm_fs n1)), (h3, .inr (1, nm_fs (f_X1_setBits n2 ((n0.1 - n1.1) &&& (v1 ^^^ (-1))) v1)))]) := hD
      refine lv_if_ne (tgt := 201) hx hb dX2_subtract_161 (by decide) (fun c7 => ?_) (fun c7 => ?_)
      · have e9 : f_X2_subtract n0 n1 n2 = (f_X1_setBits n2 ((n0.1 - n1.1) &&& (v1 ^^^ (-1))) v1) := by
              subst ev1
              exact (if_neg c3).trans ((if_pos c5).trans ((if_neg c7).trans (rfl)))
        rw [e9]
        exact sp_vret C hAe hP hK hD hS dX2_subtract_201
      · refine lv_aload_n hx hb dX2_subtract_164 rfl (lv_at hl 2 rfl) ?_
        refine va_get (D := D) (ci := 2) (v := .ref h3) (C := RX2) (T := TX2) (N := 3) hx hb hts hi2 hown hK hP 0 rfl rfl 2 (by decide) hk4 (fun _ h9 => h9) rfl dX2_subtract_165 ?_
        refine lv_aload_n hx hb dX2_subtract_168 rfl (lv_at hl 2 rfl) ?_
        refine va_get (D := D) (ci := 2) (v := .ref h1) (C := RX2) (T := TX2) (N := 3) hx hb hts hi2 hown hK hP 0 rfl rfl 0 (by decide) hk0 (fun _ h9 => h9) rfl dX2_subtract_169 ?_
        refine va_get (D := D) (ci := 1) (v := .long n0.2.2.2.2.1) (C := RX1) (T := TX1) (N := 6) hx hb hts hi1 hown hK hP 1 rfl rfl 4 (by decide) hk10 (fun _ h9 => h9) rfl dX2_subtract_172 ?_
        refine lv_aload_n hx hb dX2_subtract_175 rfl (lv_at hl 2 rfl) ?_
        refine va_get (D := D) (ci := 2) (v := .ref h2) (C := RX2) (T := TX2) (N := 3) hx hb hts hi2 hown hK hP 0 rfl rfl 1 (by decide) hk2 (fun _ h9 => h9) rfl dX2_subtract_176 ?_
        refine va_get (D := D) (ci := 1) (v := .long n1.2.2.2.2.2) (C := RX1) (T := TX1) (N := 6) hx hb hts hi1 hown hK hP 2 rfl rfl 5 (by decide) hk11 (fun _ h9 => h9) rfl dX2_subtract_179 ?_
        refine lv_lsub hx hb dX2_subtract_182 ?_
        refine lv_aload_n hx hb dX2_subtract_183 rfl (lv_at hl 2 rfl) ?_
        refine va_get (D := D) (ci := 2) (v := .ref h1) (C := RX2) (T := TX2) (N := 3) hx hb hts hi2 hown hK hP 0 rfl rfl 0 (by decide) hk0 (fun _ h9 => h9) rfl dX2_subtract_184 ?_
        refine va_get (D := D) (ci := 1) (v := .long n0.2.2.2.2.2) (C := RX1) (T := TX1) (N := 6) hx hb hts hi1 hown hK hP 1 rfl rfl 5 (by decide) hk11 (fun _ h9 => h9) rfl dX2_subtract_187 ?_
        refine lv_aload_n hx hb dX2_subtract_190 rfl (lv_at hl 2 rfl) ?_
        refine va_get (D := D) (ci := 2) (v := .ref h2) (C := RX2) (T := TX2) (N := 3) hx hb hts hi2 hown hK hP 0 rfl rfl 1 (by decide) hk2 (fun _ h9 => h9) rfl dX2_subtract_191 ?_
        refine va_get (D := D) (ci := 1) (v := .long n1.2.2.2.2.1) (C := RX1) (T := TX1) (N := 6) hx hb hts hi1 hown hK hP 2 rfl rfl 4 (by decide) hk10 (fun _ h9 => h9) rfl dX2_subtract_194 ?_
        refine lv_lsub hx hb dX2_subtract_197 ?_
        refine sp_callv (sp_runV (As := [.long (n0.2.2.2.2.1 - n1.2.2.2.2.2), .long (n0.2.2.2.2.2 - n1.2.2.2.2.1)]) (rest := []) C (c_X1_setSigned l D h3 (f_X1_setBits n2 ((n0.1 - n1.1) &&& (v1 ^^^ (-1))) v1) (n0.2.2.2.2.1 - n1.2.2.2.2.2) (n0.2.2.2.2.2 - n1.2.2.2.2.1)) (cwV 2 hts (gV wG_c wm_138 wm_38 wm_39 wm_31 wm_36) rfl rfl rfl (by decide +kernel) ⟨Nat.le_of_ble_eq_true rfl, Nat.le_of_ble_eq_true rfl⟩) hK hP hD [3] (by decide) rfl [] rfl 0 1 rfl rfl rfl rfl hl.1 rfl (Nat.le_of_ble_eq_true rfl) dX2_subtract_198 ⟨Nat.le_of_ble_eq_true rfl, Nat.le_of_ble_eq_true rfl⟩) hP hD hS hA [3] rfl (sp_fc sp_f0) (fun H locs hP hD hS => ?_)
        have hP : va_P D vwCl ([(h0, .inr (2, [.ref h1, .ref h2, .ref h3])), (h1, .inr (1, nm_fs n0)), (h2, .inr (1, nm_fs n1)), (h3, .inr (1, nm_fs (f_X1_setSigned (f_X1_setBits n2 ((n0.1 - n1.1) &&& (v1 ^^^ (-1))) v1) (n0.2.2.2.2.1 - n1.2.2.2.2.2) (n0.2.2.2.2.2 - n1.2.2.2.2.1))))]) H := hP
        have hD : va_D A ([(h0, .inr (2, [.ref h1, .ref h2, .ref h3])), (h1, .inr (1, nm_fs n0)), (h2, .inr (1, nm_fs n1)), (h3, .inr (1, nm_fs (f_X1_setSigned (f_X1_setBits n2 ((n0.1 - n1.1) &&& (v1 ^^^ (-1))) v1) (n0.2.2.2.2.1 - n1.2.2.2.2.2) (n0.2.2.2.2.2 - n1.2.2.2.2.1))))]) := hD
        have e9 : f_X2_subtract n0 n1 n2 = (f_X1_setSigned (f_X1_setBits n2 ((n0.1 - n1.1) &&& (v1 ^^^ (-1))) v1) (n0.2.2.2.2.1 - n1.2.2.2.2.2) (n0.2.2.2.2.2 - n1.2.2.2.2.1)) := by
              subst ev1
              exact (if_neg c3).trans ((if_pos c5).trans ((if_pos c7).trans (rfl)))
        rw [e9]
        exact sp_vret C hAe hP hK hD hS dX2_subtract_201
  · refine lv_aload_n hx hb dX2_subtract_87 rfl (lv_at hl 2 rfl) ?_
    refine va_get (D := D) (ci := 2) (v := .ref h3) (C := RX2) (T := TX2) (N := 3) hx hb hts hi2 hown hK hP 0 rfl rfl 2 (by decide) hk4 (fun _ h9 => h9) rfl dX2_subtract_88 ?_
    refine lv_aload_n hx hb dX2_subtract_91 rfl (lv_at hl 2 rfl) ?_
    refine va_get (D := D) (ci := 2) (v := .ref h1) (C := RX2) (T := TX2) (N := 3) hx hb hts hi2 hown hK hP 0 rfl rfl 0 (by decide) hk0 (fun _ h9 => h9) rfl dX2_subtract_92 ?_
    refine va_get (D := D) (ci := 1) (v := .long n0.2.2.1) (C := RX1) (T := TX1) (N := 6) hx hb hts hi1 hown hK hP 1 rfl rfl 2 (by decide) hk7 (fun _ h9 => h9) rfl dX2_subtract_95 ?_
    refine lv_aload_n hx hb dX2_subtract_98 rfl (lv_at hl 2 rfl) ?_
    refine va_get (D := D) (ci := 2) (v := .ref h2) (C := RX2) (T := TX2) (N := 3) hx hb hts hi2 hown hK hP 0 rfl rfl 1 (by decide) hk2 (fun _ h9 => h9) rfl dX2_subtract_99 ?_
    refine va_get (D := D) (ci := 1) (v := .long n1.2.2.2.1) (C := RX1) (T := TX1) (N := 6) hx hb hts hi1 hown hK hP 2 rfl rfl 3 (by decide) hk6 (fun _ h9 => h9) rfl dX2_subtract_102 ?_
    refine lv_lsub hx hb dX2_subtract_105 ?_
    refine lv_aload_n hx hb dX2_subtract_106 rfl (lv_at hl 2 rfl) ?_
    refine va_get (D := D) (ci := 2) (v := .ref h1) (C := RX2) (T := TX2) (N := 3) hx hb hts hi2 hown hK hP 0 rfl rfl 0 (by decide) hk0 (fun _ h9 => h9) rfl dX2_subtract_107 ?_
    refine va_get (D := D) (ci := 1) (v := .long n0.2.2.2.1) (C := RX1) (T := TX1) (N := 6) hx hb hts hi1 hown hK hP 1 rfl rfl 3 (by decide) hk6 (fun _ h9 => h9) rfl dX2_subtract_110 ?_
    refine lv_aload_n hx hb dX2_subtract_113 rfl (lv_at hl 2 rfl) ?_
    refine va_get (D := D) (ci := 2) (v := .ref h2) (C := RX2) (T := TX2) (N := 3) hx hb hts hi2 hown hK hP 0 rfl rfl 1 (by decide) hk2 (fun _ h9 => h9) rfl dX2_subtract_114 ?_
    refine va_get (D := D) (ci := 1) (v := .long n1.2.2.1) (C := RX1) (T := TX1) (N := 6) hx hb hts hi1 hown hK hP 2 rfl rfl 2 (by decide) hk7 (fun _ h9 => h9) rfl dX2_subtract_117 ?_
    refine lv_lsub hx hb dX2_subtract_120 ?_
    refine sp_callv (sp_runV (As := [.long (n0.2.2.1 - n1.2.2.2.1), .long (n0.2.2.2.1 - n1.2.2.1)]) (rest := []) C (c_X1_setUnsigned l D h3 (f_X1_setBits n2 ((n0.1 - n1.1) &&& (v1 ^^^ (-1))) v1) (n0.2.2.1 - n1.2.2.2.1) (n0.2.2.2.1 - n1.2.2.1)) (cwV 2 hts (gV wG_c wm_139 wm_34 wm_35 wm_31 wm_32) rfl rfl rfl (by decide +kernel) ⟨Nat.le_of_ble_eq_true rfl, Nat.le_of_ble_eq_true rfl⟩) hK hP hD [3] (by decide) rfl [] rfl 0 1 rfl rfl rfl rfl hl.1 rfl (Nat.le_of_ble_eq_true rfl) dX2_subtract_121 ⟨Nat.le_of_ble_eq_true rfl, Nat.le_of_ble_eq_true rfl⟩) hP hD hS hA [3] rfl (sp_fc sp_f0) (fun H locs hP hD hS => ?_)
    have hP : va_P D vwCl ([(h0, .inr (2, [.ref h1, .ref h2, .ref h3])), (h1, .inr (1, nm_fs n0)), (h2, .inr (1, nm_fs n1)), (h3, .inr (1, nm_fs (f_X1_setUnsigned (f_X1_setBits n2 ((n0.1 - n1.1) &&& (v1 ^^^ (-1))) v1) (n0.2.2.1 - n1.2.2.2.1) (n0.2.2.2.1 - n1.2.2.1))))]) H := hP
    have hD : va_D A ([(h0, .inr (2, [.ref h1, .ref h2, .ref h3])), (h1, .inr (1, nm_fs n0)), (h2, .inr (1, nm_fs n1)), (h3, .inr (1, nm_fs (f_X1_setUnsigned (f_X1_setBits n2 ((n0.1 - n1.1) &&& (v1 ^^^ (-1))) v1) (n0.2.2.1 - n1.2.2.2.1) (n0.2.2.2.1 - n1.2.2.1))))]) := hD
    refine lv_aload_n hx hb dX2_subtract_124 rfl (lv_at hl 2 rfl) ?_
    refine va_get (D := D) (ci := 2) (v := .ref h1) (C := RX2) (T := TX2) (N := 3) hx hb hts hi2 hown hK hP 0 rfl rfl 0 (by decide) hk0 (fun _ h9 => h9) rfl dX2_subtract_125 ?_
    refine va_get (D := D) (ci := 1) (v := .long n0.2.2.2.2.1) (C := RX1) (T := TX1) (N := 6) hx hb hts hi1 hown hK hP 1 rfl rfl 4 (by decide) hk10 (fun _ h9 => h9) rfl dX2_subtract_128 ?_
    refine lv_aload_n hx hb dX2_subtract_131 rfl (lv_at hl 2 rfl) ?_
    refine va_get (D := D) (ci := 2) (v := .ref h2) (C := RX2) (T := TX2) (N := 3) hx hb hts hi2 hown hK hP 0 rfl rfl 1 (by decide) hk2 (fun _ h9 => h9) rfl dX2_subtract_132 ?_
    refine va_get (D := D) (ci := 1) (v := .long n1.2.2.2.2.2) (C := RX1) (T := TX1) (N := 6) hx hb hts hi1 hown hK hP 2 rfl rfl 5 (by decide) hk11 (fun _ h9 => h9) rfl dX2_subtract_135 ?_
    refine sp_callz (sp_runS (As := [.long n0.2.2.2.2.1, .long n1.2.2.2.2.2]) (rest := []) C (c_X2_differenceOverflows l D n0.2.2.2.2.1 n1.2.2.2.2.2) (va_cwS 2 hts (gS wG_c wm_147 wm_148 wm_122 wm_146) rfl rfl rfl (by decide +kernel) ⟨Nat.le_of_ble_eq_true rfl, Nat.le_of_ble_eq_true rfl⟩) hK hP hD [] (by decide) rfl [] rfl rfl hl.1 rfl (Nat.le_of_ble_eq_true rfl) dX2_subtract_138 ⟨Nat.le_of_ble_eq_true rfl, Nat.le_of_ble_eq_true rfl⟩) hP hD hS hA [] rfl sp_f0 (fun H locs z8 hP hD hS => ?_)
    have hP : va_P D vwCl ([(h0, .inr (2, [.ref h1, .ref h2, .ref h3])), (h1, .inr (1, nm_fs n0)), (h2, .inr (1, nm_fs n1)), (h3, .inr (1, nm_fs (f_X1_setUnsigned (f_X1_setBits n2 ((n0.1 - n1.1) &&& (v1 ^^^ (-1))) v1) (n0.2.2.1 - n1.2.2.2.1) (n0.2.2.2.1 - n1.2.2.1))))]) H := hP
    have hD : va_D A ([(h0, .inr (2, [.ref h1, .ref h2, .ref h3])), (h1, .inr (1, nm_fs n0)), (h2, .inr (1, nm_fs n1)), (h3, .inr (1, nm_fs (f_X1_setUnsigned (f_X1_setBits n2 ((n0.1 - n1.1) &&& (v1 ^^^ (-1))) v1) (n0.2.2.1 - n1.2.2.2.1) (n0.2.2.2.1 - n1.2.2.1))))]) := hD
    refine lv_if_ne (tgt := 201) hx hb dX2_subtract_141 (by decide) (fun c9 => ?_) (fun c9 => ?_)
    · have e9 : f_X2_subtract n0 n1 n2 = (f_X1_setUnsigned (f_X1_setBits n2 ((n0.1 - n1.1) &&& (v1 ^^^ (-1))) v1) (n0.2.2.1 - n1.2.2.2.1) (n0.2.2.2.1 - n1.2.2.1)) := by
            subst ev1
            exact (if_pos c3).trans ((if_neg c9).trans (rfl))
      rw [e9]
      exact sp_vret C hAe hP hK hD hS dX2_subtract_201
    · refine lv_aload_n hx hb dX2_subtract_144 rfl (lv_at hl 2 rfl) ?_
      refine va_get (D := D) (ci := 2) (v := .ref h1) (C := RX2) (T := TX2) (N := 3) hx hb hts hi2 hown hK hP 0 rfl rfl 0 (by decide) hk0 (fun _ h9 => h9) rfl dX2_subtract_145 ?_
      refine va_get (D := D) (ci := 1) (v := .long n0.2.2.2.2.2) (C := RX1) (T := TX1) (N := 6) hx hb hts hi1 hown hK hP 1 rfl rfl 5 (by decide) hk11 (fun _ h9 => h9) rfl dX2_subtract_148 ?_
      refine lv_aload_n hx hb dX2_subtract_151 rfl (lv_at hl 2 rfl) ?_
      refine va_get (D := D) (ci := 2) (v := .ref h2) (C := RX2) (T := TX2) (N := 3) hx hb hts hi2 hown hK hP 0 rfl rfl 1 (by decide) hk2 (fun _ h9 => h9) rfl dX2_subtract_152 ?_
      refine va_get (D := D) (ci := 1) (v := .long n1.2.2.2.2.1) (C := RX1) (T := TX1) (N := 6) hx hb hts hi1 hown hK hP 2 rfl rfl 4 (by decide) hk10 (fun _ h9 => h9) rfl dX2_subtract_155 ?_
      refine sp_callz (sp_runS (As := [.long n0.2.2.2.2.2, .long n1.2.2.2.2.1]) (rest := []) C (c_X2_differenceOverflows l D n0.2.2.2.2.2 n1.2.2.2.2.1) (va_cwS 2 hts (gS wG_c wm_147 wm_148 wm_122 wm_146) rfl rfl rfl (by decide +kernel) ⟨Nat.le_of_ble_eq_true rfl, Nat.le_of_ble_eq_true rfl⟩) hK hP hD [] (by decide) rfl [] rfl rfl hl.1 rfl (Nat.le_of_ble_eq_true rfl) dX2_subtract_158 ⟨Nat.le_of_ble_eq_true rfl, Nat.le_of_ble_eq_true rfl⟩) hP hD hS hA [] rfl sp_f0 (fun H locs z10 hP hD hS => ?_)
      have hP : va_P D vwCl ([(h0, .inr (2, [.ref h1, .ref h2, .ref h3])), (h1, .inr (1, nm_fs n0)), (h2, .inr (1, nm_fs n1)), (h3, .inr (1, nm_fs (f_X1_setUnsigned (f_X1_setBits n2 ((n0.1 - n1.1) &&& (v1 ^^^ (-1))) v1) (n0.2.2.1 - n1.2.2.2.1) (n0.2.2.2.1 - n1.2.2.1))))]) H := hP
      have hD : va_D A ([(h0, .inr (2, [.ref h1, .ref h2, .ref h3])), (h1, .inr (1, nm_fs n0)), (h2, .inr (1, nm_fs n1)), (h3, .inr (1, nm_fs (f_X1_setUnsigned (f_X1_setBits n2 ((n0.1 - n1.1) &&& (v1 ^^^ (-1))) v1) (n0.2.2.1 - n1.2.2.2.1) (n0.2.2.2.1 - n1.2.2.1))))]) := hD
      refine lv_if_ne (tgt := 201) hx hb dX2_subtract_161 (by decide) (fun c11 => ?_) (fun c11 => ?_)
      · have e9 : f_X2_subtract n0 n1 n2 = (f_X1_setUnsigned (f_X1_setBits n2 ((n0.1 - n1.1) &&& (v1 ^^^ (-1))) v1) (n0.2.2.1 - n1.2.2.2.1) (n0.2.2.2.1 - n1.2.2.1)) := by
              subst ev1
              exact (if_pos c3).trans ((if_pos c9).trans ((if_neg c11).trans (rfl)))
        rw [e9]
        exact sp_vret C hAe hP hK hD hS dX2_subtract_201
      · refine lv_aload_n hx hb dX2_subtract_164 rfl (lv_at hl 2 rfl) ?_
        refine va_get (D := D) (ci := 2) (v := .ref h3) (C := RX2) (T := TX2) (N := 3) hx hb hts hi2 hown hK hP 0 rfl rfl 2 (by decide) hk4 (fun _ h9 => h9) rfl dX2_subtract_165 ?_
        refine lv_aload_n hx hb dX2_subtract_168 rfl (lv_at hl 2 rfl) ?_
        refine va_get (D := D) (ci := 2) (v := .ref h1) (C := RX2) (T := TX2) (N := 3) hx hb hts hi2 hown hK hP 0 rfl rfl 0 (by decide) hk0 (fun _ h9 => h9) rfl dX2_subtract_169 ?_
        refine va_get (D := D) (ci := 1) (v := .long n0.2.2.2.2.1) (C := RX1) (T := TX1) (N := 6) hx hb hts hi1 hown hK hP 1 rfl rfl 4 (by decide) hk10 (fun _ h9 => h9) rfl dX2_subtract_172 ?_
        refine lv_aload_n hx hb dX2_subtract_175 rfl (lv_at hl 2 rfl) ?_
        refine va_get (D := D) (ci := 2) (v := .ref h2) (C := RX2) (T := TX2) (N := 3) hx hb hts hi2 hown hK hP 0 rfl rfl 1 (by decide) hk2 (fun _ h9 => h9) rfl dX2_subtract_176 ?_
        refine va_get (D := D) (ci := 1) (v := .long n1.2.2.2.2.2) (C := RX1) (T := TX1) (N := 6) hx hb hts hi1 hown hK hP 2 rfl rfl 5 (by decide) hk11 (fun _ h9 => h9) rfl dX2_subtract_179 ?_
        refine lv_lsub hx hb dX2_subtract_182 ?_
        refine lv_aload_n hx hb dX2_subtract_183 rfl (lv_at hl 2 rfl) ?_
        refine va_get (D := D) (ci := 2) (v := .ref h1) (C := RX2) (T := TX2) (N := 3) hx hb hts hi2 hown hK hP 0 rfl rfl 0 (by decide) hk0 (fun _ h9 => h9) rfl dX2_subtract_184 ?_
        refine va_get (D := D) (ci := 1) (v := .long n0.2.2.2.2.2) (C := RX1) (T := TX1) (N := 6) hx hb hts hi1 hown hK hP 1 rfl rfl 5 (by decide) hk11 (fun _ h9 => h9) rfl dX2_subtract_187 ?_
        refine lv_aload_n hx hb dX2_subtract_190 rfl (lv_at hl 2 rfl) ?_
        refine va_get (D := D) (ci := 2) (v := .ref h2) (C := RX2) (T := TX2) (N := 3) hx hb hts hi2 hown hK hP 0 rfl rfl 1 (by decide) hk2 (fun _ h9 => h9) rfl dX2_subtract_191 ?_
        refine va_get (D := D) (ci := 1) (v := .long n1.2.2.2.2.1) (C := RX1) (T := TX1) (N := 6) hx hb hts hi1 hown hK hP 2 rfl rfl 4 (by decide) hk10 (fun _ h9 => h9) rfl dX2_subtract_194 ?_
        refine lv_lsub hx hb dX2_subtract_197 ?_
        refine sp_callv (sp_runV (As := [.long (n0.2.2.2.2.1 - n1.2.2.2.2.2), .long (n0.2.2.2.2.2 - n1.2.2.2.2.1)]) (rest := []) C (c_X1_setSigned l D h3 (f_X1_setUnsigned (f_X1_setBits n2 ((n0.1 - n1.1) &&& (v1 ^^^ (-1))) v1) (n0.2.2.1 - n1.2.2.2.1) (n0.2.2.2.1 - n1.2.2.1)) (n0.2.2.2.2.1 - n1.2.2.2.2.2) (n0.2.2.2.2.2 - n1.2.2.2.2.1)) (cwV 2 hts (gV wG_c wm_138 wm_38 wm_39 wm_31 wm_36) rfl rfl rfl (by decide +kernel) ⟨Nat.le_of_ble_eq_true rfl, Nat.le_of_ble_eq_true rfl⟩) hK hP hD [3] (by decide) rfl [] rfl 0 1 rfl rfl rfl rfl hl.1 rfl (Nat.le_of_ble_eq_true rfl) dX2_subtract_198 ⟨Nat.le_of_ble_eq_true rfl, Nat.le_of_ble_eq_true rfl⟩) hP hD hS hA [3] rfl (sp_fc sp_f0) (fun H locs hP hD hS => ?_)
        have hP : va_P D vwCl ([(h0, .inr (2, [.ref h1, .ref h2, .ref h3])), (h1, .inr (1, nm_fs n0)), (h2, .inr (1, nm_fs n1)), (h3, .inr (1, nm_fs (f_X1_setSigned (f_X1_setUnsigned (f_X1_setBits n2 ((n0.1 - n1.1) &&& (v1 ^^^ (-1))) v1) (n0.2.2.1 - n1.2.2.2.1) (n0.2.2.2.1 - n1.2.2.1)) (n0.2.2.2.2.1 - n1.2.2.2.2.2) (n0.2.2.2.2.2 - n1.2.2.2.2.1))))]) H := hP
        have hD : va_D A ([(h0, .inr (2, [.ref h1, .ref h2, .ref h3])), (h1, .inr (1, nm_fs n0)), (h2, .inr (1, nm_fs n1)), (h3, .inr (1, nm_fs (f_X1_setSigned (f_X1_setUnsigned (f_X1_setBits n2 ((n0.1 - n1.1) &&& (v1 ^^^ (-1))) v1) (n0.2.2.1 - n1.2.2.2.1) (n0.2.2.2.1 - n1.2.2.1)) (n0.2.2.2.2.1 - n1.2.2.2.2.2) (n0.2.2.2.2.2 - n1.2.2.2.2.1))))]) := hD
        have e9 : f_X2_subtract n0 n1 n2 = (f_X1_setSigned (f_X1_setUnsigned (f_X1_setBits n2 ((n0.1 - n1.1) &&& (v1 ^^^ (-1))) v1) (n0.2.2.1 - n1.2.2.2.1) (n0.2.2.2.1 - n1.2.2.1)) (n0.2.2.2.2.1 - n1.2.2.2.2.2) (n0.2.2.2.2.2 - n1.2.2.2.2.1)) := by
              subst ev1
              exact (if_pos c3).trans ((if_pos c9).trans ((if_pos c11).trans (rfl)))
        rw [e9]
        exact sp_vret C hAe hP hK hD hS dX2_subtract_201
def f_X2_multiply (n0 : Nm) (n1 : Nm) (n2 : Nm) : Nm :=
  if (f_X1_isExact n0) = 0 then (let v3 : Int32 := (f_JL_numberOfTrailingZeros (f_X1_mayBeOne n0)) + (f_JL_numberOfTrailingZeros (f_X1_mayBeOne n1))
    if v3 < 64 then (if (f_X0_isAbove n0.2.2.2.1 4294967295) = 0 then (if (f_X0_isAbove n1.2.2.2.1 4294967295) = 0 then (f_X1_setUnsigned (f_X1_setBits n2 0 (((-1) : Int64) <<< (v3.toInt64 &&& 63))) (n0.2.2.1 * n1.2.2.1) (n0.2.2.2.1 * n1.2.2.2.1))
        else (f_X1_setBits n2 0 (((-1) : Int64) <<< (v3.toInt64 &&& 63))))
      else (f_X1_setBits n2 0 (((-1) : Int64) <<< (v3.toInt64 &&& 63))))
    else if (f_X0_isAbove n0.2.2.2.1 4294967295) = 0 then (if (f_X0_isAbove n1.2.2.2.1 4294967295) = 0 then (f_X1_setUnsigned (f_X1_setBits n2 0 0) (n0.2.2.1 * n1.2.2.1) (n0.2.2.2.1 * n1.2.2.2.1))
      else (f_X1_setBits n2 0 0))
    else (f_X1_setBits n2 0 0))
  else if (f_X1_isExact n1) = 0 then (let v15 : Int32 := (f_JL_numberOfTrailingZeros (f_X1_mayBeOne n0)) + (f_JL_numberOfTrailingZeros (f_X1_mayBeOne n1))
    if v15 < 64 then (if (f_X0_isAbove n0.2.2.2.1 4294967295) = 0 then (if (f_X0_isAbove n1.2.2.2.1 4294967295) = 0 then (f_X1_setUnsigned (f_X1_setBits n2 0 (((-1) : Int64) <<< (v15.toInt64 &&& 63))) (n0.2.2.1 * n1.2.2.1) (n0.2.2.2.1 * n1.2.2.2.1))
        else (f_X1_setBits n2 0 (((-1) : Int64) <<< (v15.toInt64 &&& 63))))
      else (f_X1_setBits n2 0 (((-1) : Int64) <<< (v15.toInt64 &&& 63))))
    else if (f_X0_isAbove n0.2.2.2.1 4294967295) = 0 then (if (f_X0_isAbove n1.2.2.2.1 4294967295) = 0 then (f_X1_setUnsigned (f_X1_setBits n2 0 0) (n0.2.2.1 * n1.2.2.1) (n0.2.2.2.1 * n1.2.2.2.1))
      else (f_X1_setBits n2 0 0))
    else (f_X1_setBits n2 0 0))
  else (f_X1_becomeExact n2 (n0.1 * n1.1))
set_option maxHeartbeats 4000000 in
set_option maxRecDepth 100000 in
theorem c_X2_multiply (l : Launch) (D : va_G) (h0 : Nat) (h1 : Nat) (h2 : Nat) (h3 : Nat) (n0 : Nm) (n1 : Nm) (n2 : Nm) : sp_M l yX2_multiply wsX2_multiply ({ frames := 2, cells := 0, slots := 0, locals := 46 }) D [.ref h0] ([(h0, .inr (2, [.ref h1, .ref h2, .ref h3])), (h1, .inr (1, nm_fs n0)), (h2, .inr (1, nm_fs n1)), (h3, .inr (1, nm_fs n2))]) [] (sp_Qv D ([(h0, .inr (2, [.ref h1, .ref h2, .ref h3])), (h1, .inr (1, nm_fs n0)), (h2, .inr (1, nm_fs n1)), (h3, .inr (1, nm_fs n2))]) ([(h0, .inr (2, [.ref h1, .ref h2, .ref h3])), (h1, .inr (1, nm_fs n0)), (h2, .inr (1, nm_fs n1)), (h3, .inr (1, nm_fs (f_X2_multiply n0 n1 n2)))]) []) := by
  refine sp_ofW (cc := cX2_multiply) (nL := 2) (ret := none) (own := RX2) (by decide) rfl rfl (Nat.le_of_ble_eq_true rfl) ?_
  intro p e s m below meth c A ls hAe hnm C hA hP hK hD hS hl
  have hx := C.1
  have hb := C.2.1
  have hown := C.2.2.2.2.1
  have hts := C.2.2.2.2.2.1
  have hl : lv_has ls 2 [(0, .ref h0)] := hl
  have hi1 : ∀ w ∈ u_ws RX1 TX1 6, w ∈ wsX2_multiply := fun w h => List.mem_cons_of_mem _ (inX1 w h)
  have hi2 : ∀ w ∈ u_ws RX2 TX2 3, w ∈ wsX2_multiply := fun w h => List.mem_cons_of_mem _ (inX2 w h)
  have hk0 := hts _ (List.mem_cons_of_mem _ wm_108)
  have hk1 := hts _ (List.mem_cons_of_mem _ wm_109)
  have hk2 := hts _ (List.mem_cons_of_mem _ wm_110)
  have hk3 := hts _ (List.mem_cons_of_mem _ wm_130)
  have hk4 := hts _ (List.mem_cons_of_mem _ wm_142)
  have hk5 := hts _ (List.mem_cons_of_mem _ wm_161)
  have hk6 := hts _ (List.mem_cons_of_mem _ wm_4)
  have hk7 := hts _ (List.mem_cons_of_mem _ wm_3)
  have hk8 := hts _ (List.mem_cons_of_mem _ wm_145)
  have hk9 := hts _ (List.mem_cons_of_mem _ wm_140)
  refine lv_aload_n hx hb dX2_multiply_0 rfl (lv_at hl 0 rfl) ?_
  refine va_get (D := D) (ci := 2) (v := .ref h1) (C := RX2) (T := TX2) (N := 3) hx hb hts hi2 hown hK hP 0 rfl rfl 0 (by decide) hk0 (fun _ h9 => h9) rfl dX2_multiply_1 ?_
  refine sp_callz (sp_runV (As := []) (rest := []) C (c_X1_isExact l D h1 n0) (cwV 0 hts (gV wG_c wm_150 wm_151 wm_152 wm_31 wm_149) rfl rfl rfl (by decide +kernel) ⟨Nat.le_of_ble_eq_true rfl, Nat.le_of_ble_eq_true rfl⟩) hK hP hD [1] (by decide) rfl [] rfl 0 1 rfl rfl rfl rfl hl.1 rfl (Nat.le_of_ble_eq_true rfl) dX2_multiply_4 ⟨Nat.le_of_ble_eq_true rfl, Nat.le_of_ble_eq_true rfl⟩) hP hD hS hA [1] rfl (sp_fc sp_f0) (fun H locs z1 hP hD hS => ?_)
  have hP : va_P D vwCl ([(h0, .inr (2, [.ref h1, .ref h2, .ref h3])), (h1, .inr (1, nm_fs n0)), (h2, .inr (1, nm_fs n1)), (h3, .inr (1, nm_fs n2))]) H := hP
  have hD : va_D A ([(h0, .inr (2, [.ref h1, .ref h2, .ref h3])), (h1, .inr (1, nm_fs n0)), (h2, .inr (1, nm_fs n1)), (h3, .inr (1, nm_fs n2))]) := hD
  refine lv_if_eq (tgt := 43) hx hb dX2_multiply_7 (by decide) (fun c2 => ?_) (fun c2 => ?_)
  · refine lv_aload_n hx hb dX2_multiply_43 rfl (lv_at hl 0 rfl) ?_
    refine va_get (D := D) (ci := 2) (v := .ref h1) (C := RX2) (T := TX2) (N := 3) hx hb hts hi2 hown hK hP 0 rfl rfl 0 (by decide) hk0 (fun _ h9 => h9) rfl dX2_multiply_44 ?_
    refine sp_calll (sp_runV (As := []) (rest := []) C (c_X1_mayBeOne l D h1 n0) (cwV 0 hts (gV wG_c wm_153 wm_60 wm_61 wm_31 wm_58) rfl rfl rfl (by decide +kernel) ⟨Nat.le_of_ble_eq_true rfl, Nat.le_of_ble_eq_true rfl⟩) hK hP hD [1] (by decide) rfl [] rfl 0 1 rfl rfl rfl rfl hl.1 rfl (Nat.le_of_ble_eq_true rfl) dX2_multiply_47 ⟨Nat.le_of_ble_eq_true rfl, Nat.le_of_ble_eq_true rfl⟩) hP hD hS hA [1] rfl (sp_fc sp_f0) (fun H locs hP hD hS => ?_)
    have hP : va_P D vwCl ([(h0, .inr (2, [.ref h1, .ref h2, .ref h3])), (h1, .inr (1, nm_fs n0)), (h2, .inr (1, nm_fs n1)), (h3, .inr (1, nm_fs n2))]) H := hP
    have hD : va_D A ([(h0, .inr (2, [.ref h1, .ref h2, .ref h3])), (h1, .inr (1, nm_fs n0)), (h2, .inr (1, nm_fs n1)), (h3, .inr (1, nm_fs n2))]) := hD
    refine sp_calli (sp_runS (As := [.long (f_X1_mayBeOne n0)]) (rest := []) C (c_JL_numberOfTrailingZeros l D (f_X1_mayBeOne n0)) (va_cwS 1 hts (gS wG_c wm_155 wm_156 wm_77 wm_154) rfl rfl rfl (by decide +kernel) ⟨Nat.le_of_ble_eq_true rfl, Nat.le_of_ble_eq_true rfl⟩) hK hP hD [] (by decide) rfl [] rfl rfl hl.1 rfl (Nat.le_of_ble_eq_true rfl) dX2_multiply_50 ⟨Nat.le_of_ble_eq_true rfl, Nat.le_of_ble_eq_true rfl⟩) hP hD hS hA [] rfl sp_f0 (fun H locs hP hD hS => ?_)
    have hP : va_P D vwCl ([(h0, .inr (2, [.ref h1, .ref h2, .ref h3])), (h1, .inr (1, nm_fs n0)), (h2, .inr (1, nm_fs n1)), (h3, .inr (1, nm_fs n2))]) H := hP
    have hD : va_D A ([(h0, .inr (2, [.ref h1, .ref h2, .ref h3])), (h1, .inr (1, nm_fs n0)), (h2, .inr (1, nm_fs n1)), (h3, .inr (1, nm_fs n2))]) := hD
    refine lv_aload_n hx hb dX2_multiply_53 rfl (lv_at hl 0 rfl) ?_
    refine va_get (D := D) (ci := 2) (v := .ref h2) (C := RX2) (T := TX2) (N := 3) hx hb hts hi2 hown hK hP 0 rfl rfl 1 (by decide) hk1 (fun _ h9 => h9) rfl dX2_multiply_54 ?_
    refine sp_calll (sp_runV (As := []) (rest := [.int (f_JL_numberOfTrailingZeros (f_X1_mayBeOne n0))]) C (c_X1_mayBeOne l D h2 n1) (cwV 0 hts (gV wG_c wm_153 wm_60 wm_61 wm_31 wm_58) rfl rfl rfl (by decide +kernel) ⟨Nat.le_of_ble_eq_true rfl, Nat.le_of_ble_eq_true rfl⟩) hK hP hD [2] (by decide) rfl [] rfl 0 1 rfl rfl rfl rfl hl.1 rfl (Nat.le_of_ble_eq_true rfl) dX2_multiply_57 ⟨Nat.le_of_ble_eq_true rfl, Nat.le_of_ble_eq_true rfl⟩) hP hD hS hA [2] rfl (sp_fc sp_f0) (fun H locs hP hD hS => ?_)
    have hP : va_P D vwCl ([(h0, .inr (2, [.ref h1, .ref h2, .ref h3])), (h1, .inr (1, nm_fs n0)), (h2, .inr (1, nm_fs n1)), (h3, .inr (1, nm_fs n2))]) H := hP
    have hD : va_D A ([(h0, .inr (2, [.ref h1, .ref h2, .ref h3])), (h1, .inr (1, nm_fs n0)), (h2, .inr (1, nm_fs n1)), (h3, .inr (1, nm_fs n2))]) := hD
    refine sp_calli (sp_runS (As := [.long (f_X1_mayBeOne n1)]) (rest := [.int (f_JL_numberOfTrailingZeros (f_X1_mayBeOne n0))]) C (c_JL_numberOfTrailingZeros l D (f_X1_mayBeOne n1)) (va_cwS 1 hts (gS wG_c wm_155 wm_156 wm_77 wm_154) rfl rfl rfl (by decide +kernel) ⟨Nat.le_of_ble_eq_true rfl, Nat.le_of_ble_eq_true rfl⟩) hK hP hD [] (by decide) rfl [] rfl rfl hl.1 rfl (Nat.le_of_ble_eq_true rfl) dX2_multiply_60 ⟨Nat.le_of_ble_eq_true rfl, Nat.le_of_ble_eq_true rfl⟩) hP hD hS hA [] rfl sp_f0 (fun H locs hP hD hS => ?_)
    have hP : va_P D vwCl ([(h0, .inr (2, [.ref h1, .ref h2, .ref h3])), (h1, .inr (1, nm_fs n0)), (h2, .inr (1, nm_fs n1)), (h3, .inr (1, nm_fs n2))]) H := hP
    have hD : va_D A ([(h0, .inr (2, [.ref h1, .ref h2, .ref h3])), (h1, .inr (1, nm_fs n0)), (h2, .inr (1, nm_fs n1)), (h3, .inr (1, nm_fs n2))]) := hD
    refine lv_iadd hx hb dX2_multiply_63 ?_
    refine lv_topi (fun v3 ev3 => ?_)
    refine lv_istore_n (lv' := [(1, .int v3), (0, .ref h0)]) hx hb dX2_multiply_64 rfl hl (by decide) rfl (fun ls hl => ?_)
    refine lv_aload_n hx hb dX2_multiply_65 rfl (lv_at hl 1 rfl) ?_
    refine va_get (D := D) (ci := 2) (v := .ref h3) (C := RX2) (T := TX2) (N := 3) hx hb hts hi2 hown hK hP 0 rfl rfl 2 (by decide) hk2 (fun _ h9 => h9) rfl dX2_multiply_66 ?_
    refine lv_lconst (v := 0) hx hb dX2_multiply_69 (by decide) ?_
    refine lv_iload_n hx hb dX2_multiply_70 rfl (lv_at hl 0 rfl) ?_
    refine lv_bipush (v := 64) hx hb dX2_multiply_71 (by decide) ?_
    refine lv_icmp_lt (tgt := 80) hx hb dX2_multiply_73 (by decide) (fun c4 => ?_) (fun c4 => ?_)
    · refine lv_ldc2 (v := (-1)) hx hb hown hk3 dX2_multiply_80 ?_
      refine lv_iload_n hx hb dX2_multiply_83 rfl (lv_at hl 0 rfl) ?_
      refine lv_lshl (v := ((-1) : Int64) <<< (v3.toInt64 &&& 63)) hx hb dX2_multiply_84 rfl ?_
      refine sp_callv (sp_runV (As := [.long 0, .long (((-1) : Int64) <<< (v3.toInt64 &&& 63))]) (rest := []) C (c_X1_setBits l D h3 n2 0 (((-1) : Int64) <<< (v3.toInt64 &&& 63))) (cwV 2 hts (gV wG_c wm_134 wm_29 wm_30 wm_31 wm_27) rfl rfl rfl (by decide +kernel) ⟨Nat.le_of_ble_eq_true rfl, Nat.le_of_ble_eq_true rfl⟩) hK hP hD [3] (by decide) rfl [] rfl 0 1 rfl rfl rfl rfl hl.1 rfl (Nat.le_of_ble_eq_true rfl) dX2_multiply_85 ⟨Nat.le_of_ble_eq_true rfl, Nat.le_of_ble_eq_true rfl⟩) hP hD hS hA [3] rfl (sp_fc sp_f0) (fun H locs hP hD hS => ?_)
      have hP : va_P D vwCl ([(h0, .inr (2, [.ref h1, .ref h2, .ref h3])), (h1, .inr (1, nm_fs n0)), (h2, .inr (1, nm_fs n1)), (h3, .inr (1, nm_fs (f_X1_setBits n2 0 (((-1) : Int64) <<< (v3.toInt64 &&& 63)))))]) H := hP
      have hD : va_D A ([(h0, .inr (2, [.ref h1, .ref h2, .ref h3])), (h1, .inr (1, nm_fs n0)), (h2, .inr (1, nm_fs n1)), (h3, .inr (1, nm_fs (f_X1_setBits n2 0 (((-1) : Int64) <<< (v3.toInt64 &&& 63)))))]) := hD
      refine lv_aload_n hx hb dX2_multiply_88 rfl (lv_at hl 1 rfl) ?_
      refine va_get (D := D) (ci := 2) (v := .ref h1) (C := RX2) (T := TX2) (N := 3) hx hb hts hi2 hown hK hP 0 rfl rfl 0 (by decide) hk0 (fun _ h9 => h9) rfl dX2_multiply_89 ?_
      refine va_get (D := D) (ci := 1) (v := .long n0.2.2.2.1) (C := RX1) (T := TX1) (N := 6) hx hb hts hi1 hown hK hP 1 rfl rfl 3 (by decide) hk4 (fun _ h9 => h9) rfl dX2_multiply_92 ?_
      refine lv_ldc2 (v := 4294967295) hx hb hown hk5 dX2_multiply_95 ?_
      refine sp_callz (sp_runSN (As := [.long n0.2.2.2.1, .long 4294967295]) (rest := []) C (c_X0_isAbove l D n0.2.2.2.1 4294967295) ⟨va_cnB 2 hts (gG wG_c wm_1) rfl rfl rfl (C.2.2.2.2.2.2.2.1 (RX2, 99, yX0_isAbove, "RangeDesk") (List.mem_of_getElem? (i := 5) rfl)) hk6 (by decide +kernel) ⟨Nat.le_of_ble_eq_true rfl, Nat.le_of_ble_eq_true rfl⟩, hk7, trivial⟩ hK hP hD [] (by decide) rfl [] rfl rfl hl.1 rfl (Nat.le_of_ble_eq_true rfl) dX2_multiply_98 ⟨Nat.le_of_ble_eq_true rfl, Nat.le_of_ble_eq_true rfl⟩) hP hD hS hA [] rfl sp_f0 (fun H locs z5 hP hD hS => ?_)
      have hP : va_P D vwCl ([(h0, .inr (2, [.ref h1, .ref h2, .ref h3])), (h1, .inr (1, nm_fs n0)), (h2, .inr (1, nm_fs n1)), (h3, .inr (1, nm_fs (f_X1_setBits n2 0 (((-1) : Int64) <<< (v3.toInt64 &&& 63)))))]) H := hP
      have hD : va_D A ([(h0, .inr (2, [.ref h1, .ref h2, .ref h3])), (h1, .inr (1, nm_fs n0)), (h2, .inr (1, nm_fs n1)), (h3, .inr (1, nm_fs (f_X1_setBits n2 0 (((-1) : Int64) <<< (v3.toInt64 &&& 63)))))]) := hD
      refine lv_if_ne (tgt := 157) hx hb dX2_multiply_101 (by decide) (fun c6 => ?_) (fun c6 => ?_)
      · have e9 : f_X2_multiply n0 n1 n2 = (f_X1_setBits n2 0 (((-1) : Int64) <<< (v3.toInt64 &&& 63))) := by
              subst ev3
              exact (if_pos c2).trans ((if_pos c4).trans ((if_neg c6).trans (rfl)))
        rw [e9]
        exact sp_vret C hAe hP hK hD hS dX2_multiply_157
      · refine lv_aload_n hx hb dX2_multiply_104 rfl (lv_at hl 1 rfl) ?_
        refine va_get (D := D) (ci := 2) (v := .ref h2) (C := RX2) (T := TX2) (N := 3) hx hb hts hi2 hown hK hP 0 rfl rfl 1 (by decide) hk1 (fun _ h9 => h9) rfl dX2_multiply_105 ?_
        refine va_get (D := D) (ci := 1) (v := .long n1.2.2.2.1) (C := RX1) (T := TX1) (N := 6) hx hb hts hi1 hown hK hP 2 rfl rfl 3 (by decide) hk4 (fun _ h9 => h9) rfl dX2_multiply_108 ?_
        refine lv_ldc2 (v := 4294967295) hx hb hown hk5 dX2_multiply_111 ?_
        refine sp_callz (sp_runSN (As := [.long n1.2.2.2.1, .long 4294967295]) (rest := []) C (c_X0_isAbove l D n1.2.2.2.1 4294967295) ⟨va_cnB 2 hts (gG wG_c wm_1) rfl rfl rfl (C.2.2.2.2.2.2.2.1 (RX2, 99, yX0_isAbove, "RangeDesk") (List.mem_of_getElem? (i := 5) rfl)) hk6 (by decide +kernel) ⟨Nat.le_of_ble_eq_true rfl, Nat.le_of_ble_eq_true rfl⟩, hk7, trivial⟩ hK hP hD [] (by decide) rfl [] rfl rfl hl.1 rfl (Nat.le_of_ble_eq_true rfl) dX2_multiply_114 ⟨Nat.le_of_ble_eq_true rfl, Nat.le_of_ble_eq_true rfl⟩) hP hD hS hA [] rfl sp_f0 (fun H locs z7 hP hD hS => ?_)
        have hP : va_P D vwCl ([(h0, .inr (2, [.ref h1, .ref h2, .ref h3])), (h1, .inr (1, nm_fs n0)), (h2, .inr (1, nm_fs n1)), (h3, .inr (1, nm_fs (f_X1_setBits n2 0 (((-1) : Int64) <<< (v3.toInt64 &&& 63)))))]) H := hP
        have hD : va_D A ([(h0, .inr (2, [.ref h1, .ref h2, .ref h3])), (h1, .inr (1, nm_fs n0)), (h2, .inr (1, nm_fs n1)), (h3, .inr (1, nm_fs (f_X1_setBits n2 0 (((-1) : Int64) <<< (v3.toInt64 &&& 63)))))]) := hD
        refine lv_if_ne (tgt := 157) hx hb dX2_multiply_117 (by decide) (fun c8 => ?_) (fun c8 => ?_)
        · have e9 : f_X2_multiply n0 n1 n2 = (f_X1_setBits n2 0 (((-1) : Int64) <<< (v3.toInt64 &&& 63))) := by
                subst ev3
                exact (if_pos c2).trans ((if_pos c4).trans ((if_pos c6).trans ((if_neg c8).trans (rfl))))
          rw [e9]
          exact sp_vret C hAe hP hK hD hS dX2_multiply_157
        · refine lv_aload_n hx hb dX2_multiply_120 rfl (lv_at hl 1 rfl) ?_
          refine va_get (D := D) (ci := 2) (v := .ref h3) (C := RX2) (T := TX2) (N := 3) hx hb hts hi2 hown hK hP 0 rfl rfl 2 (by decide) hk2 (fun _ h9 => h9) rfl dX2_multiply_121 ?_
          refine lv_aload_n hx hb dX2_multiply_124 rfl (lv_at hl 1 rfl) ?_
          refine va_get (D := D) (ci := 2) (v := .ref h1) (C := RX2) (T := TX2) (N := 3) hx hb hts hi2 hown hK hP 0 rfl rfl 0 (by decide) hk0 (fun _ h9 => h9) rfl dX2_multiply_125 ?_
          refine va_get (D := D) (ci := 1) (v := .long n0.2.2.1) (C := RX1) (T := TX1) (N := 6) hx hb hts hi1 hown hK hP 1 rfl rfl 2 (by decide) hk8 (fun _ h9 => h9) rfl dX2_multiply_128 ?_
          refine lv_aload_n hx hb dX2_multiply_131 rfl (lv_at hl 1 rfl) ?_
          refine va_get (D := D) (ci := 2) (v := .ref h2) (C := RX2) (T := TX2) (N := 3) hx hb hts hi2 hown hK hP 0 rfl rfl 1 (by decide) hk1 (fun _ h9 => h9) rfl dX2_multiply_132 ?_
          refine va_get (D := D) (ci := 1) (v := .long n1.2.2.1) (C := RX1) (T := TX1) (N := 6) hx hb hts hi1 hown hK hP 2 rfl rfl 2 (by decide) hk8 (fun _ h9 => h9) rfl dX2_multiply_135 ?_
          refine lv_lmul hx hb dX2_multiply_138 ?_
          refine lv_aload_n hx hb dX2_multiply_139 rfl (lv_at hl 1 rfl) ?_
          refine va_get (D := D) (ci := 2) (v := .ref h1) (C := RX2) (T := TX2) (N := 3) hx hb hts hi2 hown hK hP 0 rfl rfl 0 (by decide) hk0 (fun _ h9 => h9) rfl dX2_multiply_140 ?_
          refine va_get (D := D) (ci := 1) (v := .long n0.2.2.2.1) (C := RX1) (T := TX1) (N := 6) hx hb hts hi1 hown hK hP 1 rfl rfl 3 (by decide) hk4 (fun _ h9 => h9) rfl dX2_multiply_143 ?_
          refine lv_aload_n hx hb dX2_multiply_146 rfl (lv_at hl 1 rfl) ?_
          refine va_get (D := D) (ci := 2) (v := .ref h2) (C := RX2) (T := TX2) (N := 3) hx hb hts hi2 hown hK hP 0 rfl rfl 1 (by decide) hk1 (fun _ h9 => h9) rfl dX2_multiply_147 ?_
          refine va_get (D := D) (ci := 1) (v := .long n1.2.2.2.1) (C := RX1) (T := TX1) (N := 6) hx hb hts hi1 hown hK hP 2 rfl rfl 3 (by decide) hk4 (fun _ h9 => h9) rfl dX2_multiply_150 ?_
          refine lv_lmul hx hb dX2_multiply_153 ?_
          refine sp_callv (sp_runV (As := [.long (n0.2.2.1 * n1.2.2.1), .long (n0.2.2.2.1 * n1.2.2.2.1)]) (rest := []) C (c_X1_setUnsigned l D h3 (f_X1_setBits n2 0 (((-1) : Int64) <<< (v3.toInt64 &&& 63))) (n0.2.2.1 * n1.2.2.1) (n0.2.2.2.1 * n1.2.2.2.1)) (cwV 2 hts (gV wG_c wm_139 wm_34 wm_35 wm_31 wm_32) rfl rfl rfl (by decide +kernel) ⟨Nat.le_of_ble_eq_true rfl, Nat.le_of_ble_eq_true rfl⟩) hK hP hD [3] (by decide) rfl [] rfl 0 1 rfl rfl rfl rfl hl.1 rfl (Nat.le_of_ble_eq_true rfl) dX2_multiply_154 ⟨Nat.le_of_ble_eq_true rfl, Nat.le_of_ble_eq_true rfl⟩) hP hD hS hA [3] rfl (sp_fc sp_f0) (fun H locs hP hD hS => ?_)
          have hP : va_P D vwCl ([(h0, .inr (2, [.ref h1, .ref h2, .ref h3])), (h1, .inr (1, nm_fs n0)), (h2, .inr (1, nm_fs n1)), (h3, .inr (1, nm_fs (f_X1_setUnsigned (f_X1_setBits n2 0 (((-1) : Int64) <<< (v3.toInt64 &&& 63))) (n0.2.2.1 * n1.2.2.1) (n0.2.2.2.1 * n1.2.2.2.1))))]) H := hP
          have hD : va_D A ([(h0, .inr (2, [.ref h1, .ref h2, .ref h3])), (h1, .inr (1, nm_fs n0)), (h2, .inr (1, nm_fs n1)), (h3, .inr (1, nm_fs (f_X1_setUnsigned (f_X1_setBits n2 0 (((-1) : Int64) <<< (v3.toInt64 &&& 63))) (n0.2.2.1 * n1.2.2.1) (n0.2.2.2.1 * n1.2.2.2.1))))]) := hD
          have e9 : f_X2_multiply n0 n1 n2 = (f_X1_setUnsigned (f_X1_setBits n2 0 (((-1) : Int64) <<< (v3.toInt64 &&& 63))) (n0.2.2.1 * n1.2.2.1) (n0.2.2.2.1 * n1.2.2.2.1)) := by
                subst ev3
                exact (if_pos c2).trans ((if_pos c4).trans ((if_pos c6).trans ((if_pos c8).trans (rfl))))
          rw [e9]
          exact sp_vret C hAe hP hK hD hS dX2_multiply_157
    · refine lv_lconst (v := 0) hx hb dX2_multiply_76 (by decide) ?_
      refine lv_goto (tgt := 85) hx hb dX2_multiply_77 (by decide) ?_
      refine sp_callv (sp_runV (As := [.long 0, .long 0]) (rest := []) C (c_X1_setBits l D h3 n2 0 0) (cwV 2 hts (gV wG_c wm_134 wm_29 wm_30 wm_31 wm_27) rfl rfl rfl (by decide +kernel) ⟨Nat.le_of_ble_eq_true rfl, Nat.le_of_ble_eq_true rfl⟩) hK hP hD [3] (by decide) rfl [] rfl 0 1 rfl rfl rfl rfl hl.1 rfl (Nat.le_of_ble_eq_true rfl) dX2_multiply_85 ⟨Nat.le_of_ble_eq_true rfl, Nat.le_of_ble_eq_true rfl⟩) hP hD hS hA [3] rfl (sp_fc sp_f0) (fun H locs hP hD hS => ?_)
      have hP : va_P D vwCl ([(h0, .inr (2, [.ref h1, .ref h2, .ref h3])), (h1, .inr (1, nm_fs n0)), (h2, .inr (1, nm_fs n1)), (h3, .inr (1, nm_fs (f_X1_setBits n2 0 0)))]) H := hP
      have hD : va_D A ([(h0, .inr (2, [.ref h1, .ref h2, .ref h3])), (h1, .inr (1, nm_fs n0)), (h2, .inr (1, nm_fs n1)), (h3, .inr (1, nm_fs (f_X1_setBits n2 0 0)))]) := hD
      refine lv_aload_n hx hb dX2_multiply_88 rfl (lv_at hl 1 rfl) ?_
      refine va_get (D := D) (ci := 2) (v := .ref h1) (C := RX2) (T := TX2) (N := 3) hx hb hts hi2 hown hK hP 0 rfl rfl 0 (by decide) hk0 (fun _ h9 => h9) rfl dX2_multiply_89 ?_
      refine va_get (D := D) (ci := 1) (v := .long n0.2.2.2.1) (C := RX1) (T := TX1) (N := 6) hx hb hts hi1 hown hK hP 1 rfl rfl 3 (by decide) hk4 (fun _ h9 => h9) rfl dX2_multiply_92 ?_
      refine lv_ldc2 (v := 4294967295) hx hb hown hk5 dX2_multiply_95 ?_
      refine sp_callz (sp_runSN (As := [.long n0.2.2.2.1, .long 4294967295]) (rest := []) C (c_X0_isAbove l D n0.2.2.2.1 4294967295) ⟨va_cnB 2 hts (gG wG_c wm_1) rfl rfl rfl (C.2.2.2.2.2.2.2.1 (RX2, 99, yX0_isAbove, "RangeDesk") (List.mem_of_getElem? (i := 5) rfl)) hk6 (by decide +kernel) ⟨Nat.le_of_ble_eq_true rfl, Nat.le_of_ble_eq_true rfl⟩, hk7, trivial⟩ hK hP hD [] (by decide) rfl [] rfl rfl hl.1 rfl (Nat.le_of_ble_eq_true rfl) dX2_multiply_98 ⟨Nat.le_of_ble_eq_true rfl, Nat.le_of_ble_eq_true rfl⟩) hP hD hS hA [] rfl sp_f0 (fun H locs z9 hP hD hS => ?_)
      have hP : va_P D vwCl ([(h0, .inr (2, [.ref h1, .ref h2, .ref h3])), (h1, .inr (1, nm_fs n0)), (h2, .inr (1, nm_fs n1)), (h3, .inr (1, nm_fs (f_X1_setBits n2 0 0)))]) H := hP
      have hD : va_D A ([(h0, .inr (2, [.ref h1, .ref h2, .ref h3])), (h1, .inr (1, nm_fs n0)), (h2, .inr (1, nm_fs n1)), (h3, .inr (1, nm_fs (f_X1_setBits n2 0 0)))]) := hD
      refine lv_if_ne (tgt := 157) hx hb dX2_multiply_101 (by decide) (fun c10 => ?_) (fun c10 => ?_)
      · have e9 : f_X2_multiply n0 n1 n2 = (f_X1_setBits n2 0 0) := by
              subst ev3
              exact (if_pos c2).trans ((if_neg c4).trans ((if_neg c10).trans (rfl)))
        rw [e9]
        exact sp_vret C hAe hP hK hD hS dX2_multiply_157
      · refine lv_aload_n hx hb dX2_multiply_104 rfl (lv_at hl 1 rfl) ?_
        refine va_get (D := D) (ci := 2) (v := .ref h2) (C := RX2) (T := TX2) (N := 3) hx hb hts hi2 hown hK hP 0 rfl rfl 1 (by decide) hk1 (fun _ h9 => h9) rfl dX2_multiply_105 ?_
        refine va_get (D := D) (ci := 1) (v := .long n1.2.2.2.1) (C := RX1) (T := TX1) (N := 6) hx hb hts hi1 hown hK hP 2 rfl rfl 3 (by decide) hk4 (fun _ h9 => h9) rfl dX2_multiply_108 ?_
        refine lv_ldc2 (v := 4294967295) hx hb hown hk5 dX2_multiply_111 ?_
        refine sp_callz (sp_runSN (As := [.long n1.2.2.2.1, .long 4294967295]) (rest := []) C (c_X0_isAbove l D n1.2.2.2.1 4294967295) ⟨va_cnB 2 hts (gG wG_c wm_1) rfl rfl rfl (C.2.2.2.2.2.2.2.1 (RX2, 99, yX0_isAbove, "RangeDesk") (List.mem_of_getElem? (i := 5) rfl)) hk6 (by decide +kernel) ⟨Nat.le_of_ble_eq_true rfl, Nat.le_of_ble_eq_true rfl⟩, hk7, trivial⟩ hK hP hD [] (by decide) rfl [] rfl rfl hl.1 rfl (Nat.le_of_ble_eq_true rfl) dX2_multiply_114 ⟨Nat.le_of_ble_eq_true rfl, Nat.le_of_ble_eq_true rfl⟩) hP hD hS hA [] rfl sp_f0 (fun H locs z11 hP hD hS => ?_)
        have hP : va_P D vwCl ([(h0, .inr (2, [.ref h1, .ref h2, .ref h3])), (h1, .inr (1, nm_fs n0)), (h2, .inr (1, nm_fs n1)), (h3, .inr (1, nm_fs (f_X1_setBits n2 0 0)))]) H := hP
        have hD : va_D A ([(h0, .inr (2, [.ref h1, .ref h2, .ref h3])), (h1, .inr (1, nm_fs n0)), (h2, .inr (1, nm_fs n1)), (h3, .inr (1, nm_fs (f_X1_setBits n2 0 0)))]) := hD
        refine lv_if_ne (tgt := 157) hx hb dX2_multiply_117 (by decide) (fun c12 => ?_) (fun c12 => ?_)
        · have e9 : f_X2_multiply n0 n1 n2 = (f_X1_setBits n2 0 0) := by
                subst ev3
                exact (if_pos c2).trans ((if_neg c4).trans ((if_pos c10).trans ((if_neg c12).trans (rfl))))
          rw [e9]
          exact sp_vret C hAe hP hK hD hS dX2_multiply_157
        · refine lv_aload_n hx hb dX2_multiply_120 rfl (lv_at hl 1 rfl) ?_
          refine va_get (D := D) (ci := 2) (v := .ref h3) (C := RX2) (T := TX2) (N := 3) hx hb hts hi2 hown hK hP 0 rfl rfl 2 (by decide) hk2 (fun _ h9 => h9) rfl dX2_multiply_121 ?_
          refine lv_aload_n hx hb dX2_multiply_124 rfl (lv_at hl 1 rfl) ?_
          refine va_get (D := D) (ci := 2) (v := .ref h1) (C := RX2) (T := TX2) (N := 3) hx hb hts hi2 hown hK hP 0 rfl rfl 0 (by decide) hk0 (fun _ h9 => h9) rfl dX2_multiply_125 ?_
          refine va_get (D := D) (ci := 1) (v := .long n0.2.2.1) (C := RX1) (T := TX1) (N := 6) hx hb hts hi1 hown hK hP 1 rfl rfl 2 (by decide) hk8 (fun _ h9 => h9) rfl dX2_multiply_128 ?_
          refine lv_aload_n hx hb dX2_multiply_131 rfl (lv_at hl 1 rfl) ?_
          refine va_get (D := D) (ci := 2) (v := .ref h2) (C := RX2) (T := TX2) (N := 3) hx hb hts hi2 hown hK hP 0 rfl rfl 1 (by decide) hk1 (fun _ h9 => h9) rfl dX2_multiply_132 ?_
          refine va_get (D := D) (ci := 1) (v := .long n1.2.2.1) (C := RX1) (T := TX1) (N := 6) hx hb hts hi1 hown hK hP 2 rfl rfl 2 (by decide) hk8 (fun _ h9 => h9) rfl dX2_multiply_135 ?_
          refine lv_lmul hx hb dX2_multiply_138 ?_
          refine lv_aload_n hx hb dX2_multiply_139 rfl (lv_at hl 1 rfl) ?_
          refine va_get (D := D) (ci := 2) (v := .ref h1) (C := RX2) (T := TX2) (N := 3) hx hb hts hi2 hown hK hP 0 rfl rfl 0 (by decide) hk0 (fun _ h9 => h9) rfl dX2_multiply_140 ?_
          refine va_get (D := D) (ci := 1) (v := .long n0.2.2.2.1) (C := RX1) (T := TX1) (N := 6) hx hb hts hi1 hown hK hP 1 rfl rfl 3 (by decide) hk4 (fun _ h9 => h9) rfl dX2_multiply_143 ?_
          refine lv_aload_n hx hb dX2_multiply_146 rfl (lv_at hl 1 rfl) ?_
          refine va_get (D := D) (ci := 2) (v := .ref h2) (C := RX2) (T := TX2) (N := 3) hx hb hts hi2 hown hK hP 0 rfl rfl 1 (by decide) hk1 (fun _ h9 => h9) rfl dX2_multiply_147 ?_
          refine va_get (D := D) (ci := 1) (v := .long n1.2.2.2.1) (C := RX1) (T := TX1) (N := 6) hx hb hts hi1 hown hK hP 2 rfl rfl 3 (by decide) hk4 (fun _ h9 => h9) rfl dX2_multiply_150 ?_
          refine lv_lmul hx hb dX2_multiply_153 ?_
          refine sp_callv (sp_runV (As := [.long (n0.2.2.1 * n1.2.2.1), .long (n0.2.2.2.1 * n1.2.2.2.1)]) (rest := []) C (c_X1_setUnsigned l D h3 (f_X1_setBits n2 0 0) (n0.2.2.1 * n1.2.2.1) (n0.2.2.2.1 * n1.2.2.2.1)) (cwV 2 hts (gV wG_c wm_139 wm_34 wm_35 wm_31 wm_32) rfl rfl rfl (by decide +kernel) ⟨Nat.le_of_ble_eq_true rfl, Nat.le_of_ble_eq_true rfl⟩) hK hP hD [3] (by decide) rfl [] rfl 0 1 rfl rfl rfl rfl hl.1 rfl (Nat.le_of_ble_eq_true rfl) dX2_multiply_154 ⟨Nat.le_of_ble_eq_true rfl, Nat.le_of_ble_eq_true rfl⟩) hP hD hS hA [3] rfl (sp_fc sp_f0) (fun H locs hP hD hS => ?_)
          have hP : va_P D vwCl ([(h0, .inr (2, [.ref h1, .ref h2, .ref h3])), (h1, .inr (1, nm_fs n0)), (h2, .inr (1, nm_fs n1)), (h3, .inr (1, nm_fs (f_X1_setUnsigned (f_X1_setBits n2 0 0) (n0.2.2.1 * n1.2.2.1) (n0.2.2.2.1 * n1.2.2.2.1))))]) H := hP
          have hD : va_D A ([(h0, .inr (2, [.ref h1, .ref h2, .ref h3])), (h1, .inr (1, nm_fs n0)), (h2, .inr (1, nm_fs n1)), (h3, .inr (1, nm_fs (f_X1_setUnsigned (f_X1_setBits n2 0 0) (n0.2.2.1 * n1.2.2.1) (n0.2.2.2.1 * n1.2.2.2.1))))]) := hD
          have e9 : f_X2_multiply n0 n1 n2 = (f_X1_setUnsigned (f_X1_setBits n2 0 0) (n0.2.2.1 * n1.2.2.1) (n0.2.2.2.1 * n1.2.2.2.1)) := by
                subst ev3
                exact (if_pos c2).trans ((if_neg c4).trans ((if_pos c10).trans ((if_pos c12).trans (rfl))))
          rw [e9]
          exact sp_vret C hAe hP hK hD hS dX2_multiply_157
  · refine lv_aload_n hx hb dX2_multiply_10 rfl (lv_at hl 0 rfl) ?_
    refine va_get (D := D) (ci := 2) (v := .ref h2) (C := RX2) (T := TX2) (N := 3) hx hb hts hi2 hown hK hP 0 rfl rfl 1 (by decide) hk1 (fun _ h9 => h9) rfl dX2_multiply_11 ?_
    refine sp_callz (sp_runV (As := []) (rest := []) C (c_X1_isExact l D h2 n1) (cwV 0 hts (gV wG_c wm_150 wm_151 wm_152 wm_31 wm_149) rfl rfl rfl (by decide +kernel) ⟨Nat.le_of_ble_eq_true rfl, Nat.le_of_ble_eq_true rfl⟩) hK hP hD [2] (by decide) rfl [] rfl 0 1 rfl rfl rfl rfl hl.1 rfl (Nat.le_of_ble_eq_true rfl) dX2_multiply_14 ⟨Nat.le_of_ble_eq_true rfl, Nat.le_of_ble_eq_true rfl⟩) hP hD hS hA [2] rfl (sp_fc sp_f0) (fun H locs z13 hP hD hS => ?_)
    have hP : va_P D vwCl ([(h0, .inr (2, [.ref h1, .ref h2, .ref h3])), (h1, .inr (1, nm_fs n0)), (h2, .inr (1, nm_fs n1)), (h3, .inr (1, nm_fs n2))]) H := hP
    have hD : va_D A ([(h0, .inr (2, [.ref h1, .ref h2, .ref h3])), (h1, .inr (1, nm_fs n0)), (h2, .inr (1, nm_fs n1)), (h3, .inr (1, nm_fs n2))]) := hD
    refine lv_if_eq (tgt := 43) hx hb dX2_multiply_17 (by decide) (fun c14 => ?_) (fun c14 => ?_)
    · refine lv_aload_n hx hb dX2_multiply_43 rfl (lv_at hl 0 rfl) ?_
      refine va_get (D := D) (ci := 2) (v := .ref h1) (C := RX2) (T := TX2) (N := 3) hx hb hts hi2 hown hK hP 0 rfl rfl 0 (by decide) hk0 (fun _ h9 => h9) rfl dX2_multiply_44 ?_
      refine sp_calll (sp_runV (As := []) (rest := []) C (c_X1_mayBeOne l D h1 n0) (cwV 0 hts (gV wG_c wm_153 wm_60 wm_61 wm_31 wm_58) rfl rfl rfl (by decide +kernel) ⟨Nat.le_of_ble_eq_true rfl, Nat.le_of_ble_eq_true rfl⟩) hK hP hD [1] (by decide) rfl [] rfl 0 1 rfl rfl rfl rfl hl.1 rfl (Nat.le_of_ble_eq_true rfl) dX2_multiply_47 ⟨Nat.le_of_ble_eq_true rfl, Nat.le_of_ble_eq_true rfl⟩) hP hD hS hA [1] rfl (sp_fc sp_f0) (fun H locs hP hD hS => ?_)
      have hP : va_P D vwCl ([(h0, .inr (2, [.ref h1, .ref h2, .ref h3])), (h1, .inr (1, nm_fs n0)), (h2, .inr (1, nm_fs n1)), (h3, .inr (1, nm_fs n2))]) H := hP
      have hD : va_D A ([(h0, .inr (2, [.ref h1, .ref h2, .ref h3])), (h1, .inr (1, nm_fs n0)), (h2, .inr (1, nm_fs n1)), (h3, .inr (1, nm_fs n2))]) := hD
      refine sp_calli (sp_runS (As := [.long (f_X1_mayBeOne n0)]) (rest := []) C (c_JL_numberOfTrailingZeros l D (f_X1_mayBeOne n0)) (va_cwS 1 hts (gS wG_c wm_155 wm_156 wm_77 wm_154) rfl rfl rfl (by decide +kernel) ⟨Nat.le_of_ble_eq_true rfl, Nat.le_of_ble_eq_true rfl⟩) hK hP hD [] (by decide) rfl [] rfl rfl hl.1 rfl (Nat.le_of_ble_eq_true rfl) dX2_multiply_50 ⟨Nat.le_of_ble_eq_true rfl, Nat.le_of_ble_eq_true rfl⟩) hP hD hS hA [] rfl sp_f0 (fun H locs hP hD hS => ?_)
      have hP : va_P D vwCl ([(h0, .inr (2, [.ref h1, .ref h2, .ref h3])), (h1, .inr (1, nm_fs n0)), (h2, .inr (1, nm_fs n1)), (h3, .inr (1, nm_fs n2))]) H := hP
      have hD : va_D A ([(h0, .inr (2, [.ref h1, .ref h2, .ref h3])), (h1, .inr (1, nm_fs n0)), (h2, .inr (1, nm_fs n1)), (h3, .inr (1, nm_fs n2))]) := hD
      refine lv_aload_n hx hb dX2_multiply_53 rfl (lv_at hl 0 rfl) ?_
      refine va_get (D := D) (ci := 2) (v := .ref h2) (C := RX2) (T := TX2) (N := 3) hx hb hts hi2 hown hK hP 0 rfl rfl 1 (by decide) hk1 (fun _ h9 => h9) rfl dX2_multiply_54 ?_
      refine sp_calll (sp_runV (As := []) (rest := [.int (f_JL_numberOfTrailingZeros (f_X1_mayBeOne n0))]) C (c_X1_mayBeOne l D h2 n1) (cwV 0 hts (gV wG_c wm_153 wm_60 wm_61 wm_31 wm_58) rfl rfl rfl (by decide +kernel) ⟨Nat.le_of_ble_eq_true rfl, Nat.le_of_ble_eq_true rfl⟩) hK hP hD [2] (by decide) rfl [] rfl 0 1 rfl rfl rfl rfl hl.1 rfl (Nat.le_of_ble_eq_true rfl) dX2_multiply_57 ⟨Nat.le_of_ble_eq_true rfl, Nat.le_of_ble_eq_true rfl⟩) hP hD hS hA [2] rfl (sp_fc sp_f0) (fun H locs hP hD hS => ?_)
      have hP : va_P D vwCl ([(h0, .inr (2, [.ref h1, .ref h2, .ref h3])), (h1, .inr (1, nm_fs n0)), (h2, .inr (1, nm_fs n1)), (h3, .inr (1, nm_fs n2))]) H := hP
      have hD : va_D A ([(h0, .inr (2, [.ref h1, .ref h2, .ref h3])), (h1, .inr (1, nm_fs n0)), (h2, .inr (1, nm_fs n1)), (h3, .inr (1, nm_fs n2))]) := hD
      refine sp_calli (sp_runS (As := [.long (f_X1_mayBeOne n1)]) (rest := [.int (f_JL_numberOfTrailingZeros (f_X1_mayBeOne n0))]) C (c_JL_numberOfTrailingZeros l D (f_X1_mayBeOne n1)) (va_cwS 1 hts (gS wG_c wm_155 wm_156 wm_77 wm_154) rfl rfl rfl (by decide +kernel) ⟨Nat.le_of_ble_eq_true rfl, Nat.le_of_ble_eq_true rfl⟩) hK hP hD [] (by decide) rfl [] rfl rfl hl.1 rfl (Nat.le_of_ble_eq_true rfl) dX2_multiply_60 ⟨Nat.le_of_ble_eq_true rfl, Nat.le_of_ble_eq_true rfl⟩) hP hD hS hA [] rfl sp_f0 (fun H locs hP hD hS => ?_)
      have hP : va_P D vwCl ([(h0, .inr (2, [.ref h1, .ref h2, .ref h3])), (h1, .inr (1, nm_fs n0)), (h2, .inr (1, nm_fs n1)), (h3, .inr (1, nm_fs n2))]) H := hP
      have hD : va_D A ([(h0, .inr (2, [.ref h1, .ref h2, .ref h3])), (h1, .inr (1, nm_fs n0)), (h2, .inr (1, nm_fs n1)), (h3, .inr (1, nm_fs n2))]) := hD
      refine lv_iadd hx hb dX2_multiply_63 ?_
      refine lv_topi (fun v15 ev15 => ?_)
      refine lv_istore_n (lv' := [(1, .int v15), (0, .ref h0)]) hx hb dX2_multiply_64 rfl hl (by decide) rfl (fun ls hl => ?_)
      refine lv_aload_n hx hb dX2_multiply_65 rfl (lv_at hl 1 rfl) ?_
      refine va_get (D := D) (ci := 2) (v := .ref h3) (C := RX2) (T := TX2) (N := 3) hx hb hts hi2 hown hK hP 0 rfl rfl 2 (by decide) hk2 (fun _ h9 => h9) rfl dX2_multiply_66 ?_
      refine lv_lconst (v := 0) hx hb dX2_multiply_69 (by decide) ?_
      refine lv_iload_n hx hb dX2_multiply_70 rfl (lv_at hl 0 rfl) ?_
      refine lv_bipush (v := 64) hx hb dX2_multiply_71 (by decide) ?_
      refine lv_icmp_lt (tgt := 80) hx hb dX2_multiply_73 (by decide) (fun c16 => ?_) (fun c16 => ?_)
      · refine lv_ldc2 (v := (-1)) hx hb hown hk3 dX2_multiply_80 ?_
        refine lv_iload_n hx hb dX2_multiply_83 rfl (lv_at hl 0 rfl) ?_
        refine lv_lshl (v := ((-1) : Int64) <<< (v15.toInt64 &&& 63)) hx hb dX2_multiply_84 rfl ?_
        refine sp_callv (sp_runV (As := [.long 0, .long (((-1) : Int64) <<< (v15.toInt64 &&& 63))]) (rest := []) C (c_X1_setBits l D h3 n2 0 (((-1) : Int64) <<< (v15.toInt64 &&& 63))) (cwV 2 hts (gV wG_c wm_134 wm_29 wm_30 wm_31 wm_27) rfl rfl rfl (by decide +kernel) ⟨Nat.le_of_ble_eq_true rfl, Nat.le_of_ble_eq_true rfl⟩) hK hP hD [3] (by decide) rfl [] rfl 0 1 rfl rfl rfl rfl hl.1 rfl (Nat.le_of_ble_eq_true rfl) dX2_multiply_85 ⟨Nat.le_of_ble_eq_true rfl, Nat.le_of_ble_eq_true rfl⟩) hP hD hS hA [3] rfl (sp_fc sp_f0) (fun H locs hP hD hS => ?_)
        have hP : va_P D vwCl ([(h0, .inr (2, [.ref h1, .ref h2, .ref h3])), (h1, .inr (1, nm_fs n0)), (h2, .inr (1, nm_fs n1)), (h3, .inr (1, nm_fs (f_X1_setBits n2 0 (((-1) : Int64) <<< (v15.toInt64 &&& 63)))))]) H := hP
        have hD : va_D A ([(h0, .inr (2, [.ref h1, .ref h2, .ref h3])), (h1, .inr (1, nm_fs n0)), (h2, .inr (1, nm_fs n1)), (h3, .inr (1, nm_fs (f_X1_setBits n2 0 (((-1) : Int64) <<< (v15.toInt64 &&& 63)))))]) := hD
        refine lv_aload_n hx hb dX2_multiply_88 rfl (lv_at hl 1 rfl) ?_
        refine va_get (D := D) (ci := 2) (v := .ref h1) (C := RX2) (T := TX2) (N := 3) hx hb hts hi2 hown hK hP 0 rfl rfl 0 (by decide) hk0 (fun _ h9 => h9) rfl dX2_multiply_89 ?_
        refine va_get (D := D) (ci := 1) (v := .long n0.2.2.2.1) (C := RX1) (T := TX1) (N := 6) hx hb hts hi1 hown hK hP 1 rfl rfl 3 (by decide) hk4 (fun _ h9 => h9) rfl dX2_multiply_92 ?_
        refine lv_ldc2 (v := 4294967295) hx hb hown hk5 dX2_multiply_95 ?_
        refine sp_callz (sp_runSN (As := [.long n0.2.2.2.1, .long 4294967295]) (rest := []) C (c_X0_isAbove l D n0.2.2.2.1 4294967295) ⟨va_cnB 2 hts (gG wG_c wm_1) rfl rfl rfl (C.2.2.2.2.2.2.2.1 (RX2, 99, yX0_isAbove, "RangeDesk") (List.mem_of_getElem? (i := 5) rfl)) hk6 (by decide +kernel) ⟨Nat.le_of_ble_eq_true rfl, Nat.le_of_ble_eq_true rfl⟩, hk7, trivial⟩ hK hP hD [] (by decide) rfl [] rfl rfl hl.1 rfl (Nat.le_of_ble_eq_true rfl) dX2_multiply_98 ⟨Nat.le_of_ble_eq_true rfl, Nat.le_of_ble_eq_true rfl⟩) hP hD hS hA [] rfl sp_f0 (fun H locs z17 hP hD hS => ?_)
        have hP : va_P D vwCl ([(h0, .inr (2, [.ref h1, .ref h2, .ref h3])), (h1, .inr (1, nm_fs n0)), (h2, .inr (1, nm_fs n1)), (h3, .inr (1, nm_fs (f_X1_setBits n2 0 (((-1) : Int64) <<< (v15.toInt64 &&& 63)))))]) H := hP
        have hD : va_D A ([(h0, .inr (2, [.ref h1, .ref h2, .ref h3])), (h1, .inr (1, nm_fs n0)), (h2, .inr (1, nm_fs n1)), (h3, .inr (1, nm_fs (f_X1_setBits n2 0 (((-1) : Int64) <<< (v15.toInt64 &&& 63)))))]) := hD
        refine lv_if_ne (tgt := 157) hx hb dX2_multiply_101 (by decide) (fun c18 => ?_) (fun c18 => ?_)
        · have e9 : f_X2_multiply n0 n1 n2 = (f_X1_setBits n2 0 (((-1) : Int64) <<< (v15.toInt64 &&& 63))) := by
                subst ev15
                exact (if_neg c2).trans ((if_pos c14).trans ((if_pos c16).trans ((if_neg c18).trans (rfl))))
          rw [e9]
          exact sp_vret C hAe hP hK hD hS dX2_multiply_157
        · refine lv_aload_n hx hb dX2_multiply_104 rfl (lv_at hl 1 rfl) ?_
          refine va_get (D := D) (ci := 2) (v := .ref h2) (C := RX2) (T := TX2) (N := 3) hx hb hts hi2 hown hK hP 0 rfl rfl 1 (by decide) hk1 (fun _ h9 => h9) rfl dX2_multiply_105 ?_
          refine va_get (D := D) (ci := 1) (v := .long n1.2.2.2.1) (C := RX1) (T := TX1) (N := 6) hx hb hts hi1 hown hK hP 2 rfl rfl 3 (by decide) hk4 (fun _ h9 => h9) rfl dX2_multiply_108 ?_
          refine lv_ldc2 (v := 4294967295) hx hb hown hk5 dX2_multiply_111 ?_
          refine sp_callz (sp_runSN (As := [.long n1.2.2.2.1, .long 4294967295]) (rest := []) C (c_X0_isAbove l D n1.2.2.2.1 4294967295) ⟨va_cnB 2 hts (gG wG_c wm_1) rfl rfl rfl (C.2.2.2.2.2.2.2.1 (RX2, 99, yX0_isAbove, "RangeDesk") (List.mem_of_getElem? (i := 5) rfl)) hk6 (by decide +kernel) ⟨Nat.le_of_ble_eq_true rfl, Nat.le_of_ble_eq_true rfl⟩, hk7, trivial⟩ hK hP hD [] (by decide) rfl [] rfl rfl hl.1 rfl (Nat.le_of_ble_eq_true rfl) dX2_multiply_114 ⟨Nat.le_of_ble_eq_true rfl, Nat.le_of_ble_eq_true rfl⟩) hP hD hS hA [] rfl sp_f0 (fun H locs z19 hP hD hS => ?_)
          have hP : va_P D vwCl ([(h0, .inr (2, [.ref h1, .ref h2, .ref h3])), (h1, .inr (1, nm_fs n0)), (h2, .inr (1, nm_fs n1)), (h3, .inr (1, nm_fs (f_X1_setBits n2 0 (((-1) : Int64) <<< (v15.toInt64 &&& 63)))))]) H := hP
          have hD : va_D A ([(h0, .inr (2, [.ref h1, .ref h2, .ref h3])), (h1, .inr (1, nm_fs n0)), (h2, .inr (1, nm_fs n1)), (h3, .inr (1, nm_fs (f_X1_setBits n2 0 (((-1) : Int64) <<< (v15.toInt64 &&& 63)))))]) := hD
          refine lv_if_ne (tgt := 157) hx hb dX2_multiply_117 (by decide) (fun c20 => ?_) (fun c20 => ?_)
          · have e9 : f_X2_multiply n0 n1 n2 = (f_X1_setBits n2 0 (((-1) : Int64) <<< (v15.toInt64 &&& 63))) := by
                  subst ev15
                  exact (if_neg c2).trans ((if_pos c14).trans ((if_pos c16).trans ((if_pos c18).trans ((if_neg c20).trans (rfl)))))
            rw [e9]
            exact sp_vret C hAe hP hK hD hS dX2_multiply_157
          · refine lv_aload_n hx hb dX2_multiply_120 rfl (lv_at hl 1 rfl) ?_
            refine va_get (D := D) (ci := 2) (v := .ref h3) (C := RX2) (T := TX2) (N := 3) hx hb hts hi2 hown hK hP 0 rfl rfl 2 (by decide) hk2 (fun _ h9 => h9) rfl dX2_multiply_121 ?_
            refine lv_aload_n hx hb dX2_multiply_124 rfl (lv_at hl 1 rfl) ?_
            refine va_get (D := D) (ci := 2) (v := .ref h1) (C := RX2) (T := TX2) (N := 3) hx hb hts hi2 hown hK hP 0 rfl rfl 0 (by decide) hk0 (fun _ h9 => h9) rfl dX2_multiply_125 ?_
            refine va_get (D := D) (ci := 1) (v := .long n0.2.2.1) (C := RX1) (T := TX1) (N := 6) hx hb hts hi1 hown hK hP 1 rfl rfl 2 (by decide) hk8 (fun _ h9 => h9) rfl dX2_multiply_128 ?_
            refine lv_aload_n hx hb dX2_multiply_131 rfl (lv_at hl 1 rfl) ?_
            refine va_get (D := D) (ci := 2) (v := .ref h2) (C := RX2) (T := TX2) (N := 3) hx hb hts hi2 hown hK hP 0 rfl rfl 1 (by decide) hk1 (fun _ h9 => h9) rfl dX2_multiply_132 ?_
            refine va_get (D := D) (ci := 1) (v := .long n1.2.2.1) (C := RX1) (T := TX1) (N := 6) hx hb hts hi1 hown hK hP 2 rfl rfl 2 (by decide) hk8 (fun _ h9 => h9) rfl dX2_multiply_135 ?_
            refine lv_lmul hx hb dX2_multiply_138 ?_
            refine lv_aload_n hx hb dX2_multiply_139 rfl (lv_at hl 1 rfl) ?_
            refine va_get (D := D) (ci := 2) (v := .ref h1) (C := RX2) (T := TX2) (N := 3) hx hb hts hi2 hown hK hP 0 rfl rfl 0 (by decide) hk0 (fun _ h9 => h9) rfl dX2_multiply_140 ?_
            refine va_get (D := D) (ci := 1) (v := .long n0.2.2.2.1) (C := RX1) (T := TX1) (N := 6) hx hb hts hi1 hown hK hP 1 rfl rfl 3 (by decide) hk4 (fun _ h9 => h9) rfl dX2_multiply_143 ?_
            refine lv_aload_n hx hb dX2_multiply_146 rfl (lv_at hl 1 rfl) ?_
            refine va_get (D := D) (ci := 2) (v := .ref h2) (C := RX2) (T := TX2) (N := 3) hx hb hts hi2 hown hK hP 0 rfl rfl 1 (by decide) hk1 (fun _ h9 => h9) rfl dX2_multiply_147 ?_
            refine va_get (D := D) (ci := 1) (v := .long n1.2.2.2.1) (C := RX1) (T := TX1) (N := 6) hx hb hts hi1 hown hK hP 2 rfl rfl 3 (by decide) hk4 (fun _ h9 => h9) rfl dX2_multiply_150 ?_
            refine lv_lmul hx hb dX2_multiply_153 ?_
            refine sp_callv (sp_runV (As := [.long (n0.2.2.1 * n1.2.2.1), .long (n0.2.2.2.1 * n1.2.2.2.1)]) (rest := []) C (c_X1_setUnsigned l D h3 (f_X1_setBits n2 0 (((-1) : Int64) <<< (v15.toInt64 &&& 63))) (n0.2.2.1 * n1.2.2.1) (n0.2.2.2.1 * n1.2.2.2.1)) (cwV 2 hts (gV wG_c wm_139 wm_34 wm_35 wm_31 wm_32) rfl rfl rfl (by decide +kernel) ⟨Nat.le_of_ble_eq_true rfl, Nat.le_of_ble_eq_true rfl⟩) hK hP hD [3] (by decide) rfl [] rfl 0 1 rfl rfl rfl rfl hl.1 rfl (Nat.le_of_ble_eq_true rfl) dX2_multiply_154 ⟨Nat.le_of_ble_eq_true rfl, Nat.le_of_ble_eq_true rfl⟩) hP hD hS hA [3] rfl (sp_fc sp_f0) (fun H locs hP hD hS => ?_)
            have hP : va_P D vwCl ([(h0, .inr (2, [.ref h1, .ref h2, .ref h3])), (h1, .inr (1, nm_fs n0)), (h2, .inr (1, nm_fs n1)), (h3, .inr (1, nm_fs (f_X1_setUnsigned (f_X1_setBits n2 0 (((-1) : Int64) <<< (v15.toInt64 &&& 63))) (n0.2.2.1 * n1.2.2.1) (n0.2.2.2.1 * n1.2.2.2.1))))]) H := hP
            have hD : va_D A ([(h0, .inr (2, [.ref h1, .ref h2, .ref h3])), (h1, .inr (1, nm_fs n0)), (h2, .inr (1, nm_fs n1)), (h3, .inr (1, nm_fs (f_X1_setUnsigned (f_X1_setBits n2 0 (((-1) : Int64) <<< (v15.toInt64 &&& 63))) (n0.2.2.1 * n1.2.2.1) (n0.2.2.2.1 * n1.2.2.2.1))))]) := hD
            have e9 : f_X2_multiply n0 n1 n2 = (f_X1_setUnsigned (f_X1_setBits n2 0 (((-1) : Int64) <<< (v15.toInt64 &&& 63))) (n0.2.2.1 * n1.2.2.1) (n0.2.2.2.1 * n1.2.2.2.1)) := by
                  subst ev15
                  exact (if_neg c2).trans ((if_pos c14).trans ((if_pos c16).trans ((if_pos c18).trans ((if_pos c20).trans (rfl)))))
            rw [e9]
            exact sp_vret C hAe hP hK hD hS dX2_multiply_157
      · refine lv_lconst (v := 0) hx hb dX2_multiply_76 (by decide) ?_
        refine lv_goto (tgt := 85) hx hb dX2_multiply_77 (by decide) ?_
        refine sp_callv (sp_runV (As := [.long 0, .long 0]) (rest := []) C (c_X1_setBits l D h3 n2 0 0) (cwV 2 hts (gV wG_c wm_134 wm_29 wm_30 wm_31 wm_27) rfl rfl rfl (by decide +kernel) ⟨Nat.le_of_ble_eq_true rfl, Nat.le_of_ble_eq_true rfl⟩) hK hP hD [3] (by decide) rfl [] rfl 0 1 rfl rfl rfl rfl hl.1 rfl (Nat.le_of_ble_eq_true rfl) dX2_multiply_85 ⟨Nat.le_of_ble_eq_true rfl, Nat.le_of_ble_eq_true rfl⟩) hP hD hS hA [3] rfl (sp_fc sp_f0) (fun H locs hP hD hS => ?_)
        have hP : va_P D vwCl ([(h0, .inr (2, [.ref h1, .ref h2, .ref h3])), (h1, .inr (1, nm_fs n0)), (h2, .inr (1, nm_fs n1)), (h3, .inr (1, nm_fs (f_X1_setBits n2 0 0)))]) H := hP
        have hD : va_D A ([(h0, .inr (2, [.ref h1, .ref h2, .ref h3])), (h1, .inr (1, nm_fs n0)), (h2, .inr (1, nm_fs n1)), (h3, .inr (1, nm_fs (f_X1_setBits n2 0 0)))]) := hD
        refine lv_aload_n hx hb dX2_multiply_88 rfl (lv_at hl 1 rfl) ?_
        refine va_get (D := D) (ci := 2) (v := .ref h1) (C := RX2) (T := TX2) (N := 3) hx hb hts hi2 hown hK hP 0 rfl rfl 0 (by decide) hk0 (fun _ h9 => h9) rfl dX2_multiply_89 ?_
        refine va_get (D := D) (ci := 1) (v := .long n0.2.2.2.1) (C := RX1) (T := TX1) (N := 6) hx hb hts hi1 hown hK hP 1 rfl rfl 3 (by decide) hk4 (fun _ h9 => h9) rfl dX2_multiply_92 ?_
        refine lv_ldc2 (v := 4294967295) hx hb hown hk5 dX2_multiply_95 ?_
        refine sp_callz (sp_runSN (As := [.long n0.2.2.2.1, .long 4294967295]) (rest := []) C (c_X0_isAbove l D n0.2.2.2.1 4294967295) ⟨va_cnB 2 hts (gG wG_c wm_1) rfl rfl rfl (C.2.2.2.2.2.2.2.1 (RX2, 99, yX0_isAbove, "RangeDesk") (List.mem_of_getElem? (i := 5) rfl)) hk6 (by decide +kernel) ⟨Nat.le_of_ble_eq_true rfl, Nat.le_of_ble_eq_true rfl⟩, hk7, trivial⟩ hK hP hD [] (by decide) rfl [] rfl rfl hl.1 rfl (Nat.le_of_ble_eq_true rfl) dX2_multiply_98 ⟨Nat.le_of_ble_eq_true rfl, Nat.le_of_ble_eq_true rfl⟩) hP hD hS hA [] rfl sp_f0 (fun H locs z21 hP hD hS => ?_)
        have hP : va_P D vwCl ([(h0, .inr (2, [.ref h1, .ref h2, .ref h3])), (h1, .inr (1, nm_fs n0)), (h2, .inr (1, nm_fs n1)), (h3, .inr (1, nm_fs (f_X1_setBits n2 0 0)))]) H := hP
        have hD : va_D A ([(h0, .inr (2, [.ref h1, .ref h2, .ref h3])), (h1, .inr (1, nm_fs n0)), (h2, .inr (1, nm_fs n1)), (h3, .inr (1, nm_fs (f_X1_setBits n2 0 0)))]) := hD
        refine lv_if_ne (tgt := 157) hx hb dX2_multiply_101 (by decide) (fun c22 => ?_) (fun c22 => ?_)
        · have e9 : f_X2_multiply n0 n1 n2 = (f_X1_setBits n2 0 0) := by
                subst ev15
                exact (if_neg c2).trans ((if_pos c14).trans ((if_neg c16).trans ((if_neg c22).trans (rfl))))
          rw [e9]
          exact sp_vret C hAe hP hK hD hS dX2_multiply_157
        · refine lv_aload_n hx hb dX2_multiply_104 rfl (lv_at hl 1 rfl) ?_
          refine va_get (D := D) (ci := 2) (v := .ref h2) (C := RX2) (T := TX2) (N := 3) hx hb hts hi2 hown hK hP 0 rfl rfl 1 (by decide) hk1 (fun _ h9 => h9) rfl dX2_multiply_105 ?_
          refine va_get (D := D) (ci := 1) (v := .long n1.2.2.2.1) (C := RX1) (T := TX1) (N := 6) hx hb hts hi1 hown hK hP 2 rfl rfl 3 (by decide) hk4 (fun _ h9 => h9) rfl dX2_multiply_108 ?_
          refine lv_ldc2 (v := 4294967295) hx hb hown hk5 dX2_multiply_111 ?_
          refine sp_callz (sp_runSN (As := [.long n1.2.2.2.1, .long 4294967295]) (rest := []) C (c_X0_isAbove l D n1.2.2.2.1 4294967295) ⟨va_cnB 2 hts (gG wG_c wm_1) rfl rfl rfl (C.2.2.2.2.2.2.2.1 (RX2, 99, yX0_isAbove, "RangeDesk") (List.mem_of_getElem? (i := 5) rfl)) hk6 (by decide +kernel) ⟨Nat.le_of_ble_eq_true rfl, Nat.le_of_ble_eq_true rfl⟩, hk7, trivial⟩ hK hP hD [] (by decide) rfl [] rfl rfl hl.1 rfl (Nat.le_of_ble_eq_true rfl) dX2_multiply_114 ⟨Nat.le_of_ble_eq_true rfl, Nat.le_of_ble_eq_true rfl⟩) hP hD hS hA [] rfl sp_f0 (fun H locs z23 hP hD hS => ?_)
          have hP : va_P D vwCl ([(h0, .inr (2, [.ref h1, .ref h2, .ref h3])), (h1, .inr (1, nm_fs n0)), (h2, .inr (1, nm_fs n1)), (h3, .inr (1, nm_fs (f_X1_setBits n2 0 0)))]) H := hP
          have hD : va_D A ([(h0, .inr (2, [.ref h1, .ref h2, .ref h3])), (h1, .inr (1, nm_fs n0)), (h2, .inr (1, nm_fs n1)), (h3, .inr (1, nm_fs (f_X1_setBits n2 0 0)))]) := hD
          refine lv_if_ne (tgt := 157) hx hb dX2_multiply_117 (by decide) (fun c24 => ?_) (fun c24 => ?_)
          · have e9 : f_X2_multiply n0 n1 n2 = (f_X1_setBits n2 0 0) := by
                  subst ev15
                  exact (if_neg c2).trans ((if_pos c14).trans ((if_neg c16).trans ((if_pos c22).trans ((if_neg c24).trans (rfl)))))
            rw [e9]
            exact sp_vret C hAe hP hK hD hS dX2_multiply_157
          · refine lv_aload_n hx hb dX2_multiply_120 rfl (lv_at hl 1 rfl) ?_
            refine va_get (D := D) (ci := 2) (v := .ref h3) (C := RX2) (T := TX2) (N := 3) hx hb hts hi2 hown hK hP 0 rfl rfl 2 (by decide) hk2 (fun _ h9 => h9) rfl dX2_multiply_121 ?_
            refine lv_aload_n hx hb dX2_multiply_124 rfl (lv_at hl 1 rfl) ?_
            refine va_get (D := D) (ci := 2) (v := .ref h1) (C := RX2) (T := TX2) (N := 3) hx hb hts hi2 hown hK hP 0 rfl rfl 0 (by decide) hk0 (fun _ h9 => h9) rfl dX2_multiply_125 ?_
            refine va_get (D := D) (ci := 1) (v := .long n0.2.2.1) (C := RX1) (T := TX1) (N := 6) hx hb hts hi1 hown hK hP 1 rfl rfl 2 (by decide) hk8 (fun _ h9 => h9) rfl dX2_multiply_128 ?_
            refine lv_aload_n hx hb dX2_multiply_131 rfl (lv_at hl 1 rfl) ?_
            refine va_get (D := D) (ci := 2) (v := .ref h2) (C := RX2) (T := TX2) (N := 3) hx hb hts hi2 hown hK hP 0 rfl rfl 1 (by decide) hk1 (fun _ h9 => h9) rfl dX2_multiply_132 ?_
            refine va_get (D := D) (ci := 1) (v := .long n1.2.2.1) (C := RX1) (T := TX1) (N := 6) hx hb hts hi1 hown hK hP 2 rfl rfl 2 (by decide) hk8 (fun _ h9 => h9) rfl dX2_multiply_135 ?_
            refine lv_lmul hx hb dX2_multiply_138 ?_
            refine lv_aload_n hx hb dX2_multiply_139 rfl (lv_at hl 1 rfl) ?_
            refine va_get (D := D) (ci := 2) (v := .ref h1) (C := RX2) (T := TX2) (N := 3) hx hb hts hi2 hown hK hP 0 rfl rfl 0 (by decide) hk0 (fun _ h9 => h9) rfl dX2_multiply_140 ?_
            refine va_get (D := D) (ci := 1) (v := .long n0.2.2.2.1) (C := RX1) (T := TX1) (N := 6) hx hb hts hi1 hown hK hP 1 rfl rfl 3 (by decide) hk4 (fun _ h9 => h9) rfl dX2_multiply_143 ?_
            refine lv_aload_n hx hb dX2_multiply_146 rfl (lv_at hl 1 rfl) ?_
            refine va_get (D := D) (ci := 2) (v := .ref h2) (C := RX2) (T := TX2) (N := 3) hx hb hts hi2 hown hK hP 0 rfl rfl 1 (by decide) hk1 (fun _ h9 => h9) rfl dX2_multiply_147 ?_
            refine va_get (D := D) (ci := 1) (v := .long n1.2.2.2.1) (C := RX1) (T := TX1) (N := 6) hx hb hts hi1 hown hK hP 2 rfl rfl 3 (by decide) hk4 (fun _ h9 => h9) rfl dX2_multiply_150 ?_
            refine lv_lmul hx hb dX2_multiply_153 ?_
            refine sp_callv (sp_runV (As := [.long (n0.2.2.1 * n1.2.2.1), .long (n0.2.2.2.1 * n1.2.2.2.1)]) (rest := []) C (c_X1_setUnsigned l D h3 (f_X1_setBits n2 0 0) (n0.2.2.1 * n1.2.2.1) (n0.2.2.2.1 * n1.2.2.2.1)) (cwV 2 hts (gV wG_c wm_139 wm_34 wm_35 wm_31 wm_32) rfl rfl rfl (by decide +kernel) ⟨Nat.le_of_ble_eq_true rfl, Nat.le_of_ble_eq_true rfl⟩) hK hP hD [3] (by decide) rfl [] rfl 0 1 rfl rfl rfl rfl hl.1 rfl (Nat.le_of_ble_eq_true rfl) dX2_multiply_154 ⟨Nat.le_of_ble_eq_true rfl, Nat.le_of_ble_eq_true rfl⟩) hP hD hS hA [3] rfl (sp_fc sp_f0) (fun H locs hP hD hS => ?_)
            have hP : va_P D vwCl ([(h0, .inr (2, [.ref h1, .ref h2, .ref h3])), (h1, .inr (1, nm_fs n0)), (h2, .inr (1, nm_fs n1)), (h3, .inr (1, nm_fs (f_X1_setUnsigned (f_X1_setBits n2 0 0) (n0.2.2.1 * n1.2.2.1) (n0.2.2.2.1 * n1.2.2.2.1))))]) H := hP
            have hD : va_D A ([(h0, .inr (2, [.ref h1, .ref h2, .ref h3])), (h1, .inr (1, nm_fs n0)), (h2, .inr (1, nm_fs n1)), (h3, .inr (1, nm_fs (f_X1_setUnsigned (f_X1_setBits n2 0 0) (n0.2.2.1 * n1.2.2.1) (n0.2.2.2.1 * n1.2.2.2.1))))]) := hD
            have e9 : f_X2_multiply n0 n1 n2 = (f_X1_setUnsigned (f_X1_setBits n2 0 0) (n0.2.2.1 * n1.2.2.1) (n0.2.2.2.1 * n1.2.2.2.1)) := by
                  subst ev15
                  exact (if_neg c2).trans ((if_pos c14).trans ((if_neg c16).trans ((if_pos c22).trans ((if_pos c24).trans (rfl)))))
            rw [e9]
            exact sp_vret C hAe hP hK hD hS dX2_multiply_157
    · refine lv_aload_n hx hb dX2_multiply_20 rfl (lv_at hl 0 rfl) ?_
      refine va_get (D := D) (ci := 2) (v := .ref h3) (C := RX2) (T := TX2) (N := 3) hx hb hts hi2 hown hK hP 0 rfl rfl 2 (by decide) hk2 (fun _ h9 => h9) rfl dX2_multiply_21 ?_
      refine lv_aload_n hx hb dX2_multiply_24 rfl (lv_at hl 0 rfl) ?_
      refine va_get (D := D) (ci := 2) (v := .ref h1) (C := RX2) (T := TX2) (N := 3) hx hb hts hi2 hown hK hP 0 rfl rfl 0 (by decide) hk0 (fun _ h9 => h9) rfl dX2_multiply_25 ?_
      refine va_get (D := D) (ci := 1) (v := .long n0.1) (C := RX1) (T := TX1) (N := 6) hx hb hts hi1 hown hK hP 1 rfl rfl 0 (by decide) hk9 (fun _ h9 => h9) rfl dX2_multiply_28 ?_
      refine lv_aload_n hx hb dX2_multiply_31 rfl (lv_at hl 0 rfl) ?_
      refine va_get (D := D) (ci := 2) (v := .ref h2) (C := RX2) (T := TX2) (N := 3) hx hb hts hi2 hown hK hP 0 rfl rfl 1 (by decide) hk1 (fun _ h9 => h9) rfl dX2_multiply_32 ?_
      refine va_get (D := D) (ci := 1) (v := .long n1.1) (C := RX1) (T := TX1) (N := 6) hx hb hts hi1 hown hK hP 2 rfl rfl 0 (by decide) hk9 (fun _ h9 => h9) rfl dX2_multiply_35 ?_
      refine lv_lmul hx hb dX2_multiply_38 ?_
      refine sp_callv (sp_runV (As := [.long (n0.1 * n1.1)]) (rest := []) C (c_X1_becomeExact l D h3 n2 (n0.1 * n1.1)) (cwV 1 hts (gV wG_c wm_158 wm_159 wm_160 wm_31 wm_157) rfl rfl rfl (by decide +kernel) ⟨Nat.le_of_ble_eq_true rfl, Nat.le_of_ble_eq_true rfl⟩) hK hP hD [3] (by decide) rfl [] rfl 0 1 rfl rfl rfl rfl hl.1 rfl (Nat.le_of_ble_eq_true rfl) dX2_multiply_39 ⟨Nat.le_of_ble_eq_true rfl, Nat.le_of_ble_eq_true rfl⟩) hP hD hS hA [3] rfl (sp_fc sp_f0) (fun H locs hP hD hS => ?_)
      have hP : va_P D vwCl ([(h0, .inr (2, [.ref h1, .ref h2, .ref h3])), (h1, .inr (1, nm_fs n0)), (h2, .inr (1, nm_fs n1)), (h3, .inr (1, nm_fs (f_X1_becomeExact n2 (n0.1 * n1.1))))]) H := hP
      have hD : va_D A ([(h0, .inr (2, [.ref h1, .ref h2, .ref h3])), (h1, .inr (1, nm_fs n0)), (h2, .inr (1, nm_fs n1)), (h3, .inr (1, nm_fs (f_X1_becomeExact n2 (n0.1 * n1.1))))]) := hD
      have e9 : f_X2_multiply n0 n1 n2 = (f_X1_becomeExact n2 (n0.1 * n1.1)) := (if_neg c2).trans ((if_neg c14).trans (rfl))
      rw [e9]
      exact sp_vret C hAe hP hK hD hS dX2_multiply_42
def f_X2_divide (n0 : Nm) (n1 : Nm) (n2 : Nm) : Nm :=
  if (f_X1_isExact n1) = 0 then (f_X1_setUnsigned n2 0 n0.2.2.2.1)
  else (f_X1_setUnsigned n2 (f_X2_quotient n0.2.2.1 n1.1) (f_X2_quotient n0.2.2.2.1 n1.1))
set_option maxHeartbeats 4000000 in
set_option maxRecDepth 100000 in
theorem c_X2_divide (l : Launch) (D : va_G) (h0 : Nat) (h1 : Nat) (h2 : Nat) (h3 : Nat) (n0 : Nm) (n1 : Nm) (n2 : Nm) : sp_M l yX2_divide wsX2_divide ({ frames := 2, cells := 0, slots := 0, locals := 48 }) D [.ref h0] ([(h0, .inr (2, [.ref h1, .ref h2, .ref h3])), (h1, .inr (1, nm_fs n0)), (h2, .inr (1, nm_fs n1)), (h3, .inr (1, nm_fs n2))]) [] (sp_Qv D ([(h0, .inr (2, [.ref h1, .ref h2, .ref h3])), (h1, .inr (1, nm_fs n0)), (h2, .inr (1, nm_fs n1)), (h3, .inr (1, nm_fs n2))]) ([(h0, .inr (2, [.ref h1, .ref h2, .ref h3])), (h1, .inr (1, nm_fs n0)), (h2, .inr (1, nm_fs n1)), (h3, .inr (1, nm_fs (f_X2_divide n0 n1 n2)))]) []) := by
  refine sp_ofW (cc := cX2_divide) (nL := 1) (ret := none) (own := RX2) (by decide) rfl rfl (Nat.le_of_ble_eq_true rfl) ?_
  intro p e s m below meth c A ls hAe hnm C hA hP hK hD hS hl
  have hx := C.1
  have hb := C.2.1
  have hown := C.2.2.2.2.1
  have hts := C.2.2.2.2.2.1
  have hl : lv_has ls 1 [(0, .ref h0)] := hl
  have hi1 : ∀ w ∈ u_ws RX1 TX1 6, w ∈ wsX2_divide := fun w h => List.mem_cons_of_mem _ (inX1 w h)
  have hi2 : ∀ w ∈ u_ws RX2 TX2 3, w ∈ wsX2_divide := fun w h => List.mem_cons_of_mem _ (inX2 w h)
  have hk0 := hts _ (List.mem_cons_of_mem _ wm_109)
  have hk1 := hts _ (List.mem_cons_of_mem _ wm_110)
  have hk2 := hts _ (List.mem_cons_of_mem _ wm_108)
  have hk3 := hts _ (List.mem_cons_of_mem _ wm_145)
  have hk4 := hts _ (List.mem_cons_of_mem _ wm_140)
  have hk5 := hts _ (List.mem_cons_of_mem _ wm_142)
  refine lv_aload_n hx hb dX2_divide_0 rfl (lv_at hl 0 rfl) ?_
  refine va_get (D := D) (ci := 2) (v := .ref h2) (C := RX2) (T := TX2) (N := 3) hx hb hts hi2 hown hK hP 0 rfl rfl 1 (by decide) hk0 (fun _ h9 => h9) rfl dX2_divide_1 ?_
  refine sp_callz (sp_runV (As := []) (rest := []) C (c_X1_isExact l D h2 n1) (cwV 0 hts (gV wG_c wm_150 wm_151 wm_152 wm_31 wm_149) rfl rfl rfl (by decide +kernel) ⟨Nat.le_of_ble_eq_true rfl, Nat.le_of_ble_eq_true rfl⟩) hK hP hD [2] (by decide) rfl [] rfl 0 1 rfl rfl rfl rfl hl.1 rfl (Nat.le_of_ble_eq_true rfl) dX2_divide_4 ⟨Nat.le_of_ble_eq_true rfl, Nat.le_of_ble_eq_true rfl⟩) hP hD hS hA [2] rfl (sp_fc sp_f0) (fun H locs z1 hP hD hS => ?_)
  have hP : va_P D vwCl ([(h0, .inr (2, [.ref h1, .ref h2, .ref h3])), (h1, .inr (1, nm_fs n0)), (h2, .inr (1, nm_fs n1)), (h3, .inr (1, nm_fs n2))]) H := hP
  have hD : va_D A ([(h0, .inr (2, [.ref h1, .ref h2, .ref h3])), (h1, .inr (1, nm_fs n0)), (h2, .inr (1, nm_fs n1)), (h3, .inr (1, nm_fs n2))]) := hD
  refine lv_if_ne (tgt := 28) hx hb dX2_divide_7 (by decide) (fun c2 => ?_) (fun c2 => ?_)
  · refine lv_aload_n hx hb dX2_divide_28 rfl (lv_at hl 0 rfl) ?_
    refine va_get (D := D) (ci := 2) (v := .ref h3) (C := RX2) (T := TX2) (N := 3) hx hb hts hi2 hown hK hP 0 rfl rfl 2 (by decide) hk1 (fun _ h9 => h9) rfl dX2_divide_29 ?_
    refine lv_aload_n hx hb dX2_divide_32 rfl (lv_at hl 0 rfl) ?_
    refine va_get (D := D) (ci := 2) (v := .ref h1) (C := RX2) (T := TX2) (N := 3) hx hb hts hi2 hown hK hP 0 rfl rfl 0 (by decide) hk2 (fun _ h9 => h9) rfl dX2_divide_33 ?_
    refine va_get (D := D) (ci := 1) (v := .long n0.2.2.1) (C := RX1) (T := TX1) (N := 6) hx hb hts hi1 hown hK hP 1 rfl rfl 2 (by decide) hk3 (fun _ h9 => h9) rfl dX2_divide_36 ?_
    refine lv_aload_n hx hb dX2_divide_39 rfl (lv_at hl 0 rfl) ?_
    refine va_get (D := D) (ci := 2) (v := .ref h2) (C := RX2) (T := TX2) (N := 3) hx hb hts hi2 hown hK hP 0 rfl rfl 1 (by decide) hk0 (fun _ h9 => h9) rfl dX2_divide_40 ?_
    refine va_get (D := D) (ci := 1) (v := .long n1.1) (C := RX1) (T := TX1) (N := 6) hx hb hts hi1 hown hK hP 2 rfl rfl 0 (by decide) hk4 (fun _ h9 => h9) rfl dX2_divide_43 ?_
    refine sp_calll (sp_runS (As := [.long n0.2.2.1, .long n1.1]) (rest := [.ref h3]) C (c_X2_quotient l D n0.2.2.1 n1.1) (va_cwS 2 hts (gS wG_c wm_163 wm_164 wm_122 wm_162) rfl rfl rfl (by decide +kernel) ⟨Nat.le_of_ble_eq_true rfl, Nat.le_of_ble_eq_true rfl⟩) hK hP hD [] (by decide) rfl [] rfl rfl hl.1 rfl (Nat.le_of_ble_eq_true rfl) dX2_divide_46 ⟨Nat.le_of_ble_eq_true rfl, Nat.le_of_ble_eq_true rfl⟩) hP hD hS hA [] rfl sp_f0 (fun H locs hP hD hS => ?_)
    have hP : va_P D vwCl ([(h0, .inr (2, [.ref h1, .ref h2, .ref h3])), (h1, .inr (1, nm_fs n0)), (h2, .inr (1, nm_fs n1)), (h3, .inr (1, nm_fs n2))]) H := hP
    have hD : va_D A ([(h0, .inr (2, [.ref h1, .ref h2, .ref h3])), (h1, .inr (1, nm_fs n0)), (h2, .inr (1, nm_fs n1)), (h3, .inr (1, nm_fs n2))]) := hD
    refine lv_aload_n hx hb dX2_divide_49 rfl (lv_at hl 0 rfl) ?_
    refine va_get (D := D) (ci := 2) (v := .ref h1) (C := RX2) (T := TX2) (N := 3) hx hb hts hi2 hown hK hP 0 rfl rfl 0 (by decide) hk2 (fun _ h9 => h9) rfl dX2_divide_50 ?_
    refine va_get (D := D) (ci := 1) (v := .long n0.2.2.2.1) (C := RX1) (T := TX1) (N := 6) hx hb hts hi1 hown hK hP 1 rfl rfl 3 (by decide) hk5 (fun _ h9 => h9) rfl dX2_divide_53 ?_
    refine lv_aload_n hx hb dX2_divide_56 rfl (lv_at hl 0 rfl) ?_
    refine va_get (D := D) (ci := 2) (v := .ref h2) (C := RX2) (T := TX2) (N := 3) hx hb hts hi2 hown hK hP 0 rfl rfl 1 (by decide) hk0 (fun _ h9 => h9) rfl dX2_divide_57 ?_
    refine va_get (D := D) (ci := 1) (v := .long n1.1) (C := RX1) (T := TX1) (N := 6) hx hb hts hi1 hown hK hP 2 rfl rfl 0 (by decide) hk4 (fun _ h9 => h9) rfl dX2_divide_60 ?_
    refine sp_calll (sp_runS (As := [.long n0.2.2.2.1, .long n1.1]) (rest := [.long (f_X2_quotient n0.2.2.1 n1.1), .ref h3]) C (c_X2_quotient l D n0.2.2.2.1 n1.1) (va_cwS 2 hts (gS wG_c wm_163 wm_164 wm_122 wm_162) rfl rfl rfl (by decide +kernel) ⟨Nat.le_of_ble_eq_true rfl, Nat.le_of_ble_eq_true rfl⟩) hK hP hD [] (by decide) rfl [] rfl rfl hl.1 rfl (Nat.le_of_ble_eq_true rfl) dX2_divide_63 ⟨Nat.le_of_ble_eq_true rfl, Nat.le_of_ble_eq_true rfl⟩) hP hD hS hA [] rfl sp_f0 (fun H locs hP hD hS => ?_)
    have hP : va_P D vwCl ([(h0, .inr (2, [.ref h1, .ref h2, .ref h3])), (h1, .inr (1, nm_fs n0)), (h2, .inr (1, nm_fs n1)), (h3, .inr (1, nm_fs n2))]) H := hP
    have hD : va_D A ([(h0, .inr (2, [.ref h1, .ref h2, .ref h3])), (h1, .inr (1, nm_fs n0)), (h2, .inr (1, nm_fs n1)), (h3, .inr (1, nm_fs n2))]) := hD
    refine sp_callv (sp_runV (As := [.long (f_X2_quotient n0.2.2.1 n1.1), .long (f_X2_quotient n0.2.2.2.1 n1.1)]) (rest := []) C (c_X1_setUnsigned l D h3 n2 (f_X2_quotient n0.2.2.1 n1.1) (f_X2_quotient n0.2.2.2.1 n1.1)) (cwV 2 hts (gV wG_c wm_139 wm_34 wm_35 wm_31 wm_32) rfl rfl rfl (by decide +kernel) ⟨Nat.le_of_ble_eq_true rfl, Nat.le_of_ble_eq_true rfl⟩) hK hP hD [3] (by decide) rfl [] rfl 0 1 rfl rfl rfl rfl hl.1 rfl (Nat.le_of_ble_eq_true rfl) dX2_divide_66 ⟨Nat.le_of_ble_eq_true rfl, Nat.le_of_ble_eq_true rfl⟩) hP hD hS hA [3] rfl (sp_fc sp_f0) (fun H locs hP hD hS => ?_)
    have hP : va_P D vwCl ([(h0, .inr (2, [.ref h1, .ref h2, .ref h3])), (h1, .inr (1, nm_fs n0)), (h2, .inr (1, nm_fs n1)), (h3, .inr (1, nm_fs (f_X1_setUnsigned n2 (f_X2_quotient n0.2.2.1 n1.1) (f_X2_quotient n0.2.2.2.1 n1.1))))]) H := hP
    have hD : va_D A ([(h0, .inr (2, [.ref h1, .ref h2, .ref h3])), (h1, .inr (1, nm_fs n0)), (h2, .inr (1, nm_fs n1)), (h3, .inr (1, nm_fs (f_X1_setUnsigned n2 (f_X2_quotient n0.2.2.1 n1.1) (f_X2_quotient n0.2.2.2.1 n1.1))))]) := hD
    have e9 : f_X2_divide n0 n1 n2 = (f_X1_setUnsigned n2 (f_X2_quotient n0.2.2.1 n1.1) (f_X2_quotient n0.2.2.2.1 n1.1)) := (if_neg c2).trans (rfl)
    rw [e9]
    exact sp_vret C hAe hP hK hD hS dX2_divide_69
  · refine lv_aload_n hx hb dX2_divide_10 rfl (lv_at hl 0 rfl) ?_
    refine va_get (D := D) (ci := 2) (v := .ref h3) (C := RX2) (T := TX2) (N := 3) hx hb hts hi2 hown hK hP 0 rfl rfl 2 (by decide) hk1 (fun _ h9 => h9) rfl dX2_divide_11 ?_
    refine lv_lconst (v := 0) hx hb dX2_divide_14 (by decide) ?_
    refine lv_aload_n hx hb dX2_divide_15 rfl (lv_at hl 0 rfl) ?_
    refine va_get (D := D) (ci := 2) (v := .ref h1) (C := RX2) (T := TX2) (N := 3) hx hb hts hi2 hown hK hP 0 rfl rfl 0 (by decide) hk2 (fun _ h9 => h9) rfl dX2_divide_16 ?_
    refine va_get (D := D) (ci := 1) (v := .long n0.2.2.2.1) (C := RX1) (T := TX1) (N := 6) hx hb hts hi1 hown hK hP 1 rfl rfl 3 (by decide) hk5 (fun _ h9 => h9) rfl dX2_divide_19 ?_
    refine sp_callv (sp_runV (As := [.long 0, .long n0.2.2.2.1]) (rest := []) C (c_X1_setUnsigned l D h3 n2 0 n0.2.2.2.1) (cwV 2 hts (gV wG_c wm_139 wm_34 wm_35 wm_31 wm_32) rfl rfl rfl (by decide +kernel) ⟨Nat.le_of_ble_eq_true rfl, Nat.le_of_ble_eq_true rfl⟩) hK hP hD [3] (by decide) rfl [] rfl 0 1 rfl rfl rfl rfl hl.1 rfl (Nat.le_of_ble_eq_true rfl) dX2_divide_22 ⟨Nat.le_of_ble_eq_true rfl, Nat.le_of_ble_eq_true rfl⟩) hP hD hS hA [3] rfl (sp_fc sp_f0) (fun H locs hP hD hS => ?_)
    have hP : va_P D vwCl ([(h0, .inr (2, [.ref h1, .ref h2, .ref h3])), (h1, .inr (1, nm_fs n0)), (h2, .inr (1, nm_fs n1)), (h3, .inr (1, nm_fs (f_X1_setUnsigned n2 0 n0.2.2.2.1)))]) H := hP
    have hD : va_D A ([(h0, .inr (2, [.ref h1, .ref h2, .ref h3])), (h1, .inr (1, nm_fs n0)), (h2, .inr (1, nm_fs n1)), (h3, .inr (1, nm_fs (f_X1_setUnsigned n2 0 n0.2.2.2.1)))]) := hD
    refine lv_goto (tgt := 69) hx hb dX2_divide_25 (by decide) ?_
    have e9 : f_X2_divide n0 n1 n2 = (f_X1_setUnsigned n2 0 n0.2.2.2.1) := (if_pos c2).trans (rfl)
    rw [e9]
    exact sp_vret C hAe hP hK hD hS dX2_divide_69
def f_X2_rest (n0 : Nm) (n1 : Nm) (n2 : Nm) : Nm :=
  if (f_X1_isExact n1) = 0 then (f_X1_setUnsigned n2 0 n0.2.2.2.1)
  else if (lg_cmp n1.1 0) = 0 then (f_X1_become n2 n0)
  else if (f_X0_isAbove n1.1 n0.2.2.2.1) = 0 then (f_X1_setUnsigned n2 0 (n1.1 - 1))
  else (f_X1_become n2 n0)
set_option maxHeartbeats 4000000 in
set_option maxRecDepth 100000 in
theorem c_X2_rest (l : Launch) (D : va_G) (h0 : Nat) (h1 : Nat) (h2 : Nat) (h3 : Nat) (n0 : Nm) (n1 : Nm) (n2 : Nm) : sp_M l yX2_rest wsX2_rest ({ frames := 2, cells := 0, slots := 0, locals := 45 }) D [.ref h0] ([(h0, .inr (2, [.ref h1, .ref h2, .ref h3])), (h1, .inr (1, nm_fs n0)), (h2, .inr (1, nm_fs n1)), (h3, .inr (1, nm_fs n2))]) [] (sp_Qv D ([(h0, .inr (2, [.ref h1, .ref h2, .ref h3])), (h1, .inr (1, nm_fs n0)), (h2, .inr (1, nm_fs n1)), (h3, .inr (1, nm_fs n2))]) ([(h0, .inr (2, [.ref h1, .ref h2, .ref h3])), (h1, .inr (1, nm_fs n0)), (h2, .inr (1, nm_fs n1)), (h3, .inr (1, nm_fs (f_X2_rest n0 n1 n2)))]) []) := by
  refine sp_ofW (cc := cX2_rest) (nL := 1) (ret := none) (own := RX2) (by decide) rfl rfl (Nat.le_of_ble_eq_true rfl) ?_
  intro p e s m below meth c A ls hAe hnm C hA hP hK hD hS hl
  have hx := C.1
  have hb := C.2.1
  have hown := C.2.2.2.2.1
  have hts := C.2.2.2.2.2.1
  have hl : lv_has ls 1 [(0, .ref h0)] := hl
  have hi1 : ∀ w ∈ u_ws RX1 TX1 6, w ∈ wsX2_rest := fun w h => List.mem_cons_of_mem _ (inX1 w h)
  have hi2 : ∀ w ∈ u_ws RX2 TX2 3, w ∈ wsX2_rest := fun w h => List.mem_cons_of_mem _ (inX2 w h)
  have hk0 := hts _ (List.mem_cons_of_mem _ wm_109)
  have hk1 := hts _ (List.mem_cons_of_mem _ wm_140)
  have hk2 := hts _ (List.mem_cons_of_mem _ wm_110)
  have hk3 := hts _ (List.mem_cons_of_mem _ wm_108)
  have hk4 := hts _ (List.mem_cons_of_mem _ wm_142)
  have hk5 := hts _ (List.mem_cons_of_mem _ wm_4)
  have hk6 := hts _ (List.mem_cons_of_mem _ wm_3)
  refine lv_aload_n hx hb dX2_rest_0 rfl (lv_at hl 0 rfl) ?_
  refine va_get (D := D) (ci := 2) (v := .ref h2) (C := RX2) (T := TX2) (N := 3) hx hb hts hi2 hown hK hP 0 rfl rfl 1 (by decide) hk0 (fun _ h9 => h9) rfl dX2_rest_1 ?_
  refine sp_callz (sp_runV (As := []) (rest := []) C (c_X1_isExact l D h2 n1) (cwV 0 hts (gV wG_c wm_150 wm_151 wm_152 wm_31 wm_149) rfl rfl rfl (by decide +kernel) ⟨Nat.le_of_ble_eq_true rfl, Nat.le_of_ble_eq_true rfl⟩) hK hP hD [2] (by decide) rfl [] rfl 0 1 rfl rfl rfl rfl hl.1 rfl (Nat.le_of_ble_eq_true rfl) dX2_rest_4 ⟨Nat.le_of_ble_eq_true rfl, Nat.le_of_ble_eq_true rfl⟩) hP hD hS hA [2] rfl (sp_fc sp_f0) (fun H locs z1 hP hD hS => ?_)
  have hP : va_P D vwCl ([(h0, .inr (2, [.ref h1, .ref h2, .ref h3])), (h1, .inr (1, nm_fs n0)), (h2, .inr (1, nm_fs n1)), (h3, .inr (1, nm_fs n2))]) H := hP
  have hD : va_D A ([(h0, .inr (2, [.ref h1, .ref h2, .ref h3])), (h1, .inr (1, nm_fs n0)), (h2, .inr (1, nm_fs n1)), (h3, .inr (1, nm_fs n2))]) := hD
  refine lv_if_ne (tgt := 28) hx hb dX2_rest_7 (by decide) (fun c2 => ?_) (fun c2 => ?_)
  · refine lv_aload_n hx hb dX2_rest_28 rfl (lv_at hl 0 rfl) ?_
    refine va_get (D := D) (ci := 2) (v := .ref h2) (C := RX2) (T := TX2) (N := 3) hx hb hts hi2 hown hK hP 0 rfl rfl 1 (by decide) hk0 (fun _ h9 => h9) rfl dX2_rest_29 ?_
    refine va_get (D := D) (ci := 1) (v := .long n1.1) (C := RX1) (T := TX1) (N := 6) hx hb hts hi1 hown hK hP 2 rfl rfl 0 (by decide) hk1 (fun _ h9 => h9) rfl dX2_rest_32 ?_
    refine lv_lconst (v := 0) hx hb dX2_rest_35 (by decide) ?_
    refine W.lcmp hx hb dX2_rest_36 ?_
    refine lv_if_eq (tgt := 60) hx hb dX2_rest_37 (by decide) (fun c3 => ?_) (fun c3 => ?_)
    · refine lv_aload_n hx hb dX2_rest_60 rfl (lv_at hl 0 rfl) ?_
      refine va_get (D := D) (ci := 2) (v := .ref h3) (C := RX2) (T := TX2) (N := 3) hx hb hts hi2 hown hK hP 0 rfl rfl 2 (by decide) hk2 (fun _ h9 => h9) rfl dX2_rest_61 ?_
      refine lv_aload_n hx hb dX2_rest_64 rfl (lv_at hl 0 rfl) ?_
      refine va_get (D := D) (ci := 2) (v := .ref h1) (C := RX2) (T := TX2) (N := 3) hx hb hts hi2 hown hK hP 0 rfl rfl 0 (by decide) hk3 (fun _ h9 => h9) rfl dX2_rest_65 ?_
      refine sp_callv (sp_runV (As := [.ref h1]) (rest := []) C (c_X1_become l D h3 h1 n2 n0) (cwV 1 hts (gV wG_c wm_166 wm_167 wm_168 wm_31 wm_165) rfl rfl rfl (by decide +kernel) ⟨Nat.le_of_ble_eq_true rfl, Nat.le_of_ble_eq_true rfl⟩) hK hP hD [3, 1] (by decide) rfl [] rfl 0 1 rfl rfl rfl rfl hl.1 rfl (Nat.le_of_ble_eq_true rfl) dX2_rest_68 ⟨Nat.le_of_ble_eq_true rfl, Nat.le_of_ble_eq_true rfl⟩) hP hD hS hA [3, 1] rfl (sp_fc (sp_fc sp_f0)) (fun H locs hP hD hS => ?_)
      have hP : va_P D vwCl ([(h0, .inr (2, [.ref h1, .ref h2, .ref h3])), (h1, .inr (1, nm_fs n0)), (h2, .inr (1, nm_fs n1)), (h3, .inr (1, nm_fs (f_X1_become n2 n0)))]) H := hP
      have hD : va_D A ([(h0, .inr (2, [.ref h1, .ref h2, .ref h3])), (h1, .inr (1, nm_fs n0)), (h2, .inr (1, nm_fs n1)), (h3, .inr (1, nm_fs (f_X1_become n2 n0)))]) := hD
      refine lv_goto (tgt := 91) hx hb dX2_rest_71 (by decide) ?_
      have e9 : f_X2_rest n0 n1 n2 = (f_X1_become n2 n0) := (if_neg c2).trans ((if_pos c3).trans (rfl))
      rw [e9]
      exact sp_vret C hAe hP hK hD hS dX2_rest_91
    · refine lv_aload_n hx hb dX2_rest_40 rfl (lv_at hl 0 rfl) ?_
      refine va_get (D := D) (ci := 2) (v := .ref h2) (C := RX2) (T := TX2) (N := 3) hx hb hts hi2 hown hK hP 0 rfl rfl 1 (by decide) hk0 (fun _ h9 => h9) rfl dX2_rest_41 ?_
      refine va_get (D := D) (ci := 1) (v := .long n1.1) (C := RX1) (T := TX1) (N := 6) hx hb hts hi1 hown hK hP 2 rfl rfl 0 (by decide) hk1 (fun _ h9 => h9) rfl dX2_rest_44 ?_
      refine lv_aload_n hx hb dX2_rest_47 rfl (lv_at hl 0 rfl) ?_
      refine va_get (D := D) (ci := 2) (v := .ref h1) (C := RX2) (T := TX2) (N := 3) hx hb hts hi2 hown hK hP 0 rfl rfl 0 (by decide) hk3 (fun _ h9 => h9) rfl dX2_rest_48 ?_
      refine va_get (D := D) (ci := 1) (v := .long n0.2.2.2.1) (C := RX1) (T := TX1) (N := 6) hx hb hts hi1 hown hK hP 1 rfl rfl 3 (by decide) hk4 (fun _ h9 => h9) rfl dX2_rest_51 ?_
      refine sp_callz (sp_runSN (As := [.long n1.1, .long n0.2.2.2.1]) (rest := []) C (c_X0_isAbove l D n1.1 n0.2.2.2.1) ⟨va_cnB 2 hts (gG wG_c wm_1) rfl rfl rfl (C.2.2.2.2.2.2.2.1 (RX2, 99, yX0_isAbove, "RangeDesk") (List.mem_of_getElem? (i := 5) rfl)) hk5 (by decide +kernel) ⟨Nat.le_of_ble_eq_true rfl, Nat.le_of_ble_eq_true rfl⟩, hk6, trivial⟩ hK hP hD [] (by decide) rfl [] rfl rfl hl.1 rfl (Nat.le_of_ble_eq_true rfl) dX2_rest_54 ⟨Nat.le_of_ble_eq_true rfl, Nat.le_of_ble_eq_true rfl⟩) hP hD hS hA [] rfl sp_f0 (fun H locs z4 hP hD hS => ?_)
      have hP : va_P D vwCl ([(h0, .inr (2, [.ref h1, .ref h2, .ref h3])), (h1, .inr (1, nm_fs n0)), (h2, .inr (1, nm_fs n1)), (h3, .inr (1, nm_fs n2))]) H := hP
      have hD : va_D A ([(h0, .inr (2, [.ref h1, .ref h2, .ref h3])), (h1, .inr (1, nm_fs n0)), (h2, .inr (1, nm_fs n1)), (h3, .inr (1, nm_fs n2))]) := hD
      refine lv_if_eq (tgt := 74) hx hb dX2_rest_57 (by decide) (fun c5 => ?_) (fun c5 => ?_)
      · refine lv_aload_n hx hb dX2_rest_74 rfl (lv_at hl 0 rfl) ?_
        refine va_get (D := D) (ci := 2) (v := .ref h3) (C := RX2) (T := TX2) (N := 3) hx hb hts hi2 hown hK hP 0 rfl rfl 2 (by decide) hk2 (fun _ h9 => h9) rfl dX2_rest_75 ?_
        refine lv_lconst (v := 0) hx hb dX2_rest_78 (by decide) ?_
        refine lv_aload_n hx hb dX2_rest_79 rfl (lv_at hl 0 rfl) ?_
        refine va_get (D := D) (ci := 2) (v := .ref h2) (C := RX2) (T := TX2) (N := 3) hx hb hts hi2 hown hK hP 0 rfl rfl 1 (by decide) hk0 (fun _ h9 => h9) rfl dX2_rest_80 ?_
        refine va_get (D := D) (ci := 1) (v := .long n1.1) (C := RX1) (T := TX1) (N := 6) hx hb hts hi1 hown hK hP 2 rfl rfl 0 (by decide) hk1 (fun _ h9 => h9) rfl dX2_rest_83 ?_
        refine lv_lconst (v := 1) hx hb dX2_rest_86 (by decide) ?_
        refine lv_lsub hx hb dX2_rest_87 ?_
        refine sp_callv (sp_runV (As := [.long 0, .long (n1.1 - 1)]) (rest := []) C (c_X1_setUnsigned l D h3 n2 0 (n1.1 - 1)) (cwV 2 hts (gV wG_c wm_139 wm_34 wm_35 wm_31 wm_32) rfl rfl rfl (by decide +kernel) ⟨Nat.le_of_ble_eq_true rfl, Nat.le_of_ble_eq_true rfl⟩) hK hP hD [3] (by decide) rfl [] rfl 0 1 rfl rfl rfl rfl hl.1 rfl (Nat.le_of_ble_eq_true rfl) dX2_rest_88 ⟨Nat.le_of_ble_eq_true rfl, Nat.le_of_ble_eq_true rfl⟩) hP hD hS hA [3] rfl (sp_fc sp_f0) (fun H locs hP hD hS => ?_)
        have hP : va_P D vwCl ([(h0, .inr (2, [.ref h1, .ref h2, .ref h3])), (h1, .inr (1, nm_fs n0)), (h2, .inr (1, nm_fs n1)), (h3, .inr (1, nm_fs (f_X1_setUnsigned n2 0 (n1.1 - 1))))]) H := hP
        have hD : va_D A ([(h0, .inr (2, [.ref h1, .ref h2, .ref h3])), (h1, .inr (1, nm_fs n0)), (h2, .inr (1, nm_fs n1)), (h3, .inr (1, nm_fs (f_X1_setUnsigned n2 0 (n1.1 - 1))))]) := hD
        have e9 : f_X2_rest n0 n1 n2 = (f_X1_setUnsigned n2 0 (n1.1 - 1)) := (if_neg c2).trans ((if_neg c3).trans ((if_pos c5).trans (rfl)))
        rw [e9]
        exact sp_vret C hAe hP hK hD hS dX2_rest_91
      · refine lv_aload_n hx hb dX2_rest_60 rfl (lv_at hl 0 rfl) ?_
        refine va_get (D := D) (ci := 2) (v := .ref h3) (C := RX2) (T := TX2) (N := 3) hx hb hts hi2 hown hK hP 0 rfl rfl 2 (by decide) hk2 (fun _ h9 => h9) rfl dX2_rest_61 ?_
        refine lv_aload_n hx hb dX2_rest_64 rfl (lv_at hl 0 rfl) ?_
        refine va_get (D := D) (ci := 2) (v := .ref h1) (C := RX2) (T := TX2) (N := 3) hx hb hts hi2 hown hK hP 0 rfl rfl 0 (by decide) hk3 (fun _ h9 => h9) rfl dX2_rest_65 ?_
        refine sp_callv (sp_runV (As := [.ref h1]) (rest := []) C (c_X1_become l D h3 h1 n2 n0) (cwV 1 hts (gV wG_c wm_166 wm_167 wm_168 wm_31 wm_165) rfl rfl rfl (by decide +kernel) ⟨Nat.le_of_ble_eq_true rfl, Nat.le_of_ble_eq_true rfl⟩) hK hP hD [3, 1] (by decide) rfl [] rfl 0 1 rfl rfl rfl rfl hl.1 rfl (Nat.le_of_ble_eq_true rfl) dX2_rest_68 ⟨Nat.le_of_ble_eq_true rfl, Nat.le_of_ble_eq_true rfl⟩) hP hD hS hA [3, 1] rfl (sp_fc (sp_fc sp_f0)) (fun H locs hP hD hS => ?_)
        have hP : va_P D vwCl ([(h0, .inr (2, [.ref h1, .ref h2, .ref h3])), (h1, .inr (1, nm_fs n0)), (h2, .inr (1, nm_fs n1)), (h3, .inr (1, nm_fs (f_X1_become n2 n0)))]) H := hP
        have hD : va_D A ([(h0, .inr (2, [.ref h1, .ref h2, .ref h3])), (h1, .inr (1, nm_fs n0)), (h2, .inr (1, nm_fs n1)), (h3, .inr (1, nm_fs (f_X1_become n2 n0)))]) := hD
        refine lv_goto (tgt := 91) hx hb dX2_rest_71 (by decide) ?_
        have e9 : f_X2_rest n0 n1 n2 = (f_X1_become n2 n0) := (if_neg c2).trans ((if_neg c3).trans ((if_neg c5).trans (rfl)))
        rw [e9]
        exact sp_vret C hAe hP hK hD hS dX2_rest_91
  · refine lv_aload_n hx hb dX2_rest_10 rfl (lv_at hl 0 rfl) ?_
    refine va_get (D := D) (ci := 2) (v := .ref h3) (C := RX2) (T := TX2) (N := 3) hx hb hts hi2 hown hK hP 0 rfl rfl 2 (by decide) hk2 (fun _ h9 => h9) rfl dX2_rest_11 ?_
    refine lv_lconst (v := 0) hx hb dX2_rest_14 (by decide) ?_
    refine lv_aload_n hx hb dX2_rest_15 rfl (lv_at hl 0 rfl) ?_
    refine va_get (D := D) (ci := 2) (v := .ref h1) (C := RX2) (T := TX2) (N := 3) hx hb hts hi2 hown hK hP 0 rfl rfl 0 (by decide) hk3 (fun _ h9 => h9) rfl dX2_rest_16 ?_
    refine va_get (D := D) (ci := 1) (v := .long n0.2.2.2.1) (C := RX1) (T := TX1) (N := 6) hx hb hts hi1 hown hK hP 1 rfl rfl 3 (by decide) hk4 (fun _ h9 => h9) rfl dX2_rest_19 ?_
    refine sp_callv (sp_runV (As := [.long 0, .long n0.2.2.2.1]) (rest := []) C (c_X1_setUnsigned l D h3 n2 0 n0.2.2.2.1) (cwV 2 hts (gV wG_c wm_139 wm_34 wm_35 wm_31 wm_32) rfl rfl rfl (by decide +kernel) ⟨Nat.le_of_ble_eq_true rfl, Nat.le_of_ble_eq_true rfl⟩) hK hP hD [3] (by decide) rfl [] rfl 0 1 rfl rfl rfl rfl hl.1 rfl (Nat.le_of_ble_eq_true rfl) dX2_rest_22 ⟨Nat.le_of_ble_eq_true rfl, Nat.le_of_ble_eq_true rfl⟩) hP hD hS hA [3] rfl (sp_fc sp_f0) (fun H locs hP hD hS => ?_)
    have hP : va_P D vwCl ([(h0, .inr (2, [.ref h1, .ref h2, .ref h3])), (h1, .inr (1, nm_fs n0)), (h2, .inr (1, nm_fs n1)), (h3, .inr (1, nm_fs (f_X1_setUnsigned n2 0 n0.2.2.2.1)))]) H := hP
    have hD : va_D A ([(h0, .inr (2, [.ref h1, .ref h2, .ref h3])), (h1, .inr (1, nm_fs n0)), (h2, .inr (1, nm_fs n1)), (h3, .inr (1, nm_fs (f_X1_setUnsigned n2 0 n0.2.2.2.1)))]) := hD
    refine lv_goto (tgt := 91) hx hb dX2_rest_25 (by decide) ?_
    have e9 : f_X2_rest n0 n1 n2 = (f_X1_setUnsigned n2 0 n0.2.2.2.1) := (if_pos c2).trans (rfl)
    rw [e9]
    exact sp_vret C hAe hP hK hD hS dX2_rest_91
def f_X2_and (n0 : Nm) (n1 : Nm) (n2 : Nm) : Nm :=
  (f_X1_setUnsigned (f_X1_setBits n2 (n0.1 &&& n1.1) (((f_X1_mayBeOne n0) &&& (f_X1_mayBeOne n1)) &&& ((n0.1 &&& n1.1) ^^^ (-1)))) 0 (f_X0_unsignedMin n0.2.2.2.1 n1.2.2.2.1))
set_option maxHeartbeats 4000000 in
set_option maxRecDepth 100000 in
theorem c_X2_and (l : Launch) (D : va_G) (h0 : Nat) (h1 : Nat) (h2 : Nat) (h3 : Nat) (n0 : Nm) (n1 : Nm) (n2 : Nm) : sp_M l yX2_and wsX2_and ({ frames := 2, cells := 0, slots := 0, locals := 46 }) D [.ref h0] ([(h0, .inr (2, [.ref h1, .ref h2, .ref h3])), (h1, .inr (1, nm_fs n0)), (h2, .inr (1, nm_fs n1)), (h3, .inr (1, nm_fs n2))]) [] (sp_Qv D ([(h0, .inr (2, [.ref h1, .ref h2, .ref h3])), (h1, .inr (1, nm_fs n0)), (h2, .inr (1, nm_fs n1)), (h3, .inr (1, nm_fs n2))]) ([(h0, .inr (2, [.ref h1, .ref h2, .ref h3])), (h1, .inr (1, nm_fs n0)), (h2, .inr (1, nm_fs n1)), (h3, .inr (1, nm_fs (f_X2_and n0 n1 n2)))]) []) := by
  refine sp_ofW (cc := cX2_and) (nL := 3) (ret := none) (own := RX2) (by decide) rfl rfl (Nat.le_of_ble_eq_true rfl) ?_
  intro p e s m below meth c A ls hAe hnm C hA hP hK hD hS hl
  have hx := C.1
  have hb := C.2.1
  have hown := C.2.2.2.2.1
  have hts := C.2.2.2.2.2.1
  have hl : lv_has ls 3 [(0, .ref h0)] := hl
  have hi1 : ∀ w ∈ u_ws RX1 TX1 6, w ∈ wsX2_and := fun w h => List.mem_cons_of_mem _ (inX1 w h)
  have hi2 : ∀ w ∈ u_ws RX2 TX2 3, w ∈ wsX2_and := fun w h => List.mem_cons_of_mem _ (inX2 w h)
  have hk0 := hts _ (List.mem_cons_of_mem _ wm_108)
  have hk1 := hts _ (List.mem_cons_of_mem _ wm_140)
  have hk2 := hts _ (List.mem_cons_of_mem _ wm_109)
  have hk3 := hts _ (List.mem_cons_of_mem _ wm_110)
  have hk4 := hts _ (List.mem_cons_of_mem _ wm_130)
  have hk5 := hts _ (List.mem_cons_of_mem _ wm_142)
  have hk6 := hts _ (List.mem_cons_of_mem _ wm_4)
  have hk7 := hts _ (List.mem_cons_of_mem _ wm_170)
  refine lv_aload_n hx hb dX2_and_0 rfl (lv_at hl 0 rfl) ?_
  refine va_get (D := D) (ci := 2) (v := .ref h1) (C := RX2) (T := TX2) (N := 3) hx hb hts hi2 hown hK hP 0 rfl rfl 0 (by decide) hk0 (fun _ h9 => h9) rfl dX2_and_1 ?_
  refine va_get (D := D) (ci := 1) (v := .long n0.1) (C := RX1) (T := TX1) (N := 6) hx hb hts hi1 hown hK hP 1 rfl rfl 0 (by decide) hk1 (fun _ h9 => h9) rfl dX2_and_4 ?_
  refine lv_aload_n hx hb dX2_and_7 rfl (lv_at hl 0 rfl) ?_
  refine va_get (D := D) (ci := 2) (v := .ref h2) (C := RX2) (T := TX2) (N := 3) hx hb hts hi2 hown hK hP 0 rfl rfl 1 (by decide) hk2 (fun _ h9 => h9) rfl dX2_and_8 ?_
  refine va_get (D := D) (ci := 1) (v := .long n1.1) (C := RX1) (T := TX1) (N := 6) hx hb hts hi1 hown hK hP 2 rfl rfl 0 (by decide) hk1 (fun _ h9 => h9) rfl dX2_and_11 ?_
  refine lv_land hx hb dX2_and_14 ?_
  refine lv_lstore_n (lv' := [(1, .long (n0.1 &&& n1.1)), (0, .ref h0)]) hx hb dX2_and_15 rfl hl (by decide) rfl (fun ls hl => ?_)
  refine lv_aload_n hx hb dX2_and_16 rfl (lv_at hl 1 rfl) ?_
  refine va_get (D := D) (ci := 2) (v := .ref h3) (C := RX2) (T := TX2) (N := 3) hx hb hts hi2 hown hK hP 0 rfl rfl 2 (by decide) hk3 (fun _ h9 => h9) rfl dX2_and_17 ?_
  refine lv_lload_n hx hb dX2_and_20 rfl (lv_at hl 0 rfl) ?_
  refine lv_aload_n hx hb dX2_and_21 rfl (lv_at hl 1 rfl) ?_
  refine va_get (D := D) (ci := 2) (v := .ref h1) (C := RX2) (T := TX2) (N := 3) hx hb hts hi2 hown hK hP 0 rfl rfl 0 (by decide) hk0 (fun _ h9 => h9) rfl dX2_and_22 ?_
  refine sp_calll (sp_runV (As := []) (rest := [.long (n0.1 &&& n1.1), .ref h3]) C (c_X1_mayBeOne l D h1 n0) (cwV 0 hts (gV wG_c wm_153 wm_60 wm_61 wm_31 wm_58) rfl rfl rfl (by decide +kernel) ⟨Nat.le_of_ble_eq_true rfl, Nat.le_of_ble_eq_true rfl⟩) hK hP hD [1] (by decide) rfl [] rfl 0 1 rfl rfl rfl rfl hl.1 rfl (Nat.le_of_ble_eq_true rfl) dX2_and_25 ⟨Nat.le_of_ble_eq_true rfl, Nat.le_of_ble_eq_true rfl⟩) hP hD hS hA [1] rfl (sp_fc sp_f0) (fun H locs hP hD hS => ?_)
  have hP : va_P D vwCl ([(h0, .inr (2, [.ref h1, .ref h2, .ref h3])), (h1, .inr (1, nm_fs n0)), (h2, .inr (1, nm_fs n1)), (h3, .inr (1, nm_fs n2))]) H := hP
  have hD : va_D A ([(h0, .inr (2, [.ref h1, .ref h2, .ref h3])), (h1, .inr (1, nm_fs n0)), (h2, .inr (1, nm_fs n1)), (h3, .inr (1, nm_fs n2))]) := hD
  refine lv_aload_n hx hb dX2_and_28 rfl (lv_at hl 1 rfl) ?_
  refine va_get (D := D) (ci := 2) (v := .ref h2) (C := RX2) (T := TX2) (N := 3) hx hb hts hi2 hown hK hP 0 rfl rfl 1 (by decide) hk2 (fun _ h9 => h9) rfl dX2_and_29 ?_
  refine sp_calll (sp_runV (As := []) (rest := [.long (f_X1_mayBeOne n0), .long (n0.1 &&& n1.1), .ref h3]) C (c_X1_mayBeOne l D h2 n1) (cwV 0 hts (gV wG_c wm_153 wm_60 wm_61 wm_31 wm_58) rfl rfl rfl (by decide +kernel) ⟨Nat.le_of_ble_eq_true rfl, Nat.le_of_ble_eq_true rfl⟩) hK hP hD [2] (by decide) rfl [] rfl 0 1 rfl rfl rfl rfl hl.1 rfl (Nat.le_of_ble_eq_true rfl) dX2_and_32 ⟨Nat.le_of_ble_eq_true rfl, Nat.le_of_ble_eq_true rfl⟩) hP hD hS hA [2] rfl (sp_fc sp_f0) (fun H locs hP hD hS => ?_)
  have hP : va_P D vwCl ([(h0, .inr (2, [.ref h1, .ref h2, .ref h3])), (h1, .inr (1, nm_fs n0)), (h2, .inr (1, nm_fs n1)), (h3, .inr (1, nm_fs n2))]) H := hP
  have hD : va_D A ([(h0, .inr (2, [.ref h1, .ref h2, .ref h3])), (h1, .inr (1, nm_fs n0)), (h2, .inr (1, nm_fs n1)), (h3, .inr (1, nm_fs n2))]) := hD
  refine lv_land hx hb dX2_and_35 ?_
  refine lv_lload_n hx hb dX2_and_36 rfl (lv_at hl 0 rfl) ?_
  refine lv_ldc2 (v := (-1)) hx hb hown hk4 dX2_and_37 ?_
  refine lv_lxor hx hb dX2_and_40 ?_
  refine lv_land hx hb dX2_and_41 ?_
  refine sp_callv (sp_runV (As := [.long (n0.1 &&& n1.1), .long (((f_X1_mayBeOne n0) &&& (f_X1_mayBeOne n1)) &&& ((n0.1 &&& n1.1) ^^^ (-1)))]) (rest := []) C (c_X1_setBits l D h3 n2 (n0.1 &&& n1.1) (((f_X1_mayBeOne n0) &&& (f_X1_mayBeOne n1)) &&& ((n0.1 &&& n1.1) ^^^ (-1)))) (cwV 2 hts (gV wG_c wm_134 wm_29 wm_30 wm_31 wm_27) rfl rfl rfl (by decide +kernel) ⟨Nat.le_of_ble_eq_true rfl, Nat.le_of_ble_eq_true rfl⟩) hK hP hD [3] (by decide) rfl [] rfl 0 1 rfl rfl rfl rfl hl.1 rfl (Nat.le_of_ble_eq_true rfl) dX2_and_42 ⟨Nat.le_of_ble_eq_true rfl, Nat.le_of_ble_eq_true rfl⟩) hP hD hS hA [3] rfl (sp_fc sp_f0) (fun H locs hP hD hS => ?_)
  have hP : va_P D vwCl ([(h0, .inr (2, [.ref h1, .ref h2, .ref h3])), (h1, .inr (1, nm_fs n0)), (h2, .inr (1, nm_fs n1)), (h3, .inr (1, nm_fs (f_X1_setBits n2 (n0.1 &&& n1.1) (((f_X1_mayBeOne n0) &&& (f_X1_mayBeOne n1)) &&& ((n0.1 &&& n1.1) ^^^ (-1))))))]) H := hP
  have hD : va_D A ([(h0, .inr (2, [.ref h1, .ref h2, .ref h3])), (h1, .inr (1, nm_fs n0)), (h2, .inr (1, nm_fs n1)), (h3, .inr (1, nm_fs (f_X1_setBits n2 (n0.1 &&& n1.1) (((f_X1_mayBeOne n0) &&& (f_X1_mayBeOne n1)) &&& ((n0.1 &&& n1.1) ^^^ (-1))))))]) := hD
  refine lv_aload_n hx hb dX2_and_45 rfl (lv_at hl 1 rfl) ?_
  refine va_get (D := D) (ci := 2) (v := .ref h3) (C := RX2) (T := TX2) (N := 3) hx hb hts hi2 hown hK hP 0 rfl rfl 2 (by decide) hk3 (fun _ h9 => h9) rfl dX2_and_46 ?_
  refine lv_lconst (v := 0) hx hb dX2_and_49 (by decide) ?_
  refine lv_aload_n hx hb dX2_and_50 rfl (lv_at hl 1 rfl) ?_
  refine va_get (D := D) (ci := 2) (v := .ref h1) (C := RX2) (T := TX2) (N := 3) hx hb hts hi2 hown hK hP 0 rfl rfl 0 (by decide) hk0 (fun _ h9 => h9) rfl dX2_and_51 ?_
  refine va_get (D := D) (ci := 1) (v := .long n0.2.2.2.1) (C := RX1) (T := TX1) (N := 6) hx hb hts hi1 hown hK hP 1 rfl rfl 3 (by decide) hk5 (fun _ h9 => h9) rfl dX2_and_54 ?_
  refine lv_aload_n hx hb dX2_and_57 rfl (lv_at hl 1 rfl) ?_
  refine va_get (D := D) (ci := 2) (v := .ref h2) (C := RX2) (T := TX2) (N := 3) hx hb hts hi2 hown hK hP 0 rfl rfl 1 (by decide) hk2 (fun _ h9 => h9) rfl dX2_and_58 ?_
  refine va_get (D := D) (ci := 1) (v := .long n1.2.2.2.1) (C := RX1) (T := TX1) (N := 6) hx hb hts hi1 hown hK hP 2 rfl rfl 3 (by decide) hk5 (fun _ h9 => h9) rfl dX2_and_61 ?_
  refine sp_calll (sp_runSN (As := [.long n0.2.2.2.1, .long n1.2.2.2.1]) (rest := [.long 0, .ref h3]) C (c_X0_unsignedMin l D n0.2.2.2.1 n1.2.2.2.1) ⟨va_cnB 2 hts (gG wG_c wm_169) rfl rfl rfl (C.2.2.2.2.2.2.2.1 (RX2, 147, yX0_unsignedMin, "RangeDesk") (List.mem_of_getElem? (i := 6) rfl)) hk6 (by decide +kernel) ⟨Nat.le_of_ble_eq_true rfl, Nat.le_of_ble_eq_true rfl⟩, hk7, trivial⟩ hK hP hD [] (by decide) rfl [] rfl rfl hl.1 rfl (Nat.le_of_ble_eq_true rfl) dX2_and_64 ⟨Nat.le_of_ble_eq_true rfl, Nat.le_of_ble_eq_true rfl⟩) hP hD hS hA [] rfl sp_f0 (fun H locs hP hD hS => ?_)
  have hP : va_P D vwCl ([(h0, .inr (2, [.ref h1, .ref h2, .ref h3])), (h1, .inr (1, nm_fs n0)), (h2, .inr (1, nm_fs n1)), (h3, .inr (1, nm_fs (f_X1_setBits n2 (n0.1 &&& n1.1) (((f_X1_mayBeOne n0) &&& (f_X1_mayBeOne n1)) &&& ((n0.1 &&& n1.1) ^^^ (-1))))))]) H := hP
  have hD : va_D A ([(h0, .inr (2, [.ref h1, .ref h2, .ref h3])), (h1, .inr (1, nm_fs n0)), (h2, .inr (1, nm_fs n1)), (h3, .inr (1, nm_fs (f_X1_setBits n2 (n0.1 &&& n1.1) (((f_X1_mayBeOne n0) &&& (f_X1_mayBeOne n1)) &&& ((n0.1 &&& n1.1) ^^^ (-1))))))]) := hD
  refine sp_callv (sp_runV (As := [.long 0, .long (f_X0_unsignedMin n0.2.2.2.1 n1.2.2.2.1)]) (rest := []) C (c_X1_setUnsigned l D h3 (f_X1_setBits n2 (n0.1 &&& n1.1) (((f_X1_mayBeOne n0) &&& (f_X1_mayBeOne n1)) &&& ((n0.1 &&& n1.1) ^^^ (-1)))) 0 (f_X0_unsignedMin n0.2.2.2.1 n1.2.2.2.1)) (cwV 2 hts (gV wG_c wm_139 wm_34 wm_35 wm_31 wm_32) rfl rfl rfl (by decide +kernel) ⟨Nat.le_of_ble_eq_true rfl, Nat.le_of_ble_eq_true rfl⟩) hK hP hD [3] (by decide) rfl [] rfl 0 1 rfl rfl rfl rfl hl.1 rfl (Nat.le_of_ble_eq_true rfl) dX2_and_67 ⟨Nat.le_of_ble_eq_true rfl, Nat.le_of_ble_eq_true rfl⟩) hP hD hS hA [3] rfl (sp_fc sp_f0) (fun H locs hP hD hS => ?_)
  have hP : va_P D vwCl ([(h0, .inr (2, [.ref h1, .ref h2, .ref h3])), (h1, .inr (1, nm_fs n0)), (h2, .inr (1, nm_fs n1)), (h3, .inr (1, nm_fs (f_X1_setUnsigned (f_X1_setBits n2 (n0.1 &&& n1.1) (((f_X1_mayBeOne n0) &&& (f_X1_mayBeOne n1)) &&& ((n0.1 &&& n1.1) ^^^ (-1)))) 0 (f_X0_unsignedMin n0.2.2.2.1 n1.2.2.2.1))))]) H := hP
  have hD : va_D A ([(h0, .inr (2, [.ref h1, .ref h2, .ref h3])), (h1, .inr (1, nm_fs n0)), (h2, .inr (1, nm_fs n1)), (h3, .inr (1, nm_fs (f_X1_setUnsigned (f_X1_setBits n2 (n0.1 &&& n1.1) (((f_X1_mayBeOne n0) &&& (f_X1_mayBeOne n1)) &&& ((n0.1 &&& n1.1) ^^^ (-1)))) 0 (f_X0_unsignedMin n0.2.2.2.1 n1.2.2.2.1))))]) := hD
  have e9 : f_X2_and n0 n1 n2 = (f_X1_setUnsigned (f_X1_setBits n2 (n0.1 &&& n1.1) (((f_X1_mayBeOne n0) &&& (f_X1_mayBeOne n1)) &&& ((n0.1 &&& n1.1) ^^^ (-1)))) 0 (f_X0_unsignedMin n0.2.2.2.1 n1.2.2.2.1)) := rfl
  rw [e9]
  exact sp_vret C hAe hP hK hD hS dX2_and_70
def f_X2_or (n0 : Nm) (n1 : Nm) (n2 : Nm) : Nm :=
  (f_X1_setUnsigned (f_X1_setBits n2 (n0.1 ||| n1.1) ((n0.2.1 ||| n1.2.1) &&& ((n0.1 ||| n1.1) ^^^ (-1)))) (f_X0_unsignedMax n0.2.2.1 n1.2.2.1) (-1))
set_option maxHeartbeats 4000000 in
set_option maxRecDepth 100000 in
theorem c_X2_or (l : Launch) (D : va_G) (h0 : Nat) (h1 : Nat) (h2 : Nat) (h3 : Nat) (n0 : Nm) (n1 : Nm) (n2 : Nm) : sp_M l yX2_or wsX2_or ({ frames := 2, cells := 0, slots := 0, locals := 46 }) D [.ref h0] ([(h0, .inr (2, [.ref h1, .ref h2, .ref h3])), (h1, .inr (1, nm_fs n0)), (h2, .inr (1, nm_fs n1)), (h3, .inr (1, nm_fs n2))]) [] (sp_Qv D ([(h0, .inr (2, [.ref h1, .ref h2, .ref h3])), (h1, .inr (1, nm_fs n0)), (h2, .inr (1, nm_fs n1)), (h3, .inr (1, nm_fs n2))]) ([(h0, .inr (2, [.ref h1, .ref h2, .ref h3])), (h1, .inr (1, nm_fs n0)), (h2, .inr (1, nm_fs n1)), (h3, .inr (1, nm_fs (f_X2_or n0 n1 n2)))]) []) := by
  refine sp_ofW (cc := cX2_or) (nL := 3) (ret := none) (own := RX2) (by decide) rfl rfl (Nat.le_of_ble_eq_true rfl) ?_
  intro p e s m below meth c A ls hAe hnm C hA hP hK hD hS hl
  have hx := C.1
  have hb := C.2.1
  have hown := C.2.2.2.2.1
  have hts := C.2.2.2.2.2.1
  have hl : lv_has ls 3 [(0, .ref h0)] := hl
  have hi1 : ∀ w ∈ u_ws RX1 TX1 6, w ∈ wsX2_or := fun w h => List.mem_cons_of_mem _ (inX1 w h)
  have hi2 : ∀ w ∈ u_ws RX2 TX2 3, w ∈ wsX2_or := fun w h => List.mem_cons_of_mem _ (inX2 w h)
  have hk0 := hts _ (List.mem_cons_of_mem _ wm_108)
  have hk1 := hts _ (List.mem_cons_of_mem _ wm_140)
  have hk2 := hts _ (List.mem_cons_of_mem _ wm_109)
  have hk3 := hts _ (List.mem_cons_of_mem _ wm_110)
  have hk4 := hts _ (List.mem_cons_of_mem _ wm_141)
  have hk5 := hts _ (List.mem_cons_of_mem _ wm_130)
  have hk6 := hts _ (List.mem_cons_of_mem _ wm_145)
  have hk7 := hts _ (List.mem_cons_of_mem _ wm_4)
  have hk8 := hts _ (List.mem_cons_of_mem _ wm_172)
  refine lv_aload_n hx hb dX2_or_0 rfl (lv_at hl 0 rfl) ?_
  refine va_get (D := D) (ci := 2) (v := .ref h1) (C := RX2) (T := TX2) (N := 3) hx hb hts hi2 hown hK hP 0 rfl rfl 0 (by decide) hk0 (fun _ h9 => h9) rfl dX2_or_1 ?_
  refine va_get (D := D) (ci := 1) (v := .long n0.1) (C := RX1) (T := TX1) (N := 6) hx hb hts hi1 hown hK hP 1 rfl rfl 0 (by decide) hk1 (fun _ h9 => h9) rfl dX2_or_4 ?_
  refine lv_aload_n hx hb dX2_or_7 rfl (lv_at hl 0 rfl) ?_
  refine va_get (D := D) (ci := 2) (v := .ref h2) (C := RX2) (T := TX2) (N := 3) hx hb hts hi2 hown hK hP 0 rfl rfl 1 (by decide) hk2 (fun _ h9 => h9) rfl dX2_or_8 ?_
  refine va_get (D := D) (ci := 1) (v := .long n1.1) (C := RX1) (T := TX1) (N := 6) hx hb hts hi1 hown hK hP 2 rfl rfl 0 (by decide) hk1 (fun _ h9 => h9) rfl dX2_or_11 ?_
  refine lv_lor hx hb dX2_or_14 ?_
  refine lv_lstore_n (lv' := [(1, .long (n0.1 ||| n1.1)), (0, .ref h0)]) hx hb dX2_or_15 rfl hl (by decide) rfl (fun ls hl => ?_)
  refine lv_aload_n hx hb dX2_or_16 rfl (lv_at hl 1 rfl) ?_
  refine va_get (D := D) (ci := 2) (v := .ref h3) (C := RX2) (T := TX2) (N := 3) hx hb hts hi2 hown hK hP 0 rfl rfl 2 (by decide) hk3 (fun _ h9 => h9) rfl dX2_or_17 ?_
  refine lv_lload_n hx hb dX2_or_20 rfl (lv_at hl 0 rfl) ?_
  refine lv_aload_n hx hb dX2_or_21 rfl (lv_at hl 1 rfl) ?_
  refine va_get (D := D) (ci := 2) (v := .ref h1) (C := RX2) (T := TX2) (N := 3) hx hb hts hi2 hown hK hP 0 rfl rfl 0 (by decide) hk0 (fun _ h9 => h9) rfl dX2_or_22 ?_
  refine va_get (D := D) (ci := 1) (v := .long n0.2.1) (C := RX1) (T := TX1) (N := 6) hx hb hts hi1 hown hK hP 1 rfl rfl 1 (by decide) hk4 (fun _ h9 => h9) rfl dX2_or_25 ?_
  refine lv_aload_n hx hb dX2_or_28 rfl (lv_at hl 1 rfl) ?_
  refine va_get (D := D) (ci := 2) (v := .ref h2) (C := RX2) (T := TX2) (N := 3) hx hb hts hi2 hown hK hP 0 rfl rfl 1 (by decide) hk2 (fun _ h9 => h9) rfl dX2_or_29 ?_
  refine va_get (D := D) (ci := 1) (v := .long n1.2.1) (C := RX1) (T := TX1) (N := 6) hx hb hts hi1 hown hK hP 2 rfl rfl 1 (by decide) hk4 (fun _ h9 => h9) rfl dX2_or_32 ?_
  refine lv_lor hx hb dX2_or_35 ?_
  refine lv_lload_n hx hb dX2_or_36 rfl (lv_at hl 0 rfl) ?_
  refine lv_ldc2 (v := (-1)) hx hb hown hk5 dX2_or_37 ?_
  refine lv_lxor hx hb dX2_or_40 ?_
  refine lv_land hx hb dX2_or_41 ?_
  refine sp_callv (sp_runV (As := [.long (n0.1 ||| n1.1), .long ((n0.2.1 ||| n1.2.1) &&& ((n0.1 ||| n1.1) ^^^ (-1)))]) (rest := []) C (c_X1_setBits l D h3 n2 (n0.1 ||| n1.1) ((n0.2.1 ||| n1.2.1) &&& ((n0.1 ||| n1.1) ^^^ (-1)))) (cwV 2 hts (gV wG_c wm_134 wm_29 wm_30 wm_31 wm_27) rfl rfl rfl (by decide +kernel) ⟨Nat.le_of_ble_eq_true rfl, Nat.le_of_ble_eq_true rfl⟩) hK hP hD [3] (by decide) rfl [] rfl 0 1 rfl rfl rfl rfl hl.1 rfl (Nat.le_of_ble_eq_true rfl) dX2_or_42 ⟨Nat.le_of_ble_eq_true rfl, Nat.le_of_ble_eq_true rfl⟩) hP hD hS hA [3] rfl (sp_fc sp_f0) (fun H locs hP hD hS => ?_)
  have hP : va_P D vwCl ([(h0, .inr (2, [.ref h1, .ref h2, .ref h3])), (h1, .inr (1, nm_fs n0)), (h2, .inr (1, nm_fs n1)), (h3, .inr (1, nm_fs (f_X1_setBits n2 (n0.1 ||| n1.1) ((n0.2.1 ||| n1.2.1) &&& ((n0.1 ||| n1.1) ^^^ (-1))))))]) H := hP
  have hD : va_D A ([(h0, .inr (2, [.ref h1, .ref h2, .ref h3])), (h1, .inr (1, nm_fs n0)), (h2, .inr (1, nm_fs n1)), (h3, .inr (1, nm_fs (f_X1_setBits n2 (n0.1 ||| n1.1) ((n0.2.1 ||| n1.2.1) &&& ((n0.1 ||| n1.1) ^^^ (-1))))))]) := hD
  refine lv_aload_n hx hb dX2_or_45 rfl (lv_at hl 1 rfl) ?_
  refine va_get (D := D) (ci := 2) (v := .ref h3) (C := RX2) (T := TX2) (N := 3) hx hb hts hi2 hown hK hP 0 rfl rfl 2 (by decide) hk3 (fun _ h9 => h9) rfl dX2_or_46 ?_
  refine lv_aload_n hx hb dX2_or_49 rfl (lv_at hl 1 rfl) ?_
  refine va_get (D := D) (ci := 2) (v := .ref h1) (C := RX2) (T := TX2) (N := 3) hx hb hts hi2 hown hK hP 0 rfl rfl 0 (by decide) hk0 (fun _ h9 => h9) rfl dX2_or_50 ?_
  refine va_get (D := D) (ci := 1) (v := .long n0.2.2.1) (C := RX1) (T := TX1) (N := 6) hx hb hts hi1 hown hK hP 1 rfl rfl 2 (by decide) hk6 (fun _ h9 => h9) rfl dX2_or_53 ?_
  refine lv_aload_n hx hb dX2_or_56 rfl (lv_at hl 1 rfl) ?_
  refine va_get (D := D) (ci := 2) (v := .ref h2) (C := RX2) (T := TX2) (N := 3) hx hb hts hi2 hown hK hP 0 rfl rfl 1 (by decide) hk2 (fun _ h9 => h9) rfl dX2_or_57 ?_
  refine va_get (D := D) (ci := 1) (v := .long n1.2.2.1) (C := RX1) (T := TX1) (N := 6) hx hb hts hi1 hown hK hP 2 rfl rfl 2 (by decide) hk6 (fun _ h9 => h9) rfl dX2_or_60 ?_
  refine sp_calll (sp_runSN (As := [.long n0.2.2.1, .long n1.2.2.1]) (rest := [.ref h3]) C (c_X0_unsignedMax l D n0.2.2.1 n1.2.2.1) ⟨va_cnB 2 hts (gG wG_c wm_171) rfl rfl rfl (C.2.2.2.2.2.2.2.1 (RX2, 150, yX0_unsignedMax, "RangeDesk") (List.mem_of_getElem? (i := 7) rfl)) hk7 (by decide +kernel) ⟨Nat.le_of_ble_eq_true rfl, Nat.le_of_ble_eq_true rfl⟩, hk8, trivial⟩ hK hP hD [] (by decide) rfl [] rfl rfl hl.1 rfl (Nat.le_of_ble_eq_true rfl) dX2_or_63 ⟨Nat.le_of_ble_eq_true rfl, Nat.le_of_ble_eq_true rfl⟩) hP hD hS hA [] rfl sp_f0 (fun H locs hP hD hS => ?_)
  have hP : va_P D vwCl ([(h0, .inr (2, [.ref h1, .ref h2, .ref h3])), (h1, .inr (1, nm_fs n0)), (h2, .inr (1, nm_fs n1)), (h3, .inr (1, nm_fs (f_X1_setBits n2 (n0.1 ||| n1.1) ((n0.2.1 ||| n1.2.1) &&& ((n0.1 ||| n1.1) ^^^ (-1))))))]) H := hP
  have hD : va_D A ([(h0, .inr (2, [.ref h1, .ref h2, .ref h3])), (h1, .inr (1, nm_fs n0)), (h2, .inr (1, nm_fs n1)), (h3, .inr (1, nm_fs (f_X1_setBits n2 (n0.1 ||| n1.1) ((n0.2.1 ||| n1.2.1) &&& ((n0.1 ||| n1.1) ^^^ (-1))))))]) := hD
  refine lv_ldc2 (v := (-1)) hx hb hown hk5 dX2_or_66 ?_
  refine sp_callv (sp_runV (As := [.long (f_X0_unsignedMax n0.2.2.1 n1.2.2.1), .long (-1)]) (rest := []) C (c_X1_setUnsigned l D h3 (f_X1_setBits n2 (n0.1 ||| n1.1) ((n0.2.1 ||| n1.2.1) &&& ((n0.1 ||| n1.1) ^^^ (-1)))) (f_X0_unsignedMax n0.2.2.1 n1.2.2.1) (-1)) (cwV 2 hts (gV wG_c wm_139 wm_34 wm_35 wm_31 wm_32) rfl rfl rfl (by decide +kernel) ⟨Nat.le_of_ble_eq_true rfl, Nat.le_of_ble_eq_true rfl⟩) hK hP hD [3] (by decide) rfl [] rfl 0 1 rfl rfl rfl rfl hl.1 rfl (Nat.le_of_ble_eq_true rfl) dX2_or_69 ⟨Nat.le_of_ble_eq_true rfl, Nat.le_of_ble_eq_true rfl⟩) hP hD hS hA [3] rfl (sp_fc sp_f0) (fun H locs hP hD hS => ?_)
  have hP : va_P D vwCl ([(h0, .inr (2, [.ref h1, .ref h2, .ref h3])), (h1, .inr (1, nm_fs n0)), (h2, .inr (1, nm_fs n1)), (h3, .inr (1, nm_fs (f_X1_setUnsigned (f_X1_setBits n2 (n0.1 ||| n1.1) ((n0.2.1 ||| n1.2.1) &&& ((n0.1 ||| n1.1) ^^^ (-1)))) (f_X0_unsignedMax n0.2.2.1 n1.2.2.1) (-1))))]) H := hP
  have hD : va_D A ([(h0, .inr (2, [.ref h1, .ref h2, .ref h3])), (h1, .inr (1, nm_fs n0)), (h2, .inr (1, nm_fs n1)), (h3, .inr (1, nm_fs (f_X1_setUnsigned (f_X1_setBits n2 (n0.1 ||| n1.1) ((n0.2.1 ||| n1.2.1) &&& ((n0.1 ||| n1.1) ^^^ (-1)))) (f_X0_unsignedMax n0.2.2.1 n1.2.2.1) (-1))))]) := hD
  have e9 : f_X2_or n0 n1 n2 = (f_X1_setUnsigned (f_X1_setBits n2 (n0.1 ||| n1.1) ((n0.2.1 ||| n1.2.1) &&& ((n0.1 ||| n1.1) ^^^ (-1)))) (f_X0_unsignedMax n0.2.2.1 n1.2.2.1) (-1)) := rfl
  rw [e9]
  exact sp_vret C hAe hP hK hD hS dX2_or_72
def f_X2_xor (n0 : Nm) (n1 : Nm) (n2 : Nm) : Nm :=
  (f_X1_setBits n2 ((n0.1 ^^^ n1.1) &&& ((n0.2.1 ||| n1.2.1) ^^^ (-1))) (n0.2.1 ||| n1.2.1))
set_option maxHeartbeats 4000000 in
set_option maxRecDepth 100000 in
theorem c_X2_xor (l : Launch) (D : va_G) (h0 : Nat) (h1 : Nat) (h2 : Nat) (h3 : Nat) (n0 : Nm) (n1 : Nm) (n2 : Nm) : sp_M l yX2_xor wsX2_xor ({ frames := 1, cells := 0, slots := 0, locals := 24 }) D [.ref h0] ([(h0, .inr (2, [.ref h1, .ref h2, .ref h3])), (h1, .inr (1, nm_fs n0)), (h2, .inr (1, nm_fs n1)), (h3, .inr (1, nm_fs n2))]) [] (sp_Qv D ([(h0, .inr (2, [.ref h1, .ref h2, .ref h3])), (h1, .inr (1, nm_fs n0)), (h2, .inr (1, nm_fs n1)), (h3, .inr (1, nm_fs n2))]) ([(h0, .inr (2, [.ref h1, .ref h2, .ref h3])), (h1, .inr (1, nm_fs n0)), (h2, .inr (1, nm_fs n1)), (h3, .inr (1, nm_fs (f_X2_xor n0 n1 n2)))]) []) := by
  refine sp_ofW (cc := cX2_xor) (nL := 3) (ret := none) (own := RX2) (by decide) rfl rfl (Nat.le_of_ble_eq_true rfl) ?_
  intro p e s m below meth c A ls hAe hnm C hA hP hK hD hS hl
  have hx := C.1
  have hb := C.2.1
  have hown := C.2.2.2.2.1
  have hts := C.2.2.2.2.2.1
  have hl : lv_has ls 3 [(0, .ref h0)] := hl
  have hi1 : ∀ w ∈ u_ws RX1 TX1 6, w ∈ wsX2_xor := fun w h => List.mem_cons_of_mem _ (inX1 w h)
  have hi2 : ∀ w ∈ u_ws RX2 TX2 3, w ∈ wsX2_xor := fun w h => List.mem_cons_of_mem _ (inX2 w h)
  have hk0 := hts _ (List.mem_cons_of_mem _ wm_108)
  have hk1 := hts _ (List.mem_cons_of_mem _ wm_141)
  have hk2 := hts _ (List.mem_cons_of_mem _ wm_109)
  have hk3 := hts _ (List.mem_cons_of_mem _ wm_110)
  have hk4 := hts _ (List.mem_cons_of_mem _ wm_140)
  have hk5 := hts _ (List.mem_cons_of_mem _ wm_130)
  refine lv_aload_n hx hb dX2_xor_0 rfl (lv_at hl 0 rfl) ?_
  refine va_get (D := D) (ci := 2) (v := .ref h1) (C := RX2) (T := TX2) (N := 3) hx hb hts hi2 hown hK hP 0 rfl rfl 0 (by decide) hk0 (fun _ h9 => h9) rfl dX2_xor_1 ?_
  refine va_get (D := D) (ci := 1) (v := .long n0.2.1) (C := RX1) (T := TX1) (N := 6) hx hb hts hi1 hown hK hP 1 rfl rfl 1 (by decide) hk1 (fun _ h9 => h9) rfl dX2_xor_4 ?_
  refine lv_aload_n hx hb dX2_xor_7 rfl (lv_at hl 0 rfl) ?_
  refine va_get (D := D) (ci := 2) (v := .ref h2) (C := RX2) (T := TX2) (N := 3) hx hb hts hi2 hown hK hP 0 rfl rfl 1 (by decide) hk2 (fun _ h9 => h9) rfl dX2_xor_8 ?_
  refine va_get (D := D) (ci := 1) (v := .long n1.2.1) (C := RX1) (T := TX1) (N := 6) hx hb hts hi1 hown hK hP 2 rfl rfl 1 (by decide) hk1 (fun _ h9 => h9) rfl dX2_xor_11 ?_
  refine lv_lor hx hb dX2_xor_14 ?_
  refine lv_lstore_n (lv' := [(1, .long (n0.2.1 ||| n1.2.1)), (0, .ref h0)]) hx hb dX2_xor_15 rfl hl (by decide) rfl (fun ls hl => ?_)
  refine lv_aload_n hx hb dX2_xor_16 rfl (lv_at hl 1 rfl) ?_
  refine va_get (D := D) (ci := 2) (v := .ref h3) (C := RX2) (T := TX2) (N := 3) hx hb hts hi2 hown hK hP 0 rfl rfl 2 (by decide) hk3 (fun _ h9 => h9) rfl dX2_xor_17 ?_
  refine lv_aload_n hx hb dX2_xor_20 rfl (lv_at hl 1 rfl) ?_
  refine va_get (D := D) (ci := 2) (v := .ref h1) (C := RX2) (T := TX2) (N := 3) hx hb hts hi2 hown hK hP 0 rfl rfl 0 (by decide) hk0 (fun _ h9 => h9) rfl dX2_xor_21 ?_
  refine va_get (D := D) (ci := 1) (v := .long n0.1) (C := RX1) (T := TX1) (N := 6) hx hb hts hi1 hown hK hP 1 rfl rfl 0 (by decide) hk4 (fun _ h9 => h9) rfl dX2_xor_24 ?_
  refine lv_aload_n hx hb dX2_xor_27 rfl (lv_at hl 1 rfl) ?_
  refine va_get (D := D) (ci := 2) (v := .ref h2) (C := RX2) (T := TX2) (N := 3) hx hb hts hi2 hown hK hP 0 rfl rfl 1 (by decide) hk2 (fun _ h9 => h9) rfl dX2_xor_28 ?_
  refine va_get (D := D) (ci := 1) (v := .long n1.1) (C := RX1) (T := TX1) (N := 6) hx hb hts hi1 hown hK hP 2 rfl rfl 0 (by decide) hk4 (fun _ h9 => h9) rfl dX2_xor_31 ?_
  refine lv_lxor hx hb dX2_xor_34 ?_
  refine lv_lload_n hx hb dX2_xor_35 rfl (lv_at hl 0 rfl) ?_
  refine lv_ldc2 (v := (-1)) hx hb hown hk5 dX2_xor_36 ?_
  refine lv_lxor hx hb dX2_xor_39 ?_
  refine lv_land hx hb dX2_xor_40 ?_
  refine lv_lload_n hx hb dX2_xor_41 rfl (lv_at hl 0 rfl) ?_
  refine sp_callv (sp_runV (As := [.long ((n0.1 ^^^ n1.1) &&& ((n0.2.1 ||| n1.2.1) ^^^ (-1))), .long (n0.2.1 ||| n1.2.1)]) (rest := []) C (c_X1_setBits l D h3 n2 ((n0.1 ^^^ n1.1) &&& ((n0.2.1 ||| n1.2.1) ^^^ (-1))) (n0.2.1 ||| n1.2.1)) (cwV 2 hts (gV wG_c wm_134 wm_29 wm_30 wm_31 wm_27) rfl rfl rfl (by decide +kernel) ⟨Nat.le_of_ble_eq_true rfl, Nat.le_of_ble_eq_true rfl⟩) hK hP hD [3] (by decide) rfl [] rfl 0 1 rfl rfl rfl rfl hl.1 rfl (Nat.le_of_ble_eq_true rfl) dX2_xor_42 ⟨Nat.le_of_ble_eq_true rfl, Nat.le_of_ble_eq_true rfl⟩) hP hD hS hA [3] rfl (sp_fc sp_f0) (fun H locs hP hD hS => ?_)
  have hP : va_P D vwCl ([(h0, .inr (2, [.ref h1, .ref h2, .ref h3])), (h1, .inr (1, nm_fs n0)), (h2, .inr (1, nm_fs n1)), (h3, .inr (1, nm_fs (f_X1_setBits n2 ((n0.1 ^^^ n1.1) &&& ((n0.2.1 ||| n1.2.1) ^^^ (-1))) (n0.2.1 ||| n1.2.1))))]) H := hP
  have hD : va_D A ([(h0, .inr (2, [.ref h1, .ref h2, .ref h3])), (h1, .inr (1, nm_fs n0)), (h2, .inr (1, nm_fs n1)), (h3, .inr (1, nm_fs (f_X1_setBits n2 ((n0.1 ^^^ n1.1) &&& ((n0.2.1 ||| n1.2.1) ^^^ (-1))) (n0.2.1 ||| n1.2.1))))]) := hD
  have e9 : f_X2_xor n0 n1 n2 = (f_X1_setBits n2 ((n0.1 ^^^ n1.1) &&& ((n0.2.1 ||| n1.2.1) ^^^ (-1))) (n0.2.1 ||| n1.2.1)) := rfl
  rw [e9]
  exact sp_vret C hAe hP hK hD hS dX2_xor_45
def f_X2_shiftLeft (n0 : Nm) (n1 : Nm) (n2 : Nm) (p1 : Int32) : Nm :=
  if (lg_cmp (((n0.2.2.2.1 <<< (p1.toInt64 &&& 63)).toUInt64 >>> (p1.toInt64.toUInt64 &&& Int64.toUInt64 63)).toInt64) n0.2.2.2.1) = 0 then (f_X1_setUnsigned (f_X1_setBits n2 (n0.1 <<< (p1.toInt64 &&& 63)) (n0.2.1 <<< (p1.toInt64 &&& 63))) (n0.2.2.1 <<< (p1.toInt64 &&& 63)) (n0.2.2.2.1 <<< (p1.toInt64 &&& 63)))
  else (f_X1_setBits n2 (n0.1 <<< (p1.toInt64 &&& 63)) (n0.2.1 <<< (p1.toInt64 &&& 63)))
set_option maxHeartbeats 4000000 in
set_option maxRecDepth 100000 in
theorem c_X2_shiftLeft (l : Launch) (D : va_G) (h0 : Nat) (h1 : Nat) (h2 : Nat) (h3 : Nat) (n0 : Nm) (n1 : Nm) (n2 : Nm) (p1 : Int32) : sp_M l yX2_shiftLeft wsX2_shiftLeft ({ frames := 1, cells := 0, slots := 0, locals := 24 }) D [.ref h0, .int p1] ([(h0, .inr (2, [.ref h1, .ref h2, .ref h3])), (h1, .inr (1, nm_fs n0)), (h2, .inr (1, nm_fs n1)), (h3, .inr (1, nm_fs n2))]) [] (sp_Qv D ([(h0, .inr (2, [.ref h1, .ref h2, .ref h3])), (h1, .inr (1, nm_fs n0)), (h2, .inr (1, nm_fs n1)), (h3, .inr (1, nm_fs n2))]) ([(h0, .inr (2, [.ref h1, .ref h2, .ref h3])), (h1, .inr (1, nm_fs n0)), (h2, .inr (1, nm_fs n1)), (h3, .inr (1, nm_fs (f_X2_shiftLeft n0 n1 n2 p1)))]) []) := by
  refine sp_ofW (cc := cX2_shiftLeft) (nL := 2) (ret := none) (own := RX2) (by decide) rfl rfl (Nat.le_of_ble_eq_true rfl) ?_
  intro p e s m below meth c A ls hAe hnm C hA hP hK hD hS hl
  have hx := C.1
  have hb := C.2.1
  have hown := C.2.2.2.2.1
  have hts := C.2.2.2.2.2.1
  have hl : lv_has ls 2 [(0, .ref h0), (1, .int p1)] := hl
  have hi1 : ∀ w ∈ u_ws RX1 TX1 6, w ∈ wsX2_shiftLeft := fun w h => List.mem_cons_of_mem _ (inX1 w h)
  have hi2 : ∀ w ∈ u_ws RX2 TX2 3, w ∈ wsX2_shiftLeft := fun w h => List.mem_cons_of_mem _ (inX2 w h)
  have hk0 := hts _ (List.mem_cons_of_mem _ wm_110)
  have hk1 := hts _ (List.mem_cons_of_mem _ wm_108)
  have hk2 := hts _ (List.mem_cons_of_mem _ wm_140)
  have hk3 := hts _ (List.mem_cons_of_mem _ wm_141)
  have hk4 := hts _ (List.mem_cons_of_mem _ wm_142)
  have hk5 := hts _ (List.mem_cons_of_mem _ wm_145)
  refine lv_aload_n hx hb dX2_shiftLeft_0 rfl (lv_at hl 0 rfl) ?_
  refine va_get (D := D) (ci := 2) (v := .ref h3) (C := RX2) (T := TX2) (N := 3) hx hb hts hi2 hown hK hP 0 rfl rfl 2 (by decide) hk0 (fun _ h9 => h9) rfl dX2_shiftLeft_1 ?_
  refine lv_aload_n hx hb dX2_shiftLeft_4 rfl (lv_at hl 0 rfl) ?_
  refine va_get (D := D) (ci := 2) (v := .ref h1) (C := RX2) (T := TX2) (N := 3) hx hb hts hi2 hown hK hP 0 rfl rfl 0 (by decide) hk1 (fun _ h9 => h9) rfl dX2_shiftLeft_5 ?_
  refine va_get (D := D) (ci := 1) (v := .long n0.1) (C := RX1) (T := TX1) (N := 6) hx hb hts hi1 hown hK hP 1 rfl rfl 0 (by decide) hk2 (fun _ h9 => h9) rfl dX2_shiftLeft_8 ?_
  refine lv_iload_n hx hb dX2_shiftLeft_11 rfl (lv_at hl 1 rfl) ?_
  refine lv_lshl (v := n0.1 <<< (p1.toInt64 &&& 63)) hx hb dX2_shiftLeft_12 rfl ?_
  refine lv_aload_n hx hb dX2_shiftLeft_13 rfl (lv_at hl 0 rfl) ?_
  refine va_get (D := D) (ci := 2) (v := .ref h1) (C := RX2) (T := TX2) (N := 3) hx hb hts hi2 hown hK hP 0 rfl rfl 0 (by decide) hk1 (fun _ h9 => h9) rfl dX2_shiftLeft_14 ?_
  refine va_get (D := D) (ci := 1) (v := .long n0.2.1) (C := RX1) (T := TX1) (N := 6) hx hb hts hi1 hown hK hP 1 rfl rfl 1 (by decide) hk3 (fun _ h9 => h9) rfl dX2_shiftLeft_17 ?_
  refine lv_iload_n hx hb dX2_shiftLeft_20 rfl (lv_at hl 1 rfl) ?_
  refine lv_lshl (v := n0.2.1 <<< (p1.toInt64 &&& 63)) hx hb dX2_shiftLeft_21 rfl ?_
  refine sp_callv (sp_runV (As := [.long (n0.1 <<< (p1.toInt64 &&& 63)), .long (n0.2.1 <<< (p1.toInt64 &&& 63))]) (rest := []) C (c_X1_setBits l D h3 n2 (n0.1 <<< (p1.toInt64 &&& 63)) (n0.2.1 <<< (p1.toInt64 &&& 63))) (cwV 2 hts (gV wG_c wm_134 wm_29 wm_30 wm_31 wm_27) rfl rfl rfl (by decide +kernel) ⟨Nat.le_of_ble_eq_true rfl, Nat.le_of_ble_eq_true rfl⟩) hK hP hD [3] (by decide) rfl [] rfl 0 1 rfl rfl rfl rfl hl.1 rfl (Nat.le_of_ble_eq_true rfl) dX2_shiftLeft_22 ⟨Nat.le_of_ble_eq_true rfl, Nat.le_of_ble_eq_true rfl⟩) hP hD hS hA [3] rfl (sp_fc sp_f0) (fun H locs hP hD hS => ?_)
  have hP : va_P D vwCl ([(h0, .inr (2, [.ref h1, .ref h2, .ref h3])), (h1, .inr (1, nm_fs n0)), (h2, .inr (1, nm_fs n1)), (h3, .inr (1, nm_fs (f_X1_setBits n2 (n0.1 <<< (p1.toInt64 &&& 63)) (n0.2.1 <<< (p1.toInt64 &&& 63)))))]) H := hP
  have hD : va_D A ([(h0, .inr (2, [.ref h1, .ref h2, .ref h3])), (h1, .inr (1, nm_fs n0)), (h2, .inr (1, nm_fs n1)), (h3, .inr (1, nm_fs (f_X1_setBits n2 (n0.1 <<< (p1.toInt64 &&& 63)) (n0.2.1 <<< (p1.toInt64 &&& 63)))))]) := hD
  refine lv_aload_n hx hb dX2_shiftLeft_25 rfl (lv_at hl 0 rfl) ?_
  refine va_get (D := D) (ci := 2) (v := .ref h1) (C := RX2) (T := TX2) (N := 3) hx hb hts hi2 hown hK hP 0 rfl rfl 0 (by decide) hk1 (fun _ h9 => h9) rfl dX2_shiftLeft_26 ?_
  refine va_get (D := D) (ci := 1) (v := .long n0.2.2.2.1) (C := RX1) (T := TX1) (N := 6) hx hb hts hi1 hown hK hP 1 rfl rfl 3 (by decide) hk4 (fun _ h9 => h9) rfl dX2_shiftLeft_29 ?_
  refine lv_iload_n hx hb dX2_shiftLeft_32 rfl (lv_at hl 1 rfl) ?_
  refine lv_lshl (v := n0.2.2.2.1 <<< (p1.toInt64 &&& 63)) hx hb dX2_shiftLeft_33 rfl ?_
  refine lv_iload_n hx hb dX2_shiftLeft_34 rfl (lv_at hl 1 rfl) ?_
  refine lv_lushr (v := ((n0.2.2.2.1 <<< (p1.toInt64 &&& 63)).toUInt64 >>> (p1.toInt64.toUInt64 &&& Int64.toUInt64 63)).toInt64) hx hb dX2_shiftLeft_35 rfl ?_
  refine lv_aload_n hx hb dX2_shiftLeft_36 rfl (lv_at hl 0 rfl) ?_
  refine va_get (D := D) (ci := 2) (v := .ref h1) (C := RX2) (T := TX2) (N := 3) hx hb hts hi2 hown hK hP 0 rfl rfl 0 (by decide) hk1 (fun _ h9 => h9) rfl dX2_shiftLeft_37 ?_
  refine va_get (D := D) (ci := 1) (v := .long n0.2.2.2.1) (C := RX1) (T := TX1) (N := 6) hx hb hts hi1 hown hK hP 1 rfl rfl 3 (by decide) hk4 (fun _ h9 => h9) rfl dX2_shiftLeft_40 ?_
  refine W.lcmp hx hb dX2_shiftLeft_43 ?_
  refine lv_if_ne (tgt := 72) hx hb dX2_shiftLeft_44 (by decide) (fun c1 => ?_) (fun c1 => ?_)
  · have e9 : f_X2_shiftLeft n0 n1 n2 p1 = (f_X1_setBits n2 (n0.1 <<< (p1.toInt64 &&& 63)) (n0.2.1 <<< (p1.toInt64 &&& 63))) := (if_neg c1).trans (rfl)
    rw [e9]
    exact sp_vret C hAe hP hK hD hS dX2_shiftLeft_72
  · refine lv_aload_n hx hb dX2_shiftLeft_47 rfl (lv_at hl 0 rfl) ?_
    refine va_get (D := D) (ci := 2) (v := .ref h3) (C := RX2) (T := TX2) (N := 3) hx hb hts hi2 hown hK hP 0 rfl rfl 2 (by decide) hk0 (fun _ h9 => h9) rfl dX2_shiftLeft_48 ?_
    refine lv_aload_n hx hb dX2_shiftLeft_51 rfl (lv_at hl 0 rfl) ?_
    refine va_get (D := D) (ci := 2) (v := .ref h1) (C := RX2) (T := TX2) (N := 3) hx hb hts hi2 hown hK hP 0 rfl rfl 0 (by decide) hk1 (fun _ h9 => h9) rfl dX2_shiftLeft_52 ?_
    refine va_get (D := D) (ci := 1) (v := .long n0.2.2.1) (C := RX1) (T := TX1) (N := 6) hx hb hts hi1 hown hK hP 1 rfl rfl 2 (by decide) hk5 (fun _ h9 => h9) rfl dX2_shiftLeft_55 ?_
    refine lv_iload_n hx hb dX2_shiftLeft_58 rfl (lv_at hl 1 rfl) ?_
    refine lv_lshl (v := n0.2.2.1 <<< (p1.toInt64 &&& 63)) hx hb dX2_shiftLeft_59 rfl ?_
    refine lv_aload_n hx hb dX2_shiftLeft_60 rfl (lv_at hl 0 rfl) ?_
    refine va_get (D := D) (ci := 2) (v := .ref h1) (C := RX2) (T := TX2) (N := 3) hx hb hts hi2 hown hK hP 0 rfl rfl 0 (by decide) hk1 (fun _ h9 => h9) rfl dX2_shiftLeft_61 ?_
    refine va_get (D := D) (ci := 1) (v := .long n0.2.2.2.1) (C := RX1) (T := TX1) (N := 6) hx hb hts hi1 hown hK hP 1 rfl rfl 3 (by decide) hk4 (fun _ h9 => h9) rfl dX2_shiftLeft_64 ?_
    refine lv_iload_n hx hb dX2_shiftLeft_67 rfl (lv_at hl 1 rfl) ?_
    refine lv_lshl (v := n0.2.2.2.1 <<< (p1.toInt64 &&& 63)) hx hb dX2_shiftLeft_68 rfl ?_
    refine sp_callv (sp_runV (As := [.long (n0.2.2.1 <<< (p1.toInt64 &&& 63)), .long (n0.2.2.2.1 <<< (p1.toInt64 &&& 63))]) (rest := []) C (c_X1_setUnsigned l D h3 (f_X1_setBits n2 (n0.1 <<< (p1.toInt64 &&& 63)) (n0.2.1 <<< (p1.toInt64 &&& 63))) (n0.2.2.1 <<< (p1.toInt64 &&& 63)) (n0.2.2.2.1 <<< (p1.toInt64 &&& 63))) (cwV 2 hts (gV wG_c wm_139 wm_34 wm_35 wm_31 wm_32) rfl rfl rfl (by decide +kernel) ⟨Nat.le_of_ble_eq_true rfl, Nat.le_of_ble_eq_true rfl⟩) hK hP hD [3] (by decide) rfl [] rfl 0 1 rfl rfl rfl rfl hl.1 rfl (Nat.le_of_ble_eq_true rfl) dX2_shiftLeft_69 ⟨Nat.le_of_ble_eq_true rfl, Nat.le_of_ble_eq_true rfl⟩) hP hD hS hA [3] rfl (sp_fc sp_f0) (fun H locs hP hD hS => ?_)
    have hP : va_P D vwCl ([(h0, .inr (2, [.ref h1, .ref h2, .ref h3])), (h1, .inr (1, nm_fs n0)), (h2, .inr (1, nm_fs n1)), (h3, .inr (1, nm_fs (f_X1_setUnsigned (f_X1_setBits n2 (n0.1 <<< (p1.toInt64 &&& 63)) (n0.2.1 <<< (p1.toInt64 &&& 63))) (n0.2.2.1 <<< (p1.toInt64 &&& 63)) (n0.2.2.2.1 <<< (p1.toInt64 &&& 63)))))]) H := hP
    have hD : va_D A ([(h0, .inr (2, [.ref h1, .ref h2, .ref h3])), (h1, .inr (1, nm_fs n0)), (h2, .inr (1, nm_fs n1)), (h3, .inr (1, nm_fs (f_X1_setUnsigned (f_X1_setBits n2 (n0.1 <<< (p1.toInt64 &&& 63)) (n0.2.1 <<< (p1.toInt64 &&& 63))) (n0.2.2.1 <<< (p1.toInt64 &&& 63)) (n0.2.2.2.1 <<< (p1.toInt64 &&& 63)))))]) := hD
    have e9 : f_X2_shiftLeft n0 n1 n2 p1 = (f_X1_setUnsigned (f_X1_setBits n2 (n0.1 <<< (p1.toInt64 &&& 63)) (n0.2.1 <<< (p1.toInt64 &&& 63))) (n0.2.2.1 <<< (p1.toInt64 &&& 63)) (n0.2.2.2.1 <<< (p1.toInt64 &&& 63))) := (if_pos c1).trans (rfl)
    rw [e9]
    exact sp_vret C hAe hP hK hD hS dX2_shiftLeft_72
def f_X2_shiftRight (n0 : Nm) (n1 : Nm) (n2 : Nm) (p1 : Int32) : Nm :=
  (f_X1_setUnsigned (f_X1_setBits n2 ((n0.1.toUInt64 >>> (p1.toInt64.toUInt64 &&& Int64.toUInt64 63)).toInt64) ((n0.2.1.toUInt64 >>> (p1.toInt64.toUInt64 &&& Int64.toUInt64 63)).toInt64)) ((n0.2.2.1.toUInt64 >>> (p1.toInt64.toUInt64 &&& Int64.toUInt64 63)).toInt64) ((n0.2.2.2.1.toUInt64 >>> (p1.toInt64.toUInt64 &&& Int64.toUInt64 63)).toInt64))
set_option maxHeartbeats 4000000 in
set_option maxRecDepth 100000 in
theorem c_X2_shiftRight (l : Launch) (D : va_G) (h0 : Nat) (h1 : Nat) (h2 : Nat) (h3 : Nat) (n0 : Nm) (n1 : Nm) (n2 : Nm) (p1 : Int32) : sp_M l yX2_shiftRight wsX2_shiftRight ({ frames := 1, cells := 0, slots := 0, locals := 24 }) D [.ref h0, .int p1] ([(h0, .inr (2, [.ref h1, .ref h2, .ref h3])), (h1, .inr (1, nm_fs n0)), (h2, .inr (1, nm_fs n1)), (h3, .inr (1, nm_fs n2))]) [] (sp_Qv D ([(h0, .inr (2, [.ref h1, .ref h2, .ref h3])), (h1, .inr (1, nm_fs n0)), (h2, .inr (1, nm_fs n1)), (h3, .inr (1, nm_fs n2))]) ([(h0, .inr (2, [.ref h1, .ref h2, .ref h3])), (h1, .inr (1, nm_fs n0)), (h2, .inr (1, nm_fs n1)), (h3, .inr (1, nm_fs (f_X2_shiftRight n0 n1 n2 p1)))]) []) := by
  refine sp_ofW (cc := cX2_shiftRight) (nL := 2) (ret := none) (own := RX2) (by decide) rfl rfl (Nat.le_of_ble_eq_true rfl) ?_
  intro p e s m below meth c A ls hAe hnm C hA hP hK hD hS hl
  have hx := C.1
  have hb := C.2.1
  have hown := C.2.2.2.2.1
  have hts := C.2.2.2.2.2.1
  have hl : lv_has ls 2 [(0, .ref h0), (1, .int p1)] := hl
  have hi1 : ∀ w ∈ u_ws RX1 TX1 6, w ∈ wsX2_shiftRight := fun w h => List.mem_cons_of_mem _ (inX1 w h)
  have hi2 : ∀ w ∈ u_ws RX2 TX2 3, w ∈ wsX2_shiftRight := fun w h => List.mem_cons_of_mem _ (inX2 w h)
  have hk0 := hts _ (List.mem_cons_of_mem _ wm_110)
  have hk1 := hts _ (List.mem_cons_of_mem _ wm_108)
  have hk2 := hts _ (List.mem_cons_of_mem _ wm_140)
  have hk3 := hts _ (List.mem_cons_of_mem _ wm_141)
  have hk4 := hts _ (List.mem_cons_of_mem _ wm_145)
  have hk5 := hts _ (List.mem_cons_of_mem _ wm_142)
  refine lv_aload_n hx hb dX2_shiftRight_0 rfl (lv_at hl 0 rfl) ?_
  refine va_get (D := D) (ci := 2) (v := .ref h3) (C := RX2) (T := TX2) (N := 3) hx hb hts hi2 hown hK hP 0 rfl rfl 2 (by decide) hk0 (fun _ h9 => h9) rfl dX2_shiftRight_1 ?_
  refine lv_aload_n hx hb dX2_shiftRight_4 rfl (lv_at hl 0 rfl) ?_
  refine va_get (D := D) (ci := 2) (v := .ref h1) (C := RX2) (T := TX2) (N := 3) hx hb hts hi2 hown hK hP 0 rfl rfl 0 (by decide) hk1 (fun _ h9 => h9) rfl dX2_shiftRight_5 ?_
  refine va_get (D := D) (ci := 1) (v := .long n0.1) (C := RX1) (T := TX1) (N := 6) hx hb hts hi1 hown hK hP 1 rfl rfl 0 (by decide) hk2 (fun _ h9 => h9) rfl dX2_shiftRight_8 ?_
  refine lv_iload_n hx hb dX2_shiftRight_11 rfl (lv_at hl 1 rfl) ?_
  refine lv_lushr (v := (n0.1.toUInt64 >>> (p1.toInt64.toUInt64 &&& Int64.toUInt64 63)).toInt64) hx hb dX2_shiftRight_12 rfl ?_
  refine lv_aload_n hx hb dX2_shiftRight_13 rfl (lv_at hl 0 rfl) ?_
  refine va_get (D := D) (ci := 2) (v := .ref h1) (C := RX2) (T := TX2) (N := 3) hx hb hts hi2 hown hK hP 0 rfl rfl 0 (by decide) hk1 (fun _ h9 => h9) rfl dX2_shiftRight_14 ?_
  refine va_get (D := D) (ci := 1) (v := .long n0.2.1) (C := RX1) (T := TX1) (N := 6) hx hb hts hi1 hown hK hP 1 rfl rfl 1 (by decide) hk3 (fun _ h9 => h9) rfl dX2_shiftRight_17 ?_
  refine lv_iload_n hx hb dX2_shiftRight_20 rfl (lv_at hl 1 rfl) ?_
  refine lv_lushr (v := (n0.2.1.toUInt64 >>> (p1.toInt64.toUInt64 &&& Int64.toUInt64 63)).toInt64) hx hb dX2_shiftRight_21 rfl ?_
  refine sp_callv (sp_runV (As := [.long ((n0.1.toUInt64 >>> (p1.toInt64.toUInt64 &&& Int64.toUInt64 63)).toInt64), .long ((n0.2.1.toUInt64 >>> (p1.toInt64.toUInt64 &&& Int64.toUInt64 63)).toInt64)]) (rest := []) C (c_X1_setBits l D h3 n2 ((n0.1.toUInt64 >>> (p1.toInt64.toUInt64 &&& Int64.toUInt64 63)).toInt64) ((n0.2.1.toUInt64 >>> (p1.toInt64.toUInt64 &&& Int64.toUInt64 63)).toInt64)) (cwV 2 hts (gV wG_c wm_134 wm_29 wm_30 wm_31 wm_27) rfl rfl rfl (by decide +kernel) ⟨Nat.le_of_ble_eq_true rfl, Nat.le_of_ble_eq_true rfl⟩) hK hP hD [3] (by decide) rfl [] rfl 0 1 rfl rfl rfl rfl hl.1 rfl (Nat.le_of_ble_eq_true rfl) dX2_shiftRight_22 ⟨Nat.le_of_ble_eq_true rfl, Nat.le_of_ble_eq_true rfl⟩) hP hD hS hA [3] rfl (sp_fc sp_f0) (fun H locs hP hD hS => ?_)
  have hP : va_P D vwCl ([(h0, .inr (2, [.ref h1, .ref h2, .ref h3])), (h1, .inr (1, nm_fs n0)), (h2, .inr (1, nm_fs n1)), (h3, .inr (1, nm_fs (f_X1_setBits n2 ((n0.1.toUInt64 >>> (p1.toInt64.toUInt64 &&& Int64.toUInt64 63)).toInt64) ((n0.2.1.toUInt64 >>> (p1.toInt64.toUInt64 &&& Int64.toUInt64 63)).toInt64))))]) H := hP
  have hD : va_D A ([(h0, .inr (2, [.ref h1, .ref h2, .ref h3])), (h1, .inr (1, nm_fs n0)), (h2, .inr (1, nm_fs n1)), (h3, .inr (1, nm_fs (f_X1_setBits n2 ((n0.1.toUInt64 >>> (p1.toInt64.toUInt64 &&& Int64.toUInt64 63)).toInt64) ((n0.2.1.toUInt64 >>> (p1.toInt64.toUInt64 &&& Int64.toUInt64 63)).toInt64))))]) := hD
  refine lv_aload_n hx hb dX2_shiftRight_25 rfl (lv_at hl 0 rfl) ?_
  refine va_get (D := D) (ci := 2) (v := .ref h3) (C := RX2) (T := TX2) (N := 3) hx hb hts hi2 hown hK hP 0 rfl rfl 2 (by decide) hk0 (fun _ h9 => h9) rfl dX2_shiftRight_26 ?_
  refine lv_aload_n hx hb dX2_shiftRight_29 rfl (lv_at hl 0 rfl) ?_
  refine va_get (D := D) (ci := 2) (v := .ref h1) (C := RX2) (T := TX2) (N := 3) hx hb hts hi2 hown hK hP 0 rfl rfl 0 (by decide) hk1 (fun _ h9 => h9) rfl dX2_shiftRight_30 ?_
  refine va_get (D := D) (ci := 1) (v := .long n0.2.2.1) (C := RX1) (T := TX1) (N := 6) hx hb hts hi1 hown hK hP 1 rfl rfl 2 (by decide) hk4 (fun _ h9 => h9) rfl dX2_shiftRight_33 ?_
  refine lv_iload_n hx hb dX2_shiftRight_36 rfl (lv_at hl 1 rfl) ?_
  refine lv_lushr (v := (n0.2.2.1.toUInt64 >>> (p1.toInt64.toUInt64 &&& Int64.toUInt64 63)).toInt64) hx hb dX2_shiftRight_37 rfl ?_
  refine lv_aload_n hx hb dX2_shiftRight_38 rfl (lv_at hl 0 rfl) ?_
  refine va_get (D := D) (ci := 2) (v := .ref h1) (C := RX2) (T := TX2) (N := 3) hx hb hts hi2 hown hK hP 0 rfl rfl 0 (by decide) hk1 (fun _ h9 => h9) rfl dX2_shiftRight_39 ?_
  refine va_get (D := D) (ci := 1) (v := .long n0.2.2.2.1) (C := RX1) (T := TX1) (N := 6) hx hb hts hi1 hown hK hP 1 rfl rfl 3 (by decide) hk5 (fun _ h9 => h9) rfl dX2_shiftRight_42 ?_
  refine lv_iload_n hx hb dX2_shiftRight_45 rfl (lv_at hl 1 rfl) ?_
  refine lv_lushr (v := (n0.2.2.2.1.toUInt64 >>> (p1.toInt64.toUInt64 &&& Int64.toUInt64 63)).toInt64) hx hb dX2_shiftRight_46 rfl ?_
  refine sp_callv (sp_runV (As := [.long ((n0.2.2.1.toUInt64 >>> (p1.toInt64.toUInt64 &&& Int64.toUInt64 63)).toInt64), .long ((n0.2.2.2.1.toUInt64 >>> (p1.toInt64.toUInt64 &&& Int64.toUInt64 63)).toInt64)]) (rest := []) C (c_X1_setUnsigned l D h3 (f_X1_setBits n2 ((n0.1.toUInt64 >>> (p1.toInt64.toUInt64 &&& Int64.toUInt64 63)).toInt64) ((n0.2.1.toUInt64 >>> (p1.toInt64.toUInt64 &&& Int64.toUInt64 63)).toInt64)) ((n0.2.2.1.toUInt64 >>> (p1.toInt64.toUInt64 &&& Int64.toUInt64 63)).toInt64) ((n0.2.2.2.1.toUInt64 >>> (p1.toInt64.toUInt64 &&& Int64.toUInt64 63)).toInt64)) (cwV 2 hts (gV wG_c wm_139 wm_34 wm_35 wm_31 wm_32) rfl rfl rfl (by decide +kernel) ⟨Nat.le_of_ble_eq_true rfl, Nat.le_of_ble_eq_true rfl⟩) hK hP hD [3] (by decide) rfl [] rfl 0 1 rfl rfl rfl rfl hl.1 rfl (Nat.le_of_ble_eq_true rfl) dX2_shiftRight_47 ⟨Nat.le_of_ble_eq_true rfl, Nat.le_of_ble_eq_true rfl⟩) hP hD hS hA [3] rfl (sp_fc sp_f0) (fun H locs hP hD hS => ?_)
  have hP : va_P D vwCl ([(h0, .inr (2, [.ref h1, .ref h2, .ref h3])), (h1, .inr (1, nm_fs n0)), (h2, .inr (1, nm_fs n1)), (h3, .inr (1, nm_fs (f_X1_setUnsigned (f_X1_setBits n2 ((n0.1.toUInt64 >>> (p1.toInt64.toUInt64 &&& Int64.toUInt64 63)).toInt64) ((n0.2.1.toUInt64 >>> (p1.toInt64.toUInt64 &&& Int64.toUInt64 63)).toInt64)) ((n0.2.2.1.toUInt64 >>> (p1.toInt64.toUInt64 &&& Int64.toUInt64 63)).toInt64) ((n0.2.2.2.1.toUInt64 >>> (p1.toInt64.toUInt64 &&& Int64.toUInt64 63)).toInt64))))]) H := hP
  have hD : va_D A ([(h0, .inr (2, [.ref h1, .ref h2, .ref h3])), (h1, .inr (1, nm_fs n0)), (h2, .inr (1, nm_fs n1)), (h3, .inr (1, nm_fs (f_X1_setUnsigned (f_X1_setBits n2 ((n0.1.toUInt64 >>> (p1.toInt64.toUInt64 &&& Int64.toUInt64 63)).toInt64) ((n0.2.1.toUInt64 >>> (p1.toInt64.toUInt64 &&& Int64.toUInt64 63)).toInt64)) ((n0.2.2.1.toUInt64 >>> (p1.toInt64.toUInt64 &&& Int64.toUInt64 63)).toInt64) ((n0.2.2.2.1.toUInt64 >>> (p1.toInt64.toUInt64 &&& Int64.toUInt64 63)).toInt64))))]) := hD
  have e9 : f_X2_shiftRight n0 n1 n2 p1 = (f_X1_setUnsigned (f_X1_setBits n2 ((n0.1.toUInt64 >>> (p1.toInt64.toUInt64 &&& Int64.toUInt64 63)).toInt64) ((n0.2.1.toUInt64 >>> (p1.toInt64.toUInt64 &&& Int64.toUInt64 63)).toInt64)) ((n0.2.2.1.toUInt64 >>> (p1.toInt64.toUInt64 &&& Int64.toUInt64 63)).toInt64) ((n0.2.2.2.1.toUInt64 >>> (p1.toInt64.toUInt64 &&& Int64.toUInt64 63)).toInt64)) := rfl
  rw [e9]
  exact sp_vret C hAe hP hK hD hS dX2_shiftRight_50
def f_X2_shiftRightSigned (n0 : Nm) (n1 : Nm) (n2 : Nm) (p1 : Int32) : Nm :=
  (f_X1_setSigned (f_X1_setBits n2 (n0.1 >>> (p1.toInt64 &&& 63)) (n0.2.1 >>> (p1.toInt64 &&& 63))) (n0.2.2.2.2.1 >>> (p1.toInt64 &&& 63)) (n0.2.2.2.2.2 >>> (p1.toInt64 &&& 63)))
set_option maxHeartbeats 4000000 in
set_option maxRecDepth 100000 in
theorem c_X2_shiftRightSigned (l : Launch) (D : va_G) (h0 : Nat) (h1 : Nat) (h2 : Nat) (h3 : Nat) (n0 : Nm) (n1 : Nm) (n2 : Nm) (p1 : Int32) : sp_M l yX2_shiftRightSigned wsX2_shiftRightSigned ({ frames := 1, cells := 0, slots := 0, locals := 24 }) D [.ref h0, .int p1] ([(h0, .inr (2, [.ref h1, .ref h2, .ref h3])), (h1, .inr (1, nm_fs n0)), (h2, .inr (1, nm_fs n1)), (h3, .inr (1, nm_fs n2))]) [] (sp_Qv D ([(h0, .inr (2, [.ref h1, .ref h2, .ref h3])), (h1, .inr (1, nm_fs n0)), (h2, .inr (1, nm_fs n1)), (h3, .inr (1, nm_fs n2))]) ([(h0, .inr (2, [.ref h1, .ref h2, .ref h3])), (h1, .inr (1, nm_fs n0)), (h2, .inr (1, nm_fs n1)), (h3, .inr (1, nm_fs (f_X2_shiftRightSigned n0 n1 n2 p1)))]) []) := by
  refine sp_ofW (cc := cX2_shiftRightSigned) (nL := 2) (ret := none) (own := RX2) (by decide) rfl rfl (Nat.le_of_ble_eq_true rfl) ?_
  intro p e s m below meth c A ls hAe hnm C hA hP hK hD hS hl
  have hx := C.1
  have hb := C.2.1
  have hown := C.2.2.2.2.1
  have hts := C.2.2.2.2.2.1
  have hl : lv_has ls 2 [(0, .ref h0), (1, .int p1)] := hl
  have hi1 : ∀ w ∈ u_ws RX1 TX1 6, w ∈ wsX2_shiftRightSigned := fun w h => List.mem_cons_of_mem _ (inX1 w h)
  have hi2 : ∀ w ∈ u_ws RX2 TX2 3, w ∈ wsX2_shiftRightSigned := fun w h => List.mem_cons_of_mem _ (inX2 w h)
  have hk0 := hts _ (List.mem_cons_of_mem _ wm_110)
  have hk1 := hts _ (List.mem_cons_of_mem _ wm_108)
  have hk2 := hts _ (List.mem_cons_of_mem _ wm_140)
  have hk3 := hts _ (List.mem_cons_of_mem _ wm_141)
  have hk4 := hts _ (List.mem_cons_of_mem _ wm_143)
  have hk5 := hts _ (List.mem_cons_of_mem _ wm_144)
  refine lv_aload_n hx hb dX2_shiftRightSigned_0 rfl (lv_at hl 0 rfl) ?_
  refine va_get (D := D) (ci := 2) (v := .ref h3) (C := RX2) (T := TX2) (N := 3) hx hb hts hi2 hown hK hP 0 rfl rfl 2 (by decide) hk0 (fun _ h9 => h9) rfl dX2_shiftRightSigned_1 ?_
  refine lv_aload_n hx hb dX2_shiftRightSigned_4 rfl (lv_at hl 0 rfl) ?_
  refine va_get (D := D) (ci := 2) (v := .ref h1) (C := RX2) (T := TX2) (N := 3) hx hb hts hi2 hown hK hP 0 rfl rfl 0 (by decide) hk1 (fun _ h9 => h9) rfl dX2_shiftRightSigned_5 ?_
  refine va_get (D := D) (ci := 1) (v := .long n0.1) (C := RX1) (T := TX1) (N := 6) hx hb hts hi1 hown hK hP 1 rfl rfl 0 (by decide) hk2 (fun _ h9 => h9) rfl dX2_shiftRightSigned_8 ?_
  refine lv_iload_n hx hb dX2_shiftRightSigned_11 rfl (lv_at hl 1 rfl) ?_
  refine lv_lshr (v := n0.1 >>> (p1.toInt64 &&& 63)) hx hb dX2_shiftRightSigned_12 rfl ?_
  refine lv_aload_n hx hb dX2_shiftRightSigned_13 rfl (lv_at hl 0 rfl) ?_
  refine va_get (D := D) (ci := 2) (v := .ref h1) (C := RX2) (T := TX2) (N := 3) hx hb hts hi2 hown hK hP 0 rfl rfl 0 (by decide) hk1 (fun _ h9 => h9) rfl dX2_shiftRightSigned_14 ?_
  refine va_get (D := D) (ci := 1) (v := .long n0.2.1) (C := RX1) (T := TX1) (N := 6) hx hb hts hi1 hown hK hP 1 rfl rfl 1 (by decide) hk3 (fun _ h9 => h9) rfl dX2_shiftRightSigned_17 ?_
  refine lv_iload_n hx hb dX2_shiftRightSigned_20 rfl (lv_at hl 1 rfl) ?_
  refine lv_lshr (v := n0.2.1 >>> (p1.toInt64 &&& 63)) hx hb dX2_shiftRightSigned_21 rfl ?_
  refine sp_callv (sp_runV (As := [.long (n0.1 >>> (p1.toInt64 &&& 63)), .long (n0.2.1 >>> (p1.toInt64 &&& 63))]) (rest := []) C (c_X1_setBits l D h3 n2 (n0.1 >>> (p1.toInt64 &&& 63)) (n0.2.1 >>> (p1.toInt64 &&& 63))) (cwV 2 hts (gV wG_c wm_134 wm_29 wm_30 wm_31 wm_27) rfl rfl rfl (by decide +kernel) ⟨Nat.le_of_ble_eq_true rfl, Nat.le_of_ble_eq_true rfl⟩) hK hP hD [3] (by decide) rfl [] rfl 0 1 rfl rfl rfl rfl hl.1 rfl (Nat.le_of_ble_eq_true rfl) dX2_shiftRightSigned_22 ⟨Nat.le_of_ble_eq_true rfl, Nat.le_of_ble_eq_true rfl⟩) hP hD hS hA [3] rfl (sp_fc sp_f0) (fun H locs hP hD hS => ?_)
  have hP : va_P D vwCl ([(h0, .inr (2, [.ref h1, .ref h2, .ref h3])), (h1, .inr (1, nm_fs n0)), (h2, .inr (1, nm_fs n1)), (h3, .inr (1, nm_fs (f_X1_setBits n2 (n0.1 >>> (p1.toInt64 &&& 63)) (n0.2.1 >>> (p1.toInt64 &&& 63)))))]) H := hP
  have hD : va_D A ([(h0, .inr (2, [.ref h1, .ref h2, .ref h3])), (h1, .inr (1, nm_fs n0)), (h2, .inr (1, nm_fs n1)), (h3, .inr (1, nm_fs (f_X1_setBits n2 (n0.1 >>> (p1.toInt64 &&& 63)) (n0.2.1 >>> (p1.toInt64 &&& 63)))))]) := hD
  refine lv_aload_n hx hb dX2_shiftRightSigned_25 rfl (lv_at hl 0 rfl) ?_
  refine va_get (D := D) (ci := 2) (v := .ref h3) (C := RX2) (T := TX2) (N := 3) hx hb hts hi2 hown hK hP 0 rfl rfl 2 (by decide) hk0 (fun _ h9 => h9) rfl dX2_shiftRightSigned_26 ?_
  refine lv_aload_n hx hb dX2_shiftRightSigned_29 rfl (lv_at hl 0 rfl) ?_
  refine va_get (D := D) (ci := 2) (v := .ref h1) (C := RX2) (T := TX2) (N := 3) hx hb hts hi2 hown hK hP 0 rfl rfl 0 (by decide) hk1 (fun _ h9 => h9) rfl dX2_shiftRightSigned_30 ?_
  refine va_get (D := D) (ci := 1) (v := .long n0.2.2.2.2.1) (C := RX1) (T := TX1) (N := 6) hx hb hts hi1 hown hK hP 1 rfl rfl 4 (by decide) hk4 (fun _ h9 => h9) rfl dX2_shiftRightSigned_33 ?_
  refine lv_iload_n hx hb dX2_shiftRightSigned_36 rfl (lv_at hl 1 rfl) ?_
  refine lv_lshr (v := n0.2.2.2.2.1 >>> (p1.toInt64 &&& 63)) hx hb dX2_shiftRightSigned_37 rfl ?_
  refine lv_aload_n hx hb dX2_shiftRightSigned_38 rfl (lv_at hl 0 rfl) ?_
  refine va_get (D := D) (ci := 2) (v := .ref h1) (C := RX2) (T := TX2) (N := 3) hx hb hts hi2 hown hK hP 0 rfl rfl 0 (by decide) hk1 (fun _ h9 => h9) rfl dX2_shiftRightSigned_39 ?_
  refine va_get (D := D) (ci := 1) (v := .long n0.2.2.2.2.2) (C := RX1) (T := TX1) (N := 6) hx hb hts hi1 hown hK hP 1 rfl rfl 5 (by decide) hk5 (fun _ h9 => h9) rfl dX2_shiftRightSigned_42 ?_
  refine lv_iload_n hx hb dX2_shiftRightSigned_45 rfl (lv_at hl 1 rfl) ?_
  refine lv_lshr (v := n0.2.2.2.2.2 >>> (p1.toInt64 &&& 63)) hx hb dX2_shiftRightSigned_46 rfl ?_
  refine sp_callv (sp_runV (As := [.long (n0.2.2.2.2.1 >>> (p1.toInt64 &&& 63)), .long (n0.2.2.2.2.2 >>> (p1.toInt64 &&& 63))]) (rest := []) C (c_X1_setSigned l D h3 (f_X1_setBits n2 (n0.1 >>> (p1.toInt64 &&& 63)) (n0.2.1 >>> (p1.toInt64 &&& 63))) (n0.2.2.2.2.1 >>> (p1.toInt64 &&& 63)) (n0.2.2.2.2.2 >>> (p1.toInt64 &&& 63))) (cwV 2 hts (gV wG_c wm_138 wm_38 wm_39 wm_31 wm_36) rfl rfl rfl (by decide +kernel) ⟨Nat.le_of_ble_eq_true rfl, Nat.le_of_ble_eq_true rfl⟩) hK hP hD [3] (by decide) rfl [] rfl 0 1 rfl rfl rfl rfl hl.1 rfl (Nat.le_of_ble_eq_true rfl) dX2_shiftRightSigned_47 ⟨Nat.le_of_ble_eq_true rfl, Nat.le_of_ble_eq_true rfl⟩) hP hD hS hA [3] rfl (sp_fc sp_f0) (fun H locs hP hD hS => ?_)
  have hP : va_P D vwCl ([(h0, .inr (2, [.ref h1, .ref h2, .ref h3])), (h1, .inr (1, nm_fs n0)), (h2, .inr (1, nm_fs n1)), (h3, .inr (1, nm_fs (f_X1_setSigned (f_X1_setBits n2 (n0.1 >>> (p1.toInt64 &&& 63)) (n0.2.1 >>> (p1.toInt64 &&& 63))) (n0.2.2.2.2.1 >>> (p1.toInt64 &&& 63)) (n0.2.2.2.2.2 >>> (p1.toInt64 &&& 63)))))]) H := hP
  have hD : va_D A ([(h0, .inr (2, [.ref h1, .ref h2, .ref h3])), (h1, .inr (1, nm_fs n0)), (h2, .inr (1, nm_fs n1)), (h3, .inr (1, nm_fs (f_X1_setSigned (f_X1_setBits n2 (n0.1 >>> (p1.toInt64 &&& 63)) (n0.2.1 >>> (p1.toInt64 &&& 63))) (n0.2.2.2.2.1 >>> (p1.toInt64 &&& 63)) (n0.2.2.2.2.2 >>> (p1.toInt64 &&& 63)))))]) := hD
  have e9 : f_X2_shiftRightSigned n0 n1 n2 p1 = (f_X1_setSigned (f_X1_setBits n2 (n0.1 >>> (p1.toInt64 &&& 63)) (n0.2.1 >>> (p1.toInt64 &&& 63))) (n0.2.2.2.2.1 >>> (p1.toInt64 &&& 63)) (n0.2.2.2.2.2 >>> (p1.toInt64 &&& 63))) := rfl
  rw [e9]
  exact sp_vret C hAe hP hK hD hS dX2_shiftRightSigned_50
def f_X2_shift (n0 : Nm) (n1 : Nm) (n2 : Nm) (p1 : Int32) (p2 : Int32) : Nm :=
  if (f_X1_isExact n1) = 0 then n2
  else if p2 = 0 then (if p1 = 8 then (f_X2_shiftLeft n0 n1 n2 ((n1.1 &&& 63).toInt32))
    else if p1 = 9 then (f_X2_shiftRight n0 n1 n2 ((n1.1 &&& 63).toInt32))
    else (f_X2_shiftRightSigned n0 n1 n2 ((n1.1 &&& 63).toInt32)))
  else if p1 = 8 then (f_X2_shiftLeft n0 n1 n2 ((n1.1 &&& 31).toInt32))
  else if p1 = 9 then (f_X2_shiftRight n0 n1 n2 ((n1.1 &&& 31).toInt32))
  else if (f_X0_isAbove 2147483648 n0.2.2.2.1) = 0 then n2
  else (f_X2_shiftRight n0 n1 n2 ((n1.1 &&& 31).toInt32))
set_option maxHeartbeats 4000000 in
set_option maxRecDepth 100000 in
theorem c_X2_shift (l : Launch) (D : va_G) (h0 : Nat) (h1 : Nat) (h2 : Nat) (h3 : Nat) (n0 : Nm) (n1 : Nm) (n2 : Nm) (p1 : Int32) (p2 : Int32) : sp_M l yX2_shift wsX2_shift ({ frames := 2, cells := 0, slots := 0, locals := 45 }) D [.ref h0, .int p1, .int p2] ([(h0, .inr (2, [.ref h1, .ref h2, .ref h3])), (h1, .inr (1, nm_fs n0)), (h2, .inr (1, nm_fs n1)), (h3, .inr (1, nm_fs n2))]) [] (sp_Qv D ([(h0, .inr (2, [.ref h1, .ref h2, .ref h3])), (h1, .inr (1, nm_fs n0)), (h2, .inr (1, nm_fs n1)), (h3, .inr (1, nm_fs n2))]) ([(h0, .inr (2, [.ref h1, .ref h2, .ref h3])), (h1, .inr (1, nm_fs n0)), (h2, .inr (1, nm_fs n1)), (h3, .inr (1, nm_fs (f_X2_shift n0 n1 n2 p1 p2)))]) []) := by
  refine sp_ofW (cc := cX2_shift) (nL := 4) (ret := none) (own := RX2) (by decide) rfl rfl (Nat.le_of_ble_eq_true rfl) ?_
  intro p e s m below meth c A ls hAe hnm C hA hP hK hD hS hl
  have hx := C.1
  have hb := C.2.1
  have hown := C.2.2.2.2.1
  have hts := C.2.2.2.2.2.1
  have hl : lv_has ls 4 [(0, .ref h0), (1, .int p1), (2, .int p2)] := hl
  have hi1 : ∀ w ∈ u_ws RX1 TX1 6, w ∈ wsX2_shift := fun w h => List.mem_cons_of_mem _ (inX1 w h)
  have hi2 : ∀ w ∈ u_ws RX2 TX2 3, w ∈ wsX2_shift := fun w h => List.mem_cons_of_mem _ (inX2 w h)
  have hk0 := hts _ (List.mem_cons_of_mem _ wm_109)
  have hk1 := hts _ (List.mem_cons_of_mem _ wm_140)
  have hk2 := hts _ (List.mem_cons_of_mem _ wm_185)
  have hk3 := hts _ (List.mem_cons_of_mem _ wm_186)
  have hk4 := hts _ (List.mem_cons_of_mem _ wm_187)
  have hk5 := hts _ (List.mem_cons_of_mem _ wm_108)
  have hk6 := hts _ (List.mem_cons_of_mem _ wm_142)
  have hk7 := hts _ (List.mem_cons_of_mem _ wm_4)
  have hk8 := hts _ (List.mem_cons_of_mem _ wm_3)
  refine lv_aload_n hx hb dX2_shift_0 rfl (lv_at hl 0 rfl) ?_
  refine va_get (D := D) (ci := 2) (v := .ref h2) (C := RX2) (T := TX2) (N := 3) hx hb hts hi2 hown hK hP 0 rfl rfl 1 (by decide) hk0 (fun _ h9 => h9) rfl dX2_shift_1 ?_
  refine sp_callz (sp_runV (As := []) (rest := []) C (c_X1_isExact l D h2 n1) (cwV 0 hts (gV wG_c wm_150 wm_151 wm_152 wm_31 wm_149) rfl rfl rfl (by decide +kernel) ⟨Nat.le_of_ble_eq_true rfl, Nat.le_of_ble_eq_true rfl⟩) hK hP hD [2] (by decide) rfl [] rfl 0 1 rfl rfl rfl rfl hl.1 rfl (Nat.le_of_ble_eq_true rfl) dX2_shift_4 ⟨Nat.le_of_ble_eq_true rfl, Nat.le_of_ble_eq_true rfl⟩) hP hD hS hA [2] rfl (sp_fc sp_f0) (fun H locs z1 hP hD hS => ?_)
  have hP : va_P D vwCl ([(h0, .inr (2, [.ref h1, .ref h2, .ref h3])), (h1, .inr (1, nm_fs n0)), (h2, .inr (1, nm_fs n1)), (h3, .inr (1, nm_fs n2))]) H := hP
  have hD : va_D A ([(h0, .inr (2, [.ref h1, .ref h2, .ref h3])), (h1, .inr (1, nm_fs n0)), (h2, .inr (1, nm_fs n1)), (h3, .inr (1, nm_fs n2))]) := hD
  refine lv_if_ne (tgt := 11) hx hb dX2_shift_7 (by decide) (fun c2 => ?_) (fun c2 => ?_)
  · refine lv_aload_n hx hb dX2_shift_11 rfl (lv_at hl 0 rfl) ?_
    refine va_get (D := D) (ci := 2) (v := .ref h2) (C := RX2) (T := TX2) (N := 3) hx hb hts hi2 hown hK hP 0 rfl rfl 1 (by decide) hk0 (fun _ h9 => h9) rfl dX2_shift_12 ?_
    refine va_get (D := D) (ci := 1) (v := .long n1.1) (C := RX1) (T := TX1) (N := 6) hx hb hts hi1 hown hK hP 2 rfl rfl 0 (by decide) hk1 (fun _ h9 => h9) rfl dX2_shift_15 ?_
    refine lv_iload_n hx hb dX2_shift_18 rfl (lv_at hl 2 rfl) ?_
    refine lv_if_eq (tgt := 28) hx hb dX2_shift_19 (by decide) (fun c3 => ?_) (fun c3 => ?_)
    · refine lv_ldc2 (v := 63) hx hb hown hk2 dX2_shift_28 ?_
      refine lv_land hx hb dX2_shift_31 ?_
      refine lv_l2i (v := (n1.1 &&& 63).toInt32) hx hb dX2_shift_32 rfl ?_
      refine lv_istore_n (lv' := [(3, .int ((n1.1 &&& 63).toInt32)), (0, .ref h0), (1, .int p1), (2, .int p2)]) hx hb dX2_shift_33 rfl hl (by decide) rfl (fun ls hl => ?_)
      refine lv_iload_n hx hb dX2_shift_34 rfl (lv_at hl 2 rfl) ?_
      refine lv_bipush (v := 8) hx hb dX2_shift_35 (by decide) ?_
      refine lv_icmp_ne (tgt := 48) hx hb dX2_shift_37 (by decide) (fun c4 => ?_) (fun c4 => ?_)
      · refine lv_iload_n hx hb dX2_shift_48 rfl (lv_at hl 2 rfl) ?_
        refine lv_bipush (v := 9) hx hb dX2_shift_49 (by decide) ?_
        refine lv_icmp_ne (tgt := 62) hx hb dX2_shift_51 (by decide) (fun c5 => ?_) (fun c5 => ?_)
        · refine lv_iload_n hx hb dX2_shift_62 rfl (lv_at hl 3 rfl) ?_
          refine lv_if_ne (tgt := 74) hx hb dX2_shift_63 (by decide) (fun h9 => absurd c3 h9) (fun _ => ?_)
          refine lv_aload_n hx hb dX2_shift_66 rfl (lv_at hl 1 rfl) ?_
          refine lv_iload_n hx hb dX2_shift_67 rfl (lv_at hl 0 rfl) ?_
          refine sp_callv (sp_runV (As := [.int ((n1.1 &&& 63).toInt32)]) (rest := []) C (c_X2_shiftRightSigned l D h0 h1 h2 h3 n0 n1 n2 ((n1.1 &&& 63).toInt32)) (cwV 1 hts (gV wG_c wm_174 wm_175 wm_176 wm_122 wm_173) rfl rfl rfl (by decide +kernel) ⟨Nat.le_of_ble_eq_true rfl, Nat.le_of_ble_eq_true rfl⟩) hK hP hD [0, 1, 2, 3] (by decide) rfl [] rfl 0 2 rfl rfl rfl rfl hl.1 rfl (Nat.le_of_ble_eq_true rfl) dX2_shift_68 ⟨Nat.le_of_ble_eq_true rfl, Nat.le_of_ble_eq_true rfl⟩) hP hD hS hA [0, 1, 2, 3] rfl (sp_fc (sp_fc (sp_fc (sp_fc sp_f0)))) (fun H locs hP hD hS => ?_)
          have hP : va_P D vwCl ([(h0, .inr (2, [.ref h1, .ref h2, .ref h3])), (h1, .inr (1, nm_fs n0)), (h2, .inr (1, nm_fs n1)), (h3, .inr (1, nm_fs (f_X2_shiftRightSigned n0 n1 n2 ((n1.1 &&& 63).toInt32))))]) H := hP
          have hD : va_D A ([(h0, .inr (2, [.ref h1, .ref h2, .ref h3])), (h1, .inr (1, nm_fs n0)), (h2, .inr (1, nm_fs n1)), (h3, .inr (1, nm_fs (f_X2_shiftRightSigned n0 n1 n2 ((n1.1 &&& 63).toInt32))))]) := hD
          refine lv_goto (tgt := 95) hx hb dX2_shift_71 (by decide) ?_
          have e9 : f_X2_shift n0 n1 n2 p1 p2 = (f_X2_shiftRightSigned n0 n1 n2 ((n1.1 &&& 63).toInt32)) := (if_neg c2).trans ((if_pos c3).trans ((if_neg c4).trans ((if_neg c5).trans (rfl))))
          rw [e9]
          exact sp_vret C hAe hP hK hD hS dX2_shift_95
        · refine lv_aload_n hx hb dX2_shift_54 rfl (lv_at hl 1 rfl) ?_
          refine lv_iload_n hx hb dX2_shift_55 rfl (lv_at hl 0 rfl) ?_
          refine sp_callv (sp_runV (As := [.int ((n1.1 &&& 63).toInt32)]) (rest := []) C (c_X2_shiftRight l D h0 h1 h2 h3 n0 n1 n2 ((n1.1 &&& 63).toInt32)) (cwV 1 hts (gV wG_c wm_178 wm_179 wm_180 wm_122 wm_177) rfl rfl rfl (by decide +kernel) ⟨Nat.le_of_ble_eq_true rfl, Nat.le_of_ble_eq_true rfl⟩) hK hP hD [0, 1, 2, 3] (by decide) rfl [] rfl 0 2 rfl rfl rfl rfl hl.1 rfl (Nat.le_of_ble_eq_true rfl) dX2_shift_56 ⟨Nat.le_of_ble_eq_true rfl, Nat.le_of_ble_eq_true rfl⟩) hP hD hS hA [0, 1, 2, 3] rfl (sp_fc (sp_fc (sp_fc (sp_fc sp_f0)))) (fun H locs hP hD hS => ?_)
          have hP : va_P D vwCl ([(h0, .inr (2, [.ref h1, .ref h2, .ref h3])), (h1, .inr (1, nm_fs n0)), (h2, .inr (1, nm_fs n1)), (h3, .inr (1, nm_fs (f_X2_shiftRight n0 n1 n2 ((n1.1 &&& 63).toInt32))))]) H := hP
          have hD : va_D A ([(h0, .inr (2, [.ref h1, .ref h2, .ref h3])), (h1, .inr (1, nm_fs n0)), (h2, .inr (1, nm_fs n1)), (h3, .inr (1, nm_fs (f_X2_shiftRight n0 n1 n2 ((n1.1 &&& 63).toInt32))))]) := hD
          refine lv_goto (tgt := 95) hx hb dX2_shift_59 (by decide) ?_
          have e9 : f_X2_shift n0 n1 n2 p1 p2 = (f_X2_shiftRight n0 n1 n2 ((n1.1 &&& 63).toInt32)) := (if_neg c2).trans ((if_pos c3).trans ((if_neg c4).trans ((if_pos c5).trans (rfl))))
          rw [e9]
          exact sp_vret C hAe hP hK hD hS dX2_shift_95
      · refine lv_aload_n hx hb dX2_shift_40 rfl (lv_at hl 1 rfl) ?_
        refine lv_iload_n hx hb dX2_shift_41 rfl (lv_at hl 0 rfl) ?_
        refine sp_callv (sp_runV (As := [.int ((n1.1 &&& 63).toInt32)]) (rest := []) C (c_X2_shiftLeft l D h0 h1 h2 h3 n0 n1 n2 ((n1.1 &&& 63).toInt32)) (cwV 1 hts (gV wG_c wm_182 wm_183 wm_184 wm_122 wm_181) rfl rfl rfl (by decide +kernel) ⟨Nat.le_of_ble_eq_true rfl, Nat.le_of_ble_eq_true rfl⟩) hK hP hD [0, 1, 2, 3] (by decide) rfl [] rfl 0 2 rfl rfl rfl rfl hl.1 rfl (Nat.le_of_ble_eq_true rfl) dX2_shift_42 ⟨Nat.le_of_ble_eq_true rfl, Nat.le_of_ble_eq_true rfl⟩) hP hD hS hA [0, 1, 2, 3] rfl (sp_fc (sp_fc (sp_fc (sp_fc sp_f0)))) (fun H locs hP hD hS => ?_)
        have hP : va_P D vwCl ([(h0, .inr (2, [.ref h1, .ref h2, .ref h3])), (h1, .inr (1, nm_fs n0)), (h2, .inr (1, nm_fs n1)), (h3, .inr (1, nm_fs (f_X2_shiftLeft n0 n1 n2 ((n1.1 &&& 63).toInt32))))]) H := hP
        have hD : va_D A ([(h0, .inr (2, [.ref h1, .ref h2, .ref h3])), (h1, .inr (1, nm_fs n0)), (h2, .inr (1, nm_fs n1)), (h3, .inr (1, nm_fs (f_X2_shiftLeft n0 n1 n2 ((n1.1 &&& 63).toInt32))))]) := hD
        refine lv_goto (tgt := 95) hx hb dX2_shift_45 (by decide) ?_
        have e9 : f_X2_shift n0 n1 n2 p1 p2 = (f_X2_shiftLeft n0 n1 n2 ((n1.1 &&& 63).toInt32)) := (if_neg c2).trans ((if_pos c3).trans ((if_pos c4).trans (rfl)))
        rw [e9]
        exact sp_vret C hAe hP hK hD hS dX2_shift_95
    · refine lv_ldc2 (v := 31) hx hb hown hk3 dX2_shift_22 ?_
      refine lv_goto (tgt := 31) hx hb dX2_shift_25 (by decide) ?_
      refine lv_land hx hb dX2_shift_31 ?_
      refine lv_l2i (v := (n1.1 &&& 31).toInt32) hx hb dX2_shift_32 rfl ?_
      refine lv_istore_n (lv' := [(3, .int ((n1.1 &&& 31).toInt32)), (0, .ref h0), (1, .int p1), (2, .int p2)]) hx hb dX2_shift_33 rfl hl (by decide) rfl (fun ls hl => ?_)
      refine lv_iload_n hx hb dX2_shift_34 rfl (lv_at hl 2 rfl) ?_
      refine lv_bipush (v := 8) hx hb dX2_shift_35 (by decide) ?_
      refine lv_icmp_ne (tgt := 48) hx hb dX2_shift_37 (by decide) (fun c7 => ?_) (fun c7 => ?_)
      · refine lv_iload_n hx hb dX2_shift_48 rfl (lv_at hl 2 rfl) ?_
        refine lv_bipush (v := 9) hx hb dX2_shift_49 (by decide) ?_
        refine lv_icmp_ne (tgt := 62) hx hb dX2_shift_51 (by decide) (fun c8 => ?_) (fun c8 => ?_)
        · refine lv_iload_n hx hb dX2_shift_62 rfl (lv_at hl 3 rfl) ?_
          refine lv_if_ne (tgt := 74) hx hb dX2_shift_63 (by decide) (fun _ => ?_) (fun h9 => absurd h9 c3)
          refine lv_ldc2 (v := 2147483648) hx hb hown hk4 dX2_shift_74 ?_
          refine lv_aload_n hx hb dX2_shift_77 rfl (lv_at hl 1 rfl) ?_
          refine va_get (D := D) (ci := 2) (v := .ref h1) (C := RX2) (T := TX2) (N := 3) hx hb hts hi2 hown hK hP 0 rfl rfl 0 (by decide) hk5 (fun _ h9 => h9) rfl dX2_shift_78 ?_
          refine va_get (D := D) (ci := 1) (v := .long n0.2.2.2.1) (C := RX1) (T := TX1) (N := 6) hx hb hts hi1 hown hK hP 1 rfl rfl 3 (by decide) hk6 (fun _ h9 => h9) rfl dX2_shift_81 ?_
          refine sp_callz (sp_runSN (As := [.long 2147483648, .long n0.2.2.2.1]) (rest := []) C (c_X0_isAbove l D 2147483648 n0.2.2.2.1) ⟨va_cnB 2 hts (gG wG_c wm_1) rfl rfl rfl (C.2.2.2.2.2.2.2.1 (RX2, 99, yX0_isAbove, "RangeDesk") (List.mem_of_getElem? (i := 5) rfl)) hk7 (by decide +kernel) ⟨Nat.le_of_ble_eq_true rfl, Nat.le_of_ble_eq_true rfl⟩, hk8, trivial⟩ hK hP hD [] (by decide) rfl [] rfl rfl hl.1 rfl (Nat.le_of_ble_eq_true rfl) dX2_shift_84 ⟨Nat.le_of_ble_eq_true rfl, Nat.le_of_ble_eq_true rfl⟩) hP hD hS hA [] rfl sp_f0 (fun H locs z10 hP hD hS => ?_)
          have hP : va_P D vwCl ([(h0, .inr (2, [.ref h1, .ref h2, .ref h3])), (h1, .inr (1, nm_fs n0)), (h2, .inr (1, nm_fs n1)), (h3, .inr (1, nm_fs n2))]) H := hP
          have hD : va_D A ([(h0, .inr (2, [.ref h1, .ref h2, .ref h3])), (h1, .inr (1, nm_fs n0)), (h2, .inr (1, nm_fs n1)), (h3, .inr (1, nm_fs n2))]) := hD
          refine lv_if_eq (tgt := 95) hx hb dX2_shift_87 (by decide) (fun c11 => ?_) (fun c11 => ?_)
          · have e9 : f_X2_shift n0 n1 n2 p1 p2 = n2 := (if_neg c2).trans ((if_neg c3).trans ((if_neg c7).trans ((if_neg c8).trans ((if_pos c11).trans (rfl)))))
            rw [e9]
            exact sp_vret C hAe hP hK hD hS dX2_shift_95
          · refine lv_aload_n hx hb dX2_shift_90 rfl (lv_at hl 1 rfl) ?_
            refine lv_iload_n hx hb dX2_shift_91 rfl (lv_at hl 0 rfl) ?_
            refine sp_callv (sp_runV (As := [.int ((n1.1 &&& 31).toInt32)]) (rest := []) C (c_X2_shiftRight l D h0 h1 h2 h3 n0 n1 n2 ((n1.1 &&& 31).toInt32)) (cwV 1 hts (gV wG_c wm_178 wm_179 wm_180 wm_122 wm_177) rfl rfl rfl (by decide +kernel) ⟨Nat.le_of_ble_eq_true rfl, Nat.le_of_ble_eq_true rfl⟩) hK hP hD [0, 1, 2, 3] (by decide) rfl [] rfl 0 2 rfl rfl rfl rfl hl.1 rfl (Nat.le_of_ble_eq_true rfl) dX2_shift_92 ⟨Nat.le_of_ble_eq_true rfl, Nat.le_of_ble_eq_true rfl⟩) hP hD hS hA [0, 1, 2, 3] rfl (sp_fc (sp_fc (sp_fc (sp_fc sp_f0)))) (fun H locs hP hD hS => ?_)
            have hP : va_P D vwCl ([(h0, .inr (2, [.ref h1, .ref h2, .ref h3])), (h1, .inr (1, nm_fs n0)), (h2, .inr (1, nm_fs n1)), (h3, .inr (1, nm_fs (f_X2_shiftRight n0 n1 n2 ((n1.1 &&& 31).toInt32))))]) H := hP
            have hD : va_D A ([(h0, .inr (2, [.ref h1, .ref h2, .ref h3])), (h1, .inr (1, nm_fs n0)), (h2, .inr (1, nm_fs n1)), (h3, .inr (1, nm_fs (f_X2_shiftRight n0 n1 n2 ((n1.1 &&& 31).toInt32))))]) := hD
            have e9 : f_X2_shift n0 n1 n2 p1 p2 = (f_X2_shiftRight n0 n1 n2 ((n1.1 &&& 31).toInt32)) := (if_neg c2).trans ((if_neg c3).trans ((if_neg c7).trans ((if_neg c8).trans ((if_neg c11).trans (rfl)))))
            rw [e9]
            exact sp_vret C hAe hP hK hD hS dX2_shift_95
        · refine lv_aload_n hx hb dX2_shift_54 rfl (lv_at hl 1 rfl) ?_
          refine lv_iload_n hx hb dX2_shift_55 rfl (lv_at hl 0 rfl) ?_
          refine sp_callv (sp_runV (As := [.int ((n1.1 &&& 31).toInt32)]) (rest := []) C (c_X2_shiftRight l D h0 h1 h2 h3 n0 n1 n2 ((n1.1 &&& 31).toInt32)) (cwV 1 hts (gV wG_c wm_178 wm_179 wm_180 wm_122 wm_177) rfl rfl rfl (by decide +kernel) ⟨Nat.le_of_ble_eq_true rfl, Nat.le_of_ble_eq_true rfl⟩) hK hP hD [0, 1, 2, 3] (by decide) rfl [] rfl 0 2 rfl rfl rfl rfl hl.1 rfl (Nat.le_of_ble_eq_true rfl) dX2_shift_56 ⟨Nat.le_of_ble_eq_true rfl, Nat.le_of_ble_eq_true rfl⟩) hP hD hS hA [0, 1, 2, 3] rfl (sp_fc (sp_fc (sp_fc (sp_fc sp_f0)))) (fun H locs hP hD hS => ?_)
          have hP : va_P D vwCl ([(h0, .inr (2, [.ref h1, .ref h2, .ref h3])), (h1, .inr (1, nm_fs n0)), (h2, .inr (1, nm_fs n1)), (h3, .inr (1, nm_fs (f_X2_shiftRight n0 n1 n2 ((n1.1 &&& 31).toInt32))))]) H := hP
          have hD : va_D A ([(h0, .inr (2, [.ref h1, .ref h2, .ref h3])), (h1, .inr (1, nm_fs n0)), (h2, .inr (1, nm_fs n1)), (h3, .inr (1, nm_fs (f_X2_shiftRight n0 n1 n2 ((n1.1 &&& 31).toInt32))))]) := hD
          refine lv_goto (tgt := 95) hx hb dX2_shift_59 (by decide) ?_
          have e9 : f_X2_shift n0 n1 n2 p1 p2 = (f_X2_shiftRight n0 n1 n2 ((n1.1 &&& 31).toInt32)) := (if_neg c2).trans ((if_neg c3).trans ((if_neg c7).trans ((if_pos c8).trans (rfl))))
          rw [e9]
          exact sp_vret C hAe hP hK hD hS dX2_shift_95
      · refine lv_aload_n hx hb dX2_shift_40 rfl (lv_at hl 1 rfl) ?_
        refine lv_iload_n hx hb dX2_shift_41 rfl (lv_at hl 0 rfl) ?_
        refine sp_callv (sp_runV (As := [.int ((n1.1 &&& 31).toInt32)]) (rest := []) C (c_X2_shiftLeft l D h0 h1 h2 h3 n0 n1 n2 ((n1.1 &&& 31).toInt32)) (cwV 1 hts (gV wG_c wm_182 wm_183 wm_184 wm_122 wm_181) rfl rfl rfl (by decide +kernel) ⟨Nat.le_of_ble_eq_true rfl, Nat.le_of_ble_eq_true rfl⟩) hK hP hD [0, 1, 2, 3] (by decide) rfl [] rfl 0 2 rfl rfl rfl rfl hl.1 rfl (Nat.le_of_ble_eq_true rfl) dX2_shift_42 ⟨Nat.le_of_ble_eq_true rfl, Nat.le_of_ble_eq_true rfl⟩) hP hD hS hA [0, 1, 2, 3] rfl (sp_fc (sp_fc (sp_fc (sp_fc sp_f0)))) (fun H locs hP hD hS => ?_)
        have hP : va_P D vwCl ([(h0, .inr (2, [.ref h1, .ref h2, .ref h3])), (h1, .inr (1, nm_fs n0)), (h2, .inr (1, nm_fs n1)), (h3, .inr (1, nm_fs (f_X2_shiftLeft n0 n1 n2 ((n1.1 &&& 31).toInt32))))]) H := hP
        have hD : va_D A ([(h0, .inr (2, [.ref h1, .ref h2, .ref h3])), (h1, .inr (1, nm_fs n0)), (h2, .inr (1, nm_fs n1)), (h3, .inr (1, nm_fs (f_X2_shiftLeft n0 n1 n2 ((n1.1 &&& 31).toInt32))))]) := hD
        refine lv_goto (tgt := 95) hx hb dX2_shift_45 (by decide) ?_
        have e9 : f_X2_shift n0 n1 n2 p1 p2 = (f_X2_shiftLeft n0 n1 n2 ((n1.1 &&& 31).toInt32)) := (if_neg c2).trans ((if_neg c3).trans ((if_pos c7).trans (rfl)))
        rw [e9]
        exact sp_vret C hAe hP hK hD hS dX2_shift_95
  · have e9 : f_X2_shift n0 n1 n2 p1 p2 = n2 := (if_pos c2).trans (rfl)
    rw [e9]
    exact sp_vret C hAe hP hK hD hS dX2_shift_10
def f_X2_negate (n0 : Nm) (n1 : Nm) (n2 : Nm) : Nm × Nm × Nm :=
  ((f_X1_becomeExact n0 0), (f_X1_become n1 n0), (f_X2_subtract (f_X1_becomeExact n0 0) (f_X1_become n1 n0) n2))
set_option maxHeartbeats 4000000 in
set_option maxRecDepth 100000 in
theorem c_X2_negate (l : Launch) (D : va_G) (h0 : Nat) (h1 : Nat) (h2 : Nat) (h3 : Nat) (n0 : Nm) (n1 : Nm) (n2 : Nm) : sp_M l yX2_negate wsX2_negate ({ frames := 2, cells := 0, slots := 0, locals := 48 }) D [.ref h0] ([(h0, .inr (2, [.ref h1, .ref h2, .ref h3])), (h1, .inr (1, nm_fs n0)), (h2, .inr (1, nm_fs n1)), (h3, .inr (1, nm_fs n2))]) [] (sp_Qv D ([(h0, .inr (2, [.ref h1, .ref h2, .ref h3])), (h1, .inr (1, nm_fs n0)), (h2, .inr (1, nm_fs n1)), (h3, .inr (1, nm_fs n2))]) ([(h0, .inr (2, [.ref h1, .ref h2, .ref h3])), (h1, .inr (1, nm_fs ((f_X2_negate n0 n1 n2).1))), (h2, .inr (1, nm_fs ((f_X2_negate n0 n1 n2).2.1))), (h3, .inr (1, nm_fs ((f_X2_negate n0 n1 n2).2.2)))]) []) := by
  refine sp_ofW (cc := cX2_negate) (nL := 1) (ret := none) (own := RX2) (by decide) rfl rfl (Nat.le_of_ble_eq_true rfl) ?_
  intro p e s m below meth c A ls hAe hnm C hA hP hK hD hS hl
  have hx := C.1
  have hb := C.2.1
  have hown := C.2.2.2.2.1
  have hts := C.2.2.2.2.2.1
  have hl : lv_has ls 1 [(0, .ref h0)] := hl
  have hi2 : ∀ w ∈ u_ws RX2 TX2 3, w ∈ wsX2_negate := fun w h => List.mem_cons_of_mem _ (inX2 w h)
  have hk0 := hts _ (List.mem_cons_of_mem _ wm_109)
  have hk1 := hts _ (List.mem_cons_of_mem _ wm_108)
  refine lv_aload_n hx hb dX2_negate_0 rfl (lv_at hl 0 rfl) ?_
  refine va_get (D := D) (ci := 2) (v := .ref h2) (C := RX2) (T := TX2) (N := 3) hx hb hts hi2 hown hK hP 0 rfl rfl 1 (by decide) hk0 (fun _ h9 => h9) rfl dX2_negate_1 ?_
  refine lv_aload_n hx hb dX2_negate_4 rfl (lv_at hl 0 rfl) ?_
  refine va_get (D := D) (ci := 2) (v := .ref h1) (C := RX2) (T := TX2) (N := 3) hx hb hts hi2 hown hK hP 0 rfl rfl 0 (by decide) hk1 (fun _ h9 => h9) rfl dX2_negate_5 ?_
  refine sp_callv (sp_runV (As := [.ref h1]) (rest := []) C (c_X1_become l D h2 h1 n1 n0) (cwV 1 hts (gV wG_c wm_166 wm_167 wm_168 wm_31 wm_165) rfl rfl rfl (by decide +kernel) ⟨Nat.le_of_ble_eq_true rfl, Nat.le_of_ble_eq_true rfl⟩) hK hP hD [2, 1] (by decide) rfl [] rfl 0 1 rfl rfl rfl rfl hl.1 rfl (Nat.le_of_ble_eq_true rfl) dX2_negate_8 ⟨Nat.le_of_ble_eq_true rfl, Nat.le_of_ble_eq_true rfl⟩) hP hD hS hA [2, 1] rfl (sp_fc (sp_fc sp_f0)) (fun H locs hP hD hS => ?_)
  have hP : va_P D vwCl ([(h0, .inr (2, [.ref h1, .ref h2, .ref h3])), (h1, .inr (1, nm_fs n0)), (h2, .inr (1, nm_fs (f_X1_become n1 n0))), (h3, .inr (1, nm_fs n2))]) H := hP
  have hD : va_D A ([(h0, .inr (2, [.ref h1, .ref h2, .ref h3])), (h1, .inr (1, nm_fs n0)), (h2, .inr (1, nm_fs (f_X1_become n1 n0))), (h3, .inr (1, nm_fs n2))]) := hD
  refine lv_aload_n hx hb dX2_negate_11 rfl (lv_at hl 0 rfl) ?_
  refine va_get (D := D) (ci := 2) (v := .ref h1) (C := RX2) (T := TX2) (N := 3) hx hb hts hi2 hown hK hP 0 rfl rfl 0 (by decide) hk1 (fun _ h9 => h9) rfl dX2_negate_12 ?_
  refine lv_lconst (v := 0) hx hb dX2_negate_15 (by decide) ?_
  refine sp_callv (sp_runV (As := [.long 0]) (rest := []) C (c_X1_becomeExact l D h1 n0 0) (cwV 1 hts (gV wG_c wm_158 wm_159 wm_160 wm_31 wm_157) rfl rfl rfl (by decide +kernel) ⟨Nat.le_of_ble_eq_true rfl, Nat.le_of_ble_eq_true rfl⟩) hK hP hD [1] (by decide) rfl [] rfl 0 1 rfl rfl rfl rfl hl.1 rfl (Nat.le_of_ble_eq_true rfl) dX2_negate_16 ⟨Nat.le_of_ble_eq_true rfl, Nat.le_of_ble_eq_true rfl⟩) hP hD hS hA [1] rfl (sp_fc sp_f0) (fun H locs hP hD hS => ?_)
  have hP : va_P D vwCl ([(h0, .inr (2, [.ref h1, .ref h2, .ref h3])), (h1, .inr (1, nm_fs (f_X1_becomeExact n0 0))), (h2, .inr (1, nm_fs (f_X1_become n1 n0))), (h3, .inr (1, nm_fs n2))]) H := hP
  have hD : va_D A ([(h0, .inr (2, [.ref h1, .ref h2, .ref h3])), (h1, .inr (1, nm_fs (f_X1_becomeExact n0 0))), (h2, .inr (1, nm_fs (f_X1_become n1 n0))), (h3, .inr (1, nm_fs n2))]) := hD
  refine lv_aload_n hx hb dX2_negate_19 rfl (lv_at hl 0 rfl) ?_
  refine sp_callv (sp_runV (As := []) (rest := []) C (c_X2_subtract l D h0 h1 h2 h3 (f_X1_becomeExact n0 0) (f_X1_become n1 n0) n2) (cwV 0 hts (gV wG_c wm_189 wm_190 wm_191 wm_122 wm_188) rfl rfl rfl (by decide +kernel) ⟨Nat.le_of_ble_eq_true rfl, Nat.le_of_ble_eq_true rfl⟩) hK hP hD [0, 1, 2, 3] (by decide) rfl [] rfl 0 2 rfl rfl rfl rfl hl.1 rfl (Nat.le_of_ble_eq_true rfl) dX2_negate_20 ⟨Nat.le_of_ble_eq_true rfl, Nat.le_of_ble_eq_true rfl⟩) hP hD hS hA [0, 1, 2, 3] rfl (sp_fc (sp_fc (sp_fc (sp_fc sp_f0)))) (fun H locs hP hD hS => ?_)
  have hP : va_P D vwCl ([(h0, .inr (2, [.ref h1, .ref h2, .ref h3])), (h1, .inr (1, nm_fs (f_X1_becomeExact n0 0))), (h2, .inr (1, nm_fs (f_X1_become n1 n0))), (h3, .inr (1, nm_fs (f_X2_subtract (f_X1_becomeExact n0 0) (f_X1_become n1 n0) n2)))]) H := hP
  have hD : va_D A ([(h0, .inr (2, [.ref h1, .ref h2, .ref h3])), (h1, .inr (1, nm_fs (f_X1_becomeExact n0 0))), (h2, .inr (1, nm_fs (f_X1_become n1 n0))), (h3, .inr (1, nm_fs (f_X2_subtract (f_X1_becomeExact n0 0) (f_X1_become n1 n0) n2)))]) := hD
  have e9 : f_X2_negate n0 n1 n2 = ((f_X1_becomeExact n0 0), (f_X1_become n1 n0), (f_X2_subtract (f_X1_becomeExact n0 0) (f_X1_become n1 n0) n2)) := rfl
  rw [e9]
  exact sp_vret C hAe hP hK hD hS dX2_negate_23
def f_X2_swap (n0 : Nm) (n1 : Nm) (n2 : Nm) (p1 : Int32) : Nm :=
  if (f_X1_isExact n0) = 0 then (f_X1_setUnsigned n2 0 (f_X2_greatestOf p1))
  else (f_X1_becomeExact n2 (((f_JL_reverseBytes n0.1).toUInt64 >>> ((64 - (8 * p1)).toInt64.toUInt64 &&& Int64.toUInt64 63)).toInt64))
set_option maxHeartbeats 4000000 in
set_option maxRecDepth 100000 in
theorem c_X2_swap (l : Launch) (D : va_G) (h0 : Nat) (h1 : Nat) (h2 : Nat) (h3 : Nat) (n0 : Nm) (n1 : Nm) (n2 : Nm) (p1 : Int32) : sp_M l yX2_swap wsX2_swap ({ frames := 2, cells := 0, slots := 0, locals := 46 }) D [.ref h0, .int p1] ([(h0, .inr (2, [.ref h1, .ref h2, .ref h3])), (h1, .inr (1, nm_fs n0)), (h2, .inr (1, nm_fs n1)), (h3, .inr (1, nm_fs n2))]) [] (sp_Qv D ([(h0, .inr (2, [.ref h1, .ref h2, .ref h3])), (h1, .inr (1, nm_fs n0)), (h2, .inr (1, nm_fs n1)), (h3, .inr (1, nm_fs n2))]) ([(h0, .inr (2, [.ref h1, .ref h2, .ref h3])), (h1, .inr (1, nm_fs n0)), (h2, .inr (1, nm_fs n1)), (h3, .inr (1, nm_fs (f_X2_swap n0 n1 n2 p1)))]) []) := by
  refine sp_ofW (cc := cX2_swap) (nL := 2) (ret := none) (own := RX2) (by decide) rfl rfl (Nat.le_of_ble_eq_true rfl) ?_
  intro p e s m below meth c A ls hAe hnm C hA hP hK hD hS hl
  have hx := C.1
  have hb := C.2.1
  have hown := C.2.2.2.2.1
  have hts := C.2.2.2.2.2.1
  have hl : lv_has ls 2 [(0, .ref h0), (1, .int p1)] := hl
  have hi1 : ∀ w ∈ u_ws RX1 TX1 6, w ∈ wsX2_swap := fun w h => List.mem_cons_of_mem _ (inX1 w h)
  have hi2 : ∀ w ∈ u_ws RX2 TX2 3, w ∈ wsX2_swap := fun w h => List.mem_cons_of_mem _ (inX2 w h)
  have hk0 := hts _ (List.mem_cons_of_mem _ wm_108)
  have hk1 := hts _ (List.mem_cons_of_mem _ wm_110)
  have hk2 := hts _ (List.mem_cons_of_mem _ wm_140)
  refine lv_aload_n hx hb dX2_swap_0 rfl (lv_at hl 0 rfl) ?_
  refine va_get (D := D) (ci := 2) (v := .ref h1) (C := RX2) (T := TX2) (N := 3) hx hb hts hi2 hown hK hP 0 rfl rfl 0 (by decide) hk0 (fun _ h9 => h9) rfl dX2_swap_1 ?_
  refine sp_callz (sp_runV (As := []) (rest := []) C (c_X1_isExact l D h1 n0) (cwV 0 hts (gV wG_c wm_150 wm_151 wm_152 wm_31 wm_149) rfl rfl rfl (by decide +kernel) ⟨Nat.le_of_ble_eq_true rfl, Nat.le_of_ble_eq_true rfl⟩) hK hP hD [1] (by decide) rfl [] rfl 0 1 rfl rfl rfl rfl hl.1 rfl (Nat.le_of_ble_eq_true rfl) dX2_swap_4 ⟨Nat.le_of_ble_eq_true rfl, Nat.le_of_ble_eq_true rfl⟩) hP hD hS hA [1] rfl (sp_fc sp_f0) (fun H locs z1 hP hD hS => ?_)
  have hP : va_P D vwCl ([(h0, .inr (2, [.ref h1, .ref h2, .ref h3])), (h1, .inr (1, nm_fs n0)), (h2, .inr (1, nm_fs n1)), (h3, .inr (1, nm_fs n2))]) H := hP
  have hD : va_D A ([(h0, .inr (2, [.ref h1, .ref h2, .ref h3])), (h1, .inr (1, nm_fs n0)), (h2, .inr (1, nm_fs n1)), (h3, .inr (1, nm_fs n2))]) := hD
  refine lv_if_eq (tgt := 38) hx hb dX2_swap_7 (by decide) (fun c2 => ?_) (fun c2 => ?_)
  · refine lv_aload_n hx hb dX2_swap_38 rfl (lv_at hl 0 rfl) ?_
    refine va_get (D := D) (ci := 2) (v := .ref h3) (C := RX2) (T := TX2) (N := 3) hx hb hts hi2 hown hK hP 0 rfl rfl 2 (by decide) hk1 (fun _ h9 => h9) rfl dX2_swap_39 ?_
    refine lv_lconst (v := 0) hx hb dX2_swap_42 (by decide) ?_
    refine lv_iload_n hx hb dX2_swap_43 rfl (lv_at hl 1 rfl) ?_
    refine sp_calll (sp_runS (As := [.int p1]) (rest := [.long 0, .ref h3]) C (c_X2_greatestOf l D p1) (va_cwS 1 hts (gS wG_c wm_193 wm_194 wm_122 wm_192) rfl rfl rfl (by decide +kernel) ⟨Nat.le_of_ble_eq_true rfl, Nat.le_of_ble_eq_true rfl⟩) hK hP hD [] (by decide) rfl [] rfl rfl hl.1 rfl (Nat.le_of_ble_eq_true rfl) dX2_swap_44 ⟨Nat.le_of_ble_eq_true rfl, Nat.le_of_ble_eq_true rfl⟩) hP hD hS hA [] rfl sp_f0 (fun H locs hP hD hS => ?_)
    have hP : va_P D vwCl ([(h0, .inr (2, [.ref h1, .ref h2, .ref h3])), (h1, .inr (1, nm_fs n0)), (h2, .inr (1, nm_fs n1)), (h3, .inr (1, nm_fs n2))]) H := hP
    have hD : va_D A ([(h0, .inr (2, [.ref h1, .ref h2, .ref h3])), (h1, .inr (1, nm_fs n0)), (h2, .inr (1, nm_fs n1)), (h3, .inr (1, nm_fs n2))]) := hD
    refine sp_callv (sp_runV (As := [.long 0, .long (f_X2_greatestOf p1)]) (rest := []) C (c_X1_setUnsigned l D h3 n2 0 (f_X2_greatestOf p1)) (cwV 2 hts (gV wG_c wm_139 wm_34 wm_35 wm_31 wm_32) rfl rfl rfl (by decide +kernel) ⟨Nat.le_of_ble_eq_true rfl, Nat.le_of_ble_eq_true rfl⟩) hK hP hD [3] (by decide) rfl [] rfl 0 1 rfl rfl rfl rfl hl.1 rfl (Nat.le_of_ble_eq_true rfl) dX2_swap_47 ⟨Nat.le_of_ble_eq_true rfl, Nat.le_of_ble_eq_true rfl⟩) hP hD hS hA [3] rfl (sp_fc sp_f0) (fun H locs hP hD hS => ?_)
    have hP : va_P D vwCl ([(h0, .inr (2, [.ref h1, .ref h2, .ref h3])), (h1, .inr (1, nm_fs n0)), (h2, .inr (1, nm_fs n1)), (h3, .inr (1, nm_fs (f_X1_setUnsigned n2 0 (f_X2_greatestOf p1))))]) H := hP
    have hD : va_D A ([(h0, .inr (2, [.ref h1, .ref h2, .ref h3])), (h1, .inr (1, nm_fs n0)), (h2, .inr (1, nm_fs n1)), (h3, .inr (1, nm_fs (f_X1_setUnsigned n2 0 (f_X2_greatestOf p1))))]) := hD
    have e9 : f_X2_swap n0 n1 n2 p1 = (f_X1_setUnsigned n2 0 (f_X2_greatestOf p1)) := (if_pos c2).trans (rfl)
    rw [e9]
    exact sp_vret C hAe hP hK hD hS dX2_swap_50
  · refine lv_aload_n hx hb dX2_swap_10 rfl (lv_at hl 0 rfl) ?_
    refine va_get (D := D) (ci := 2) (v := .ref h3) (C := RX2) (T := TX2) (N := 3) hx hb hts hi2 hown hK hP 0 rfl rfl 2 (by decide) hk1 (fun _ h9 => h9) rfl dX2_swap_11 ?_
    refine lv_aload_n hx hb dX2_swap_14 rfl (lv_at hl 0 rfl) ?_
    refine va_get (D := D) (ci := 2) (v := .ref h1) (C := RX2) (T := TX2) (N := 3) hx hb hts hi2 hown hK hP 0 rfl rfl 0 (by decide) hk0 (fun _ h9 => h9) rfl dX2_swap_15 ?_
    refine va_get (D := D) (ci := 1) (v := .long n0.1) (C := RX1) (T := TX1) (N := 6) hx hb hts hi1 hown hK hP 1 rfl rfl 0 (by decide) hk2 (fun _ h9 => h9) rfl dX2_swap_18 ?_
    refine sp_calll (sp_runS (As := [.long n0.1]) (rest := [.ref h3]) C (c_JL_reverseBytes l D n0.1) (va_cwS 1 hts (gS wG_c wm_196 wm_197 wm_77 wm_195) rfl rfl rfl (by decide +kernel) ⟨Nat.le_of_ble_eq_true rfl, Nat.le_of_ble_eq_true rfl⟩) hK hP hD [] (by decide) rfl [] rfl rfl hl.1 rfl (Nat.le_of_ble_eq_true rfl) dX2_swap_21 ⟨Nat.le_of_ble_eq_true rfl, Nat.le_of_ble_eq_true rfl⟩) hP hD hS hA [] rfl sp_f0 (fun H locs hP hD hS => ?_)
    have hP : va_P D vwCl ([(h0, .inr (2, [.ref h1, .ref h2, .ref h3])), (h1, .inr (1, nm_fs n0)), (h2, .inr (1, nm_fs n1)), (h3, .inr (1, nm_fs n2))]) H := hP
    have hD : va_D A ([(h0, .inr (2, [.ref h1, .ref h2, .ref h3])), (h1, .inr (1, nm_fs n0)), (h2, .inr (1, nm_fs n1)), (h3, .inr (1, nm_fs n2))]) := hD
    refine lv_bipush (v := 64) hx hb dX2_swap_24 (by decide) ?_
    refine lv_bipush (v := 8) hx hb dX2_swap_26 (by decide) ?_
    refine lv_iload_n hx hb dX2_swap_28 rfl (lv_at hl 1 rfl) ?_
    refine lv_imul hx hb dX2_swap_29 ?_
    refine lv_isub hx hb dX2_swap_30 ?_
    refine lv_lushr (v := ((f_JL_reverseBytes n0.1).toUInt64 >>> ((64 - (8 * p1)).toInt64.toUInt64 &&& Int64.toUInt64 63)).toInt64) hx hb dX2_swap_31 rfl ?_
    refine sp_callv (sp_runV (As := [.long (((f_JL_reverseBytes n0.1).toUInt64 >>> ((64 - (8 * p1)).toInt64.toUInt64 &&& Int64.toUInt64 63)).toInt64)]) (rest := []) C (c_X1_becomeExact l D h3 n2 (((f_JL_reverseBytes n0.1).toUInt64 >>> ((64 - (8 * p1)).toInt64.toUInt64 &&& Int64.toUInt64 63)).toInt64)) (cwV 1 hts (gV wG_c wm_158 wm_159 wm_160 wm_31 wm_157) rfl rfl rfl (by decide +kernel) ⟨Nat.le_of_ble_eq_true rfl, Nat.le_of_ble_eq_true rfl⟩) hK hP hD [3] (by decide) rfl [] rfl 0 1 rfl rfl rfl rfl hl.1 rfl (Nat.le_of_ble_eq_true rfl) dX2_swap_32 ⟨Nat.le_of_ble_eq_true rfl, Nat.le_of_ble_eq_true rfl⟩) hP hD hS hA [3] rfl (sp_fc sp_f0) (fun H locs hP hD hS => ?_)
    have hP : va_P D vwCl ([(h0, .inr (2, [.ref h1, .ref h2, .ref h3])), (h1, .inr (1, nm_fs n0)), (h2, .inr (1, nm_fs n1)), (h3, .inr (1, nm_fs (f_X1_becomeExact n2 (((f_JL_reverseBytes n0.1).toUInt64 >>> ((64 - (8 * p1)).toInt64.toUInt64 &&& Int64.toUInt64 63)).toInt64))))]) H := hP
    have hD : va_D A ([(h0, .inr (2, [.ref h1, .ref h2, .ref h3])), (h1, .inr (1, nm_fs n0)), (h2, .inr (1, nm_fs n1)), (h3, .inr (1, nm_fs (f_X1_becomeExact n2 (((f_JL_reverseBytes n0.1).toUInt64 >>> ((64 - (8 * p1)).toInt64.toUInt64 &&& Int64.toUInt64 63)).toInt64))))]) := hD
    refine lv_goto (tgt := 50) hx hb dX2_swap_35 (by decide) ?_
    have e9 : f_X2_swap n0 n1 n2 p1 = (f_X1_becomeExact n2 (((f_JL_reverseBytes n0.1).toUInt64 >>> ((64 - (8 * p1)).toInt64.toUInt64 &&& Int64.toUInt64 63)).toInt64)) := (if_neg c2).trans (rfl)
    rw [e9]
    exact sp_vret C hAe hP hK hD hS dX2_swap_50
def f_X2_cut (n0 : Nm) (n1 : Nm) (n2 : Nm) (p1 : Int32) : Nm × Nm :=
  if (f_X0_isAbove n0.2.2.2.1 (f_X2_greatestOf p1)) = 0 then (n1, (f_X1_become n2 n0))
  else ((f_X1_becomeExact n1 (f_X2_greatestOf p1)), (f_X2_and n0 (f_X1_becomeExact n1 (f_X2_greatestOf p1)) n2))
set_option maxHeartbeats 4000000 in
set_option maxRecDepth 100000 in
theorem c_X2_cut (l : Launch) (D : va_G) (h0 : Nat) (h1 : Nat) (h2 : Nat) (h3 : Nat) (n0 : Nm) (n1 : Nm) (n2 : Nm) (p1 : Int32) : sp_M l yX2_cut wsX2_cut ({ frames := 3, cells := 0, slots := 0, locals := 68 }) D [.ref h0, .int p1] ([(h0, .inr (2, [.ref h1, .ref h2, .ref h3])), (h1, .inr (1, nm_fs n0)), (h2, .inr (1, nm_fs n1)), (h3, .inr (1, nm_fs n2))]) [] (sp_Qv D ([(h0, .inr (2, [.ref h1, .ref h2, .ref h3])), (h1, .inr (1, nm_fs n0)), (h2, .inr (1, nm_fs n1)), (h3, .inr (1, nm_fs n2))]) ([(h0, .inr (2, [.ref h1, .ref h2, .ref h3])), (h1, .inr (1, nm_fs n0)), (h2, .inr (1, nm_fs ((f_X2_cut n0 n1 n2 p1).1))), (h3, .inr (1, nm_fs ((f_X2_cut n0 n1 n2 p1).2)))]) []) := by
  refine sp_ofW (cc := cX2_cut) (nL := 2) (ret := none) (own := RX2) (by decide) rfl rfl (Nat.le_of_ble_eq_true rfl) ?_
  intro p e s m below meth c A ls hAe hnm C hA hP hK hD hS hl
  have hx := C.1
  have hb := C.2.1
  have hown := C.2.2.2.2.1
  have hts := C.2.2.2.2.2.1
  have hl : lv_has ls 2 [(0, .ref h0), (1, .int p1)] := hl
  have hi1 : ∀ w ∈ u_ws RX1 TX1 6, w ∈ wsX2_cut := fun w h => List.mem_cons_of_mem _ (inX1 w h)
  have hi2 : ∀ w ∈ u_ws RX2 TX2 3, w ∈ wsX2_cut := fun w h => List.mem_cons_of_mem _ (inX2 w h)
  have hk0 := hts _ (List.mem_cons_of_mem _ wm_108)
  have hk1 := hts _ (List.mem_cons_of_mem _ wm_142)
  have hk2 := hts _ (List.mem_cons_of_mem _ wm_4)
  have hk3 := hts _ (List.mem_cons_of_mem _ wm_3)
  have hk4 := hts _ (List.mem_cons_of_mem _ wm_109)
  have hk5 := hts _ (List.mem_cons_of_mem _ wm_110)
  refine lv_aload_n hx hb dX2_cut_0 rfl (lv_at hl 0 rfl) ?_
  refine va_get (D := D) (ci := 2) (v := .ref h1) (C := RX2) (T := TX2) (N := 3) hx hb hts hi2 hown hK hP 0 rfl rfl 0 (by decide) hk0 (fun _ h9 => h9) rfl dX2_cut_1 ?_
  refine va_get (D := D) (ci := 1) (v := .long n0.2.2.2.1) (C := RX1) (T := TX1) (N := 6) hx hb hts hi1 hown hK hP 1 rfl rfl 3 (by decide) hk1 (fun _ h9 => h9) rfl dX2_cut_4 ?_
  refine lv_iload_n hx hb dX2_cut_7 rfl (lv_at hl 1 rfl) ?_
  refine sp_calll (sp_runS (As := [.int p1]) (rest := [.long n0.2.2.2.1]) C (c_X2_greatestOf l D p1) (va_cwS 1 hts (gS wG_c wm_193 wm_194 wm_122 wm_192) rfl rfl rfl (by decide +kernel) ⟨Nat.le_of_ble_eq_true rfl, Nat.le_of_ble_eq_true rfl⟩) hK hP hD [] (by decide) rfl [] rfl rfl hl.1 rfl (Nat.le_of_ble_eq_true rfl) dX2_cut_8 ⟨Nat.le_of_ble_eq_true rfl, Nat.le_of_ble_eq_true rfl⟩) hP hD hS hA [] rfl sp_f0 (fun H locs hP hD hS => ?_)
  have hP : va_P D vwCl ([(h0, .inr (2, [.ref h1, .ref h2, .ref h3])), (h1, .inr (1, nm_fs n0)), (h2, .inr (1, nm_fs n1)), (h3, .inr (1, nm_fs n2))]) H := hP
  have hD : va_D A ([(h0, .inr (2, [.ref h1, .ref h2, .ref h3])), (h1, .inr (1, nm_fs n0)), (h2, .inr (1, nm_fs n1)), (h3, .inr (1, nm_fs n2))]) := hD
  refine sp_callz (sp_runSN (As := [.long n0.2.2.2.1, .long (f_X2_greatestOf p1)]) (rest := []) C (c_X0_isAbove l D n0.2.2.2.1 (f_X2_greatestOf p1)) ⟨va_cnB 2 hts (gG wG_c wm_1) rfl rfl rfl (C.2.2.2.2.2.2.2.1 (RX2, 99, yX0_isAbove, "RangeDesk") (List.mem_of_getElem? (i := 5) rfl)) hk2 (by decide +kernel) ⟨Nat.le_of_ble_eq_true rfl, Nat.le_of_ble_eq_true rfl⟩, hk3, trivial⟩ hK hP hD [] (by decide) rfl [] rfl rfl hl.1 rfl (Nat.le_of_ble_eq_true rfl) dX2_cut_11 ⟨Nat.le_of_ble_eq_true rfl, Nat.le_of_ble_eq_true rfl⟩) hP hD hS hA [] rfl sp_f0 (fun H locs z1 hP hD hS => ?_)
  have hP : va_P D vwCl ([(h0, .inr (2, [.ref h1, .ref h2, .ref h3])), (h1, .inr (1, nm_fs n0)), (h2, .inr (1, nm_fs n1)), (h3, .inr (1, nm_fs n2))]) H := hP
  have hD : va_D A ([(h0, .inr (2, [.ref h1, .ref h2, .ref h3])), (h1, .inr (1, nm_fs n0)), (h2, .inr (1, nm_fs n1)), (h3, .inr (1, nm_fs n2))]) := hD
  refine lv_if_ne (tgt := 31) hx hb dX2_cut_14 (by decide) (fun c2 => ?_) (fun c2 => ?_)
  · refine lv_aload_n hx hb dX2_cut_31 rfl (lv_at hl 0 rfl) ?_
    refine va_get (D := D) (ci := 2) (v := .ref h2) (C := RX2) (T := TX2) (N := 3) hx hb hts hi2 hown hK hP 0 rfl rfl 1 (by decide) hk4 (fun _ h9 => h9) rfl dX2_cut_32 ?_
    refine lv_iload_n hx hb dX2_cut_35 rfl (lv_at hl 1 rfl) ?_
    refine sp_calll (sp_runS (As := [.int p1]) (rest := [.ref h2]) C (c_X2_greatestOf l D p1) (va_cwS 1 hts (gS wG_c wm_193 wm_194 wm_122 wm_192) rfl rfl rfl (by decide +kernel) ⟨Nat.le_of_ble_eq_true rfl, Nat.le_of_ble_eq_true rfl⟩) hK hP hD [] (by decide) rfl [] rfl rfl hl.1 rfl (Nat.le_of_ble_eq_true rfl) dX2_cut_36 ⟨Nat.le_of_ble_eq_true rfl, Nat.le_of_ble_eq_true rfl⟩) hP hD hS hA [] rfl sp_f0 (fun H locs hP hD hS => ?_)
    have hP : va_P D vwCl ([(h0, .inr (2, [.ref h1, .ref h2, .ref h3])), (h1, .inr (1, nm_fs n0)), (h2, .inr (1, nm_fs n1)), (h3, .inr (1, nm_fs n2))]) H := hP
    have hD : va_D A ([(h0, .inr (2, [.ref h1, .ref h2, .ref h3])), (h1, .inr (1, nm_fs n0)), (h2, .inr (1, nm_fs n1)), (h3, .inr (1, nm_fs n2))]) := hD
    refine sp_callv (sp_runV (As := [.long (f_X2_greatestOf p1)]) (rest := []) C (c_X1_becomeExact l D h2 n1 (f_X2_greatestOf p1)) (cwV 1 hts (gV wG_c wm_158 wm_159 wm_160 wm_31 wm_157) rfl rfl rfl (by decide +kernel) ⟨Nat.le_of_ble_eq_true rfl, Nat.le_of_ble_eq_true rfl⟩) hK hP hD [2] (by decide) rfl [] rfl 0 1 rfl rfl rfl rfl hl.1 rfl (Nat.le_of_ble_eq_true rfl) dX2_cut_39 ⟨Nat.le_of_ble_eq_true rfl, Nat.le_of_ble_eq_true rfl⟩) hP hD hS hA [2] rfl (sp_fc sp_f0) (fun H locs hP hD hS => ?_)
    have hP : va_P D vwCl ([(h0, .inr (2, [.ref h1, .ref h2, .ref h3])), (h1, .inr (1, nm_fs n0)), (h2, .inr (1, nm_fs (f_X1_becomeExact n1 (f_X2_greatestOf p1)))), (h3, .inr (1, nm_fs n2))]) H := hP
    have hD : va_D A ([(h0, .inr (2, [.ref h1, .ref h2, .ref h3])), (h1, .inr (1, nm_fs n0)), (h2, .inr (1, nm_fs (f_X1_becomeExact n1 (f_X2_greatestOf p1)))), (h3, .inr (1, nm_fs n2))]) := hD
    refine lv_aload_n hx hb dX2_cut_42 rfl (lv_at hl 0 rfl) ?_
    refine sp_callv (sp_runV (As := []) (rest := []) C (c_X2_and l D h0 h1 h2 h3 n0 (f_X1_becomeExact n1 (f_X2_greatestOf p1)) n2) (cwV 0 hts (gV wG_c wm_199 wm_200 wm_201 wm_122 wm_198) rfl rfl rfl (by decide +kernel) ⟨Nat.le_of_ble_eq_true rfl, Nat.le_of_ble_eq_true rfl⟩) hK hP hD [0, 1, 2, 3] (by decide) rfl [] rfl 0 2 rfl rfl rfl rfl hl.1 rfl (Nat.le_of_ble_eq_true rfl) dX2_cut_43 ⟨Nat.le_of_ble_eq_true rfl, Nat.le_of_ble_eq_true rfl⟩) hP hD hS hA [0, 1, 2, 3] rfl (sp_fc (sp_fc (sp_fc (sp_fc sp_f0)))) (fun H locs hP hD hS => ?_)
    have hP : va_P D vwCl ([(h0, .inr (2, [.ref h1, .ref h2, .ref h3])), (h1, .inr (1, nm_fs n0)), (h2, .inr (1, nm_fs (f_X1_becomeExact n1 (f_X2_greatestOf p1)))), (h3, .inr (1, nm_fs (f_X2_and n0 (f_X1_becomeExact n1 (f_X2_greatestOf p1)) n2)))]) H := hP
    have hD : va_D A ([(h0, .inr (2, [.ref h1, .ref h2, .ref h3])), (h1, .inr (1, nm_fs n0)), (h2, .inr (1, nm_fs (f_X1_becomeExact n1 (f_X2_greatestOf p1)))), (h3, .inr (1, nm_fs (f_X2_and n0 (f_X1_becomeExact n1 (f_X2_greatestOf p1)) n2)))]) := hD
    have e9 : f_X2_cut n0 n1 n2 p1 = ((f_X1_becomeExact n1 (f_X2_greatestOf p1)), (f_X2_and n0 (f_X1_becomeExact n1 (f_X2_greatestOf p1)) n2)) := (if_neg c2).trans (rfl)
    rw [e9]
    exact sp_vret C hAe hP hK hD hS dX2_cut_46
  · refine lv_aload_n hx hb dX2_cut_17 rfl (lv_at hl 0 rfl) ?_
    refine va_get (D := D) (ci := 2) (v := .ref h3) (C := RX2) (T := TX2) (N := 3) hx hb hts hi2 hown hK hP 0 rfl rfl 2 (by decide) hk5 (fun _ h9 => h9) rfl dX2_cut_18 ?_
    refine lv_aload_n hx hb dX2_cut_21 rfl (lv_at hl 0 rfl) ?_
    refine va_get (D := D) (ci := 2) (v := .ref h1) (C := RX2) (T := TX2) (N := 3) hx hb hts hi2 hown hK hP 0 rfl rfl 0 (by decide) hk0 (fun _ h9 => h9) rfl dX2_cut_22 ?_
    refine sp_callv (sp_runV (As := [.ref h1]) (rest := []) C (c_X1_become l D h3 h1 n2 n0) (cwV 1 hts (gV wG_c wm_166 wm_167 wm_168 wm_31 wm_165) rfl rfl rfl (by decide +kernel) ⟨Nat.le_of_ble_eq_true rfl, Nat.le_of_ble_eq_true rfl⟩) hK hP hD [3, 1] (by decide) rfl [] rfl 0 1 rfl rfl rfl rfl hl.1 rfl (Nat.le_of_ble_eq_true rfl) dX2_cut_25 ⟨Nat.le_of_ble_eq_true rfl, Nat.le_of_ble_eq_true rfl⟩) hP hD hS hA [3, 1] rfl (sp_fc (sp_fc sp_f0)) (fun H locs hP hD hS => ?_)
    have hP : va_P D vwCl ([(h0, .inr (2, [.ref h1, .ref h2, .ref h3])), (h1, .inr (1, nm_fs n0)), (h2, .inr (1, nm_fs n1)), (h3, .inr (1, nm_fs (f_X1_become n2 n0)))]) H := hP
    have hD : va_D A ([(h0, .inr (2, [.ref h1, .ref h2, .ref h3])), (h1, .inr (1, nm_fs n0)), (h2, .inr (1, nm_fs n1)), (h3, .inr (1, nm_fs (f_X1_become n2 n0)))]) := hD
    refine lv_goto (tgt := 46) hx hb dX2_cut_28 (by decide) ?_
    have e9 : f_X2_cut n0 n1 n2 p1 = (n1, (f_X1_become n2 n0)) := (if_pos c2).trans (rfl)
    rw [e9]
    exact sp_vret C hAe hP hK hD hS dX2_cut_46
