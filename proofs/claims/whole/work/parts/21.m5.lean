theorem dM_add_0 : decode cM_add 0 = .ok (.aload_n 0, 1) := by decide +kernel
theorem dM_add_1 : decode cM_add 1 = .ok (.getfield 13, 3) := by decide +kernel
theorem dM_add_4 : decode cM_add 4 = .ok (.bipush 16, 2) := by decide +kernel
theorem dM_add_6 : decode cM_add 6 = .ok (.laload, 1) := by decide +kernel
theorem dM_add_7 : decode cM_add 7 = .ok (.aload_n 0, 1) := by decide +kernel
theorem dM_add_8 : decode cM_add 8 = .ok (.getfield 13, 3) := by decide +kernel
theorem dM_add_11 : decode cM_add 11 = .ok (.bipush 17, 2) := by decide +kernel
theorem dM_add_13 : decode cM_add 13 = .ok (.laload, 1) := by decide +kernel
theorem dM_add_14 : decode cM_add 14 = .ok (.ladd, 1) := by decide +kernel
theorem dM_add_15 : decode cM_add 15 = .ok (.lstore_n 1, 1) := by decide +kernel
theorem dM_add_16 : decode cM_add 16 = .ok (.aload_n 0, 1) := by decide +kernel
theorem dM_add_17 : decode cM_add 17 = .ok (.getfield 9, 3) := by decide +kernel
theorem dM_add_20 : decode cM_add 20 = .ok (.bipush 16, 2) := by decide +kernel
theorem dM_add_22 : decode cM_add 22 = .ok (.laload, 1) := by decide +kernel
theorem dM_add_23 : decode cM_add 23 = .ok (.aload_n 0, 1) := by decide +kernel
theorem dM_add_24 : decode cM_add 24 = .ok (.getfield 9, 3) := by decide +kernel
theorem dM_add_27 : decode cM_add 27 = .ok (.bipush 17, 2) := by decide +kernel
theorem dM_add_29 : decode cM_add 29 = .ok (.laload, 1) := by decide +kernel
theorem dM_add_30 : decode cM_add 30 = .ok (.ladd, 1) := by decide +kernel
theorem dM_add_31 : decode cM_add 31 = .ok (.lstore_n 3, 1) := by decide +kernel
theorem dM_add_32 : decode cM_add 32 = .ok (.lload_n 1, 1) := by decide +kernel
theorem dM_add_33 : decode cM_add 33 = .ok (.lload_n 3, 1) := by decide +kernel
theorem dM_add_34 : decode cM_add 34 = .ok (.ladd, 1) := by decide +kernel
theorem dM_add_35 : decode cM_add 35 = .ok (.lload_n 3, 1) := by decide +kernel
theorem dM_add_36 : decode cM_add 36 = .ok (.lxor, 1) := by decide +kernel
theorem dM_add_37 : decode cM_add 37 = .ok (.aload_n 0, 1) := by decide +kernel
theorem dM_add_38 : decode cM_add 38 = .ok (.getfield 13, 3) := by decide +kernel
theorem dM_add_41 : decode cM_add 41 = .ok (.bipush 16, 2) := by decide +kernel
theorem dM_add_43 : decode cM_add 43 = .ok (.laload, 1) := by decide +kernel
theorem dM_add_44 : decode cM_add 44 = .ok (.lor, 1) := by decide +kernel
theorem dM_add_45 : decode cM_add 45 = .ok (.aload_n 0, 1) := by decide +kernel
theorem dM_add_46 : decode cM_add 46 = .ok (.getfield 13, 3) := by decide +kernel
theorem dM_add_49 : decode cM_add 49 = .ok (.bipush 17, 2) := by decide +kernel
theorem dM_add_51 : decode cM_add 51 = .ok (.laload, 1) := by decide +kernel
theorem dM_add_52 : decode cM_add 52 = .ok (.lor, 1) := by decide +kernel
theorem dM_add_53 : decode cM_add 53 = .ok (.lstore 5, 2) := by decide +kernel
theorem dM_add_55 : decode cM_add 55 = .ok (.aload_n 0, 1) := by decide +kernel
theorem dM_add_56 : decode cM_add 56 = .ok (.getfield 13, 3) := by decide +kernel
theorem dM_add_59 : decode cM_add 59 = .ok (.bipush 18, 2) := by decide +kernel
theorem dM_add_61 : decode cM_add 61 = .ok (.lload 5, 2) := by decide +kernel
theorem dM_add_63 : decode cM_add 63 = .ok (.lastore, 1) := by decide +kernel
theorem dM_add_64 : decode cM_add 64 = .ok (.aload_n 0, 1) := by decide +kernel
theorem dM_add_65 : decode cM_add 65 = .ok (.getfield 9, 3) := by decide +kernel
theorem dM_add_68 : decode cM_add 68 = .ok (.bipush 18, 2) := by decide +kernel
theorem dM_add_70 : decode cM_add 70 = .ok (.lload_n 3, 1) := by decide +kernel
theorem dM_add_71 : decode cM_add 71 = .ok (.lload 5, 2) := by decide +kernel
theorem dM_add_73 : decode cM_add 73 = .ok (.ldc2_w 38, 3) := by decide +kernel
theorem dM_add_76 : decode cM_add 76 = .ok (.lxor, 1) := by decide +kernel
theorem dM_add_77 : decode cM_add 77 = .ok (.land, 1) := by decide +kernel
theorem dM_add_78 : decode cM_add 78 = .ok (.lastore, 1) := by decide +kernel
theorem dM_add_79 : decode cM_add 79 = .ok (.aload_n 0, 1) := by decide +kernel
theorem dM_add_80 : decode cM_add 80 = .ok (.getfield 19, 3) := by decide +kernel
theorem dM_add_83 : decode cM_add 83 = .ok (.bipush 16, 2) := by decide +kernel
theorem dM_add_85 : decode cM_add 85 = .ok (.laload, 1) := by decide +kernel
theorem dM_add_86 : decode cM_add 86 = .ok (.aload_n 0, 1) := by decide +kernel
theorem dM_add_87 : decode cM_add 87 = .ok (.getfield 19, 3) := by decide +kernel
theorem dM_add_90 : decode cM_add 90 = .ok (.bipush 17, 2) := by decide +kernel
theorem dM_add_92 : decode cM_add 92 = .ok (.laload, 1) := by decide +kernel
theorem dM_add_93 : decode cM_add 93 = .ok (.ladd, 1) := by decide +kernel
theorem dM_add_94 : decode cM_add 94 = .ok (.lstore 7, 2) := by decide +kernel
theorem dM_add_96 : decode cM_add 96 = .ok (.lload 7, 2) := by decide +kernel
theorem dM_add_98 : decode cM_add 98 = .ok (.aload_n 0, 1) := by decide +kernel
theorem dM_add_99 : decode cM_add 99 = .ok (.getfield 19, 3) := by decide +kernel
theorem dM_add_102 : decode cM_add 102 = .ok (.bipush 16, 2) := by decide +kernel
theorem dM_add_104 : decode cM_add 104 = .ok (.laload, 1) := by decide +kernel
theorem dM_add_105 : decode cM_add 105 = .ok (.invokestatic 34, 3) := by decide +kernel
theorem dM_add_108 : decode cM_add 108 = .ok (.ifCond .ne 34, 3) := by decide +kernel
theorem dM_add_111 : decode cM_add 111 = .ok (.aload_n 0, 1) := by decide +kernel
theorem dM_add_112 : decode cM_add 112 = .ok (.getfield 16, 3) := by decide +kernel
theorem dM_add_115 : decode cM_add 115 = .ok (.bipush 18, 2) := by decide +kernel
theorem dM_add_117 : decode cM_add 117 = .ok (.aload_n 0, 1) := by decide +kernel
theorem dM_add_118 : decode cM_add 118 = .ok (.getfield 16, 3) := by decide +kernel
theorem dM_add_121 : decode cM_add 121 = .ok (.bipush 16, 2) := by decide +kernel
theorem dM_add_123 : decode cM_add 123 = .ok (.laload, 1) := by decide +kernel
theorem dM_add_124 : decode cM_add 124 = .ok (.aload_n 0, 1) := by decide +kernel
theorem dM_add_125 : decode cM_add 125 = .ok (.getfield 16, 3) := by decide +kernel
theorem dM_add_128 : decode cM_add 128 = .ok (.bipush 17, 2) := by decide +kernel
theorem dM_add_130 : decode cM_add 130 = .ok (.laload, 1) := by decide +kernel
theorem dM_add_131 : decode cM_add 131 = .ok (.ladd, 1) := by decide +kernel
theorem dM_add_132 : decode cM_add 132 = .ok (.lastore, 1) := by decide +kernel
theorem dM_add_133 : decode cM_add 133 = .ok (.aload_n 0, 1) := by decide +kernel
theorem dM_add_134 : decode cM_add 134 = .ok (.getfield 19, 3) := by decide +kernel
theorem dM_add_137 : decode cM_add 137 = .ok (.bipush 18, 2) := by decide +kernel
theorem dM_add_139 : decode cM_add 139 = .ok (.lload 7, 2) := by decide +kernel
theorem dM_add_141 : decode cM_add 141 = .ok (.lastore, 1) := by decide +kernel
theorem dM_add_142 : decode cM_add 142 = .ok (.aload_n 0, 1) := by decide +kernel
theorem dM_add_143 : decode cM_add 143 = .ok (.getfield 22, 3) := by decide +kernel
theorem dM_add_146 : decode cM_add 146 = .ok (.bipush 16, 2) := by decide +kernel
theorem dM_add_148 : decode cM_add 148 = .ok (.laload, 1) := by decide +kernel
theorem dM_add_149 : decode cM_add 149 = .ok (.aload_n 0, 1) := by decide +kernel
theorem dM_add_150 : decode cM_add 150 = .ok (.getfield 22, 3) := by decide +kernel
theorem dM_add_153 : decode cM_add 153 = .ok (.bipush 17, 2) := by decide +kernel
theorem dM_add_155 : decode cM_add 155 = .ok (.laload, 1) := by decide +kernel
theorem dM_add_156 : decode cM_add 156 = .ok (.ladd, 1) := by decide +kernel
theorem dM_add_157 : decode cM_add 157 = .ok (.lstore 9, 2) := by decide +kernel
theorem dM_add_159 : decode cM_add 159 = .ok (.aload_n 0, 1) := by decide +kernel
theorem dM_add_160 : decode cM_add 160 = .ok (.getfield 25, 3) := by decide +kernel
theorem dM_add_163 : decode cM_add 163 = .ok (.bipush 16, 2) := by decide +kernel
theorem dM_add_165 : decode cM_add 165 = .ok (.laload, 1) := by decide +kernel
theorem dM_add_166 : decode cM_add 166 = .ok (.aload_n 0, 1) := by decide +kernel
theorem dM_add_167 : decode cM_add 167 = .ok (.getfield 25, 3) := by decide +kernel
theorem dM_add_170 : decode cM_add 170 = .ok (.bipush 17, 2) := by decide +kernel
theorem dM_add_172 : decode cM_add 172 = .ok (.laload, 1) := by decide +kernel
theorem dM_add_173 : decode cM_add 173 = .ok (.ladd, 1) := by decide +kernel
theorem dM_add_174 : decode cM_add 174 = .ok (.lstore 11, 2) := by decide +kernel
theorem dM_add_176 : decode cM_add 176 = .ok (.aload_n 0, 1) := by decide +kernel
theorem dM_add_177 : decode cM_add 177 = .ok (.getfield 22, 3) := by decide +kernel
theorem dM_add_180 : decode cM_add 180 = .ok (.bipush 16, 2) := by decide +kernel
theorem dM_add_182 : decode cM_add 182 = .ok (.laload, 1) := by decide +kernel
theorem dM_add_183 : decode cM_add 183 = .ok (.lload 9, 2) := by decide +kernel
theorem dM_add_185 : decode cM_add 185 = .ok (.lxor, 1) := by decide +kernel
theorem dM_add_186 : decode cM_add 186 = .ok (.aload_n 0, 1) := by decide +kernel
theorem dM_add_187 : decode cM_add 187 = .ok (.getfield 22, 3) := by decide +kernel
theorem dM_add_190 : decode cM_add 190 = .ok (.bipush 17, 2) := by decide +kernel
theorem dM_add_192 : decode cM_add 192 = .ok (.laload, 1) := by decide +kernel
theorem dM_add_193 : decode cM_add 193 = .ok (.lload 9, 2) := by decide +kernel
theorem dM_add_195 : decode cM_add 195 = .ok (.lxor, 1) := by decide +kernel
theorem dM_add_196 : decode cM_add 196 = .ok (.land, 1) := by decide +kernel
theorem dM_add_197 : decode cM_add 197 = .ok (.lconst 0, 1) := by decide +kernel
theorem dM_add_198 : decode cM_add 198 = .ok (.lcmp, 1) := by decide +kernel
theorem dM_add_199 : decode cM_add 199 = .ok (.ifCond .lt 29, 3) := by decide +kernel
theorem dM_add_202 : decode cM_add 202 = .ok (.aload_n 0, 1) := by decide +kernel
theorem dM_add_203 : decode cM_add 203 = .ok (.getfield 25, 3) := by decide +kernel
theorem dM_add_206 : decode cM_add 206 = .ok (.bipush 16, 2) := by decide +kernel
theorem dM_add_208 : decode cM_add 208 = .ok (.laload, 1) := by decide +kernel
theorem dM_add_209 : decode cM_add 209 = .ok (.lload 11, 2) := by decide +kernel
theorem dM_add_211 : decode cM_add 211 = .ok (.lxor, 1) := by decide +kernel
theorem dM_add_212 : decode cM_add 212 = .ok (.aload_n 0, 1) := by decide +kernel
theorem dM_add_213 : decode cM_add 213 = .ok (.getfield 25, 3) := by decide +kernel
theorem dM_add_216 : decode cM_add 216 = .ok (.bipush 17, 2) := by decide +kernel
theorem dM_add_218 : decode cM_add 218 = .ok (.laload, 1) := by decide +kernel
theorem dM_add_219 : decode cM_add 219 = .ok (.lload 11, 2) := by decide +kernel
theorem dM_add_221 : decode cM_add 221 = .ok (.lxor, 1) := by decide +kernel
theorem dM_add_222 : decode cM_add 222 = .ok (.land, 1) := by decide +kernel
theorem dM_add_223 : decode cM_add 223 = .ok (.lconst 0, 1) := by decide +kernel
theorem dM_add_224 : decode cM_add 224 = .ok (.lcmp, 1) := by decide +kernel
theorem dM_add_225 : decode cM_add 225 = .ok (.ifCond .ge 7, 3) := by decide +kernel
theorem dM_add_228 : decode cM_add 228 = .ok (.iconst 1, 1) := by decide +kernel
theorem dM_add_229 : decode cM_add 229 = .ok (.goto 4, 3) := by decide +kernel
theorem dM_add_232 : decode cM_add 232 = .ok (.iconst 0, 1) := by decide +kernel
theorem dM_add_233 : decode cM_add 233 = .ok (.istore 13, 2) := by decide +kernel
theorem dM_add_235 : decode cM_add 235 = .ok (.iload 13, 2) := by decide +kernel
theorem dM_add_237 : decode cM_add 237 = .ok (.ifCond .ne 21, 3) := by decide +kernel
theorem dM_add_240 : decode cM_add 240 = .ok (.aload_n 0, 1) := by decide +kernel
theorem dM_add_241 : decode cM_add 241 = .ok (.getfield 22, 3) := by decide +kernel
theorem dM_add_244 : decode cM_add 244 = .ok (.bipush 18, 2) := by decide +kernel
theorem dM_add_246 : decode cM_add 246 = .ok (.lload 9, 2) := by decide +kernel
theorem dM_add_248 : decode cM_add 248 = .ok (.lastore, 1) := by decide +kernel
theorem dM_add_249 : decode cM_add 249 = .ok (.aload_n 0, 1) := by decide +kernel
theorem dM_add_250 : decode cM_add 250 = .ok (.getfield 25, 3) := by decide +kernel
theorem dM_add_253 : decode cM_add 253 = .ok (.bipush 18, 2) := by decide +kernel
theorem dM_add_255 : decode cM_add 255 = .ok (.lload 11, 2) := by decide +kernel
theorem dM_add_257 : decode cM_add 257 = .ok (.lastore, 1) := by decide +kernel
theorem dM_add_258 : decode cM_add 258 = .ok (.return_, 1) := by decide +kernel
theorem dM_subtract_0 : decode cM_subtract 0 = .ok (.aload_n 0, 1) := by decide +kernel
theorem dM_subtract_1 : decode cM_subtract 1 = .ok (.getfield 9, 3) := by decide +kernel
theorem dM_subtract_4 : decode cM_subtract 4 = .ok (.bipush 16, 2) := by decide +kernel
theorem dM_subtract_6 : decode cM_subtract 6 = .ok (.laload, 1) := by decide +kernel
theorem dM_subtract_7 : decode cM_subtract 7 = .ok (.aload_n 0, 1) := by decide +kernel
theorem dM_subtract_8 : decode cM_subtract 8 = .ok (.getfield 9, 3) := by decide +kernel
theorem dM_subtract_11 : decode cM_subtract 11 = .ok (.bipush 17, 2) := by decide +kernel
theorem dM_subtract_13 : decode cM_subtract 13 = .ok (.laload, 1) := by decide +kernel
theorem dM_subtract_14 : decode cM_subtract 14 = .ok (.lsub, 1) := by decide +kernel
theorem dM_subtract_15 : decode cM_subtract 15 = .ok (.lstore_n 1, 1) := by decide +kernel
theorem dM_subtract_16 : decode cM_subtract 16 = .ok (.lload_n 1, 1) := by decide +kernel
theorem dM_subtract_17 : decode cM_subtract 17 = .ok (.aload_n 0, 1) := by decide +kernel
theorem dM_subtract_18 : decode cM_subtract 18 = .ok (.getfield 13, 3) := by decide +kernel
theorem dM_subtract_21 : decode cM_subtract 21 = .ok (.bipush 16, 2) := by decide +kernel
theorem dM_subtract_23 : decode cM_subtract 23 = .ok (.laload, 1) := by decide +kernel
theorem dM_subtract_24 : decode cM_subtract 24 = .ok (.ladd, 1) := by decide +kernel
theorem dM_subtract_25 : decode cM_subtract 25 = .ok (.lload_n 1, 1) := by decide +kernel
theorem dM_subtract_26 : decode cM_subtract 26 = .ok (.aload_n 0, 1) := by decide +kernel
theorem dM_subtract_27 : decode cM_subtract 27 = .ok (.getfield 13, 3) := by decide +kernel
theorem dM_subtract_30 : decode cM_subtract 30 = .ok (.bipush 17, 2) := by decide +kernel
theorem dM_subtract_32 : decode cM_subtract 32 = .ok (.laload, 1) := by decide +kernel
theorem dM_subtract_33 : decode cM_subtract 33 = .ok (.lsub, 1) := by decide +kernel
theorem dM_subtract_34 : decode cM_subtract 34 = .ok (.lxor, 1) := by decide +kernel
theorem dM_subtract_35 : decode cM_subtract 35 = .ok (.aload_n 0, 1) := by decide +kernel
theorem dM_subtract_36 : decode cM_subtract 36 = .ok (.getfield 13, 3) := by decide +kernel
theorem dM_subtract_39 : decode cM_subtract 39 = .ok (.bipush 16, 2) := by decide +kernel
theorem dM_subtract_41 : decode cM_subtract 41 = .ok (.laload, 1) := by decide +kernel
theorem dM_subtract_42 : decode cM_subtract 42 = .ok (.lor, 1) := by decide +kernel
theorem dM_subtract_43 : decode cM_subtract 43 = .ok (.aload_n 0, 1) := by decide +kernel
theorem dM_subtract_44 : decode cM_subtract 44 = .ok (.getfield 13, 3) := by decide +kernel
theorem dM_subtract_47 : decode cM_subtract 47 = .ok (.bipush 17, 2) := by decide +kernel
theorem dM_subtract_49 : decode cM_subtract 49 = .ok (.laload, 1) := by decide +kernel
theorem dM_subtract_50 : decode cM_subtract 50 = .ok (.lor, 1) := by decide +kernel
theorem dM_subtract_51 : decode cM_subtract 51 = .ok (.lstore_n 3, 1) := by decide +kernel
theorem dM_subtract_52 : decode cM_subtract 52 = .ok (.aload_n 0, 1) := by decide +kernel
theorem dM_subtract_53 : decode cM_subtract 53 = .ok (.getfield 13, 3) := by decide +kernel
theorem dM_subtract_56 : decode cM_subtract 56 = .ok (.bipush 18, 2) := by decide +kernel
theorem dM_subtract_58 : decode cM_subtract 58 = .ok (.lload_n 3, 1) := by decide +kernel
theorem dM_subtract_59 : decode cM_subtract 59 = .ok (.lastore, 1) := by decide +kernel
theorem dM_subtract_60 : decode cM_subtract 60 = .ok (.aload_n 0, 1) := by decide +kernel
theorem dM_subtract_61 : decode cM_subtract 61 = .ok (.getfield 9, 3) := by decide +kernel
theorem dM_subtract_64 : decode cM_subtract 64 = .ok (.bipush 18, 2) := by decide +kernel
theorem dM_subtract_66 : decode cM_subtract 66 = .ok (.lload_n 1, 1) := by decide +kernel
theorem dM_subtract_67 : decode cM_subtract 67 = .ok (.lload_n 3, 1) := by decide +kernel
theorem dM_subtract_68 : decode cM_subtract 68 = .ok (.ldc2_w 38, 3) := by decide +kernel
theorem dM_subtract_71 : decode cM_subtract 71 = .ok (.lxor, 1) := by decide +kernel
theorem dM_subtract_72 : decode cM_subtract 72 = .ok (.land, 1) := by decide +kernel
theorem dM_subtract_73 : decode cM_subtract 73 = .ok (.lastore, 1) := by decide +kernel
theorem dM_subtract_74 : decode cM_subtract 74 = .ok (.aload_n 0, 1) := by decide +kernel
theorem dM_subtract_75 : decode cM_subtract 75 = .ok (.getfield 16, 3) := by decide +kernel
theorem dM_subtract_78 : decode cM_subtract 78 = .ok (.bipush 16, 2) := by decide +kernel
theorem dM_subtract_80 : decode cM_subtract 80 = .ok (.laload, 1) := by decide +kernel
theorem dM_subtract_81 : decode cM_subtract 81 = .ok (.aload_n 0, 1) := by decide +kernel
theorem dM_subtract_82 : decode cM_subtract 82 = .ok (.getfield 19, 3) := by decide +kernel
theorem dM_subtract_85 : decode cM_subtract 85 = .ok (.bipush 17, 2) := by decide +kernel
theorem dM_subtract_87 : decode cM_subtract 87 = .ok (.laload, 1) := by decide +kernel
theorem dM_subtract_88 : decode cM_subtract 88 = .ok (.invokestatic 34, 3) := by decide +kernel
theorem dM_subtract_91 : decode cM_subtract 91 = .ok (.ifCond .ne 47, 3) := by decide +kernel
theorem dM_subtract_94 : decode cM_subtract 94 = .ok (.aload_n 0, 1) := by decide +kernel
theorem dM_subtract_95 : decode cM_subtract 95 = .ok (.getfield 16, 3) := by decide +kernel
theorem dM_subtract_98 : decode cM_subtract 98 = .ok (.bipush 18, 2) := by decide +kernel
theorem dM_subtract_100 : decode cM_subtract 100 = .ok (.aload_n 0, 1) := by decide +kernel
theorem dM_subtract_101 : decode cM_subtract 101 = .ok (.getfield 16, 3) := by decide +kernel
theorem dM_subtract_104 : decode cM_subtract 104 = .ok (.bipush 16, 2) := by decide +kernel
theorem dM_subtract_106 : decode cM_subtract 106 = .ok (.laload, 1) := by decide +kernel
theorem dM_subtract_107 : decode cM_subtract 107 = .ok (.aload_n 0, 1) := by decide +kernel
theorem dM_subtract_108 : decode cM_subtract 108 = .ok (.getfield 19, 3) := by decide +kernel
theorem dM_subtract_111 : decode cM_subtract 111 = .ok (.bipush 17, 2) := by decide +kernel
theorem dM_subtract_113 : decode cM_subtract 113 = .ok (.laload, 1) := by decide +kernel
theorem dM_subtract_114 : decode cM_subtract 114 = .ok (.lsub, 1) := by decide +kernel
theorem dM_subtract_115 : decode cM_subtract 115 = .ok (.lastore, 1) := by decide +kernel
theorem dM_subtract_116 : decode cM_subtract 116 = .ok (.aload_n 0, 1) := by decide +kernel
theorem dM_subtract_117 : decode cM_subtract 117 = .ok (.getfield 19, 3) := by decide +kernel
theorem dM_subtract_120 : decode cM_subtract 120 = .ok (.bipush 18, 2) := by decide +kernel
theorem dM_subtract_122 : decode cM_subtract 122 = .ok (.aload_n 0, 1) := by decide +kernel
theorem dM_subtract_123 : decode cM_subtract 123 = .ok (.getfield 19, 3) := by decide +kernel
theorem dM_subtract_126 : decode cM_subtract 126 = .ok (.bipush 16, 2) := by decide +kernel
theorem dM_subtract_128 : decode cM_subtract 128 = .ok (.laload, 1) := by decide +kernel
theorem dM_subtract_129 : decode cM_subtract 129 = .ok (.aload_n 0, 1) := by decide +kernel
theorem dM_subtract_130 : decode cM_subtract 130 = .ok (.getfield 16, 3) := by decide +kernel
theorem dM_subtract_133 : decode cM_subtract 133 = .ok (.bipush 17, 2) := by decide +kernel
theorem dM_subtract_135 : decode cM_subtract 135 = .ok (.laload, 1) := by decide +kernel
theorem dM_subtract_136 : decode cM_subtract 136 = .ok (.lsub, 1) := by decide +kernel
theorem dM_subtract_137 : decode cM_subtract 137 = .ok (.lastore, 1) := by decide +kernel
theorem dM_subtract_138 : decode cM_subtract 138 = .ok (.aload_n 0, 1) := by decide +kernel
theorem dM_subtract_139 : decode cM_subtract 139 = .ok (.getfield 22, 3) := by decide +kernel
theorem dM_subtract_142 : decode cM_subtract 142 = .ok (.bipush 16, 2) := by decide +kernel
theorem dM_subtract_144 : decode cM_subtract 144 = .ok (.laload, 1) := by decide +kernel
theorem dM_subtract_145 : decode cM_subtract 145 = .ok (.aload_n 0, 1) := by decide +kernel
theorem dM_subtract_146 : decode cM_subtract 146 = .ok (.getfield 25, 3) := by decide +kernel
theorem dM_subtract_149 : decode cM_subtract 149 = .ok (.bipush 17, 2) := by decide +kernel
theorem dM_subtract_151 : decode cM_subtract 151 = .ok (.laload, 1) := by decide +kernel
theorem dM_subtract_152 : decode cM_subtract 152 = .ok (.lsub, 1) := by decide +kernel
theorem dM_subtract_153 : decode cM_subtract 153 = .ok (.lstore 5, 2) := by decide +kernel
theorem dM_subtract_155 : decode cM_subtract 155 = .ok (.aload_n 0, 1) := by decide +kernel
theorem dM_subtract_156 : decode cM_subtract 156 = .ok (.getfield 25, 3) := by decide +kernel
theorem dM_subtract_159 : decode cM_subtract 159 = .ok (.bipush 16, 2) := by decide +kernel
theorem dM_subtract_161 : decode cM_subtract 161 = .ok (.laload, 1) := by decide +kernel
theorem dM_subtract_162 : decode cM_subtract 162 = .ok (.aload_n 0, 1) := by decide +kernel
theorem dM_subtract_163 : decode cM_subtract 163 = .ok (.getfield 22, 3) := by decide +kernel
theorem dM_subtract_166 : decode cM_subtract 166 = .ok (.bipush 17, 2) := by decide +kernel
theorem dM_subtract_168 : decode cM_subtract 168 = .ok (.laload, 1) := by decide +kernel
theorem dM_subtract_169 : decode cM_subtract 169 = .ok (.lsub, 1) := by decide +kernel
theorem dM_subtract_170 : decode cM_subtract 170 = .ok (.lstore 7, 2) := by decide +kernel
theorem dM_subtract_172 : decode cM_subtract 172 = .ok (.aload_n 0, 1) := by decide +kernel
theorem dM_subtract_173 : decode cM_subtract 173 = .ok (.getfield 22, 3) := by decide +kernel
theorem dM_subtract_176 : decode cM_subtract 176 = .ok (.bipush 16, 2) := by decide +kernel
theorem dM_subtract_178 : decode cM_subtract 178 = .ok (.laload, 1) := by decide +kernel
theorem dM_subtract_179 : decode cM_subtract 179 = .ok (.aload_n 0, 1) := by decide +kernel
theorem dM_subtract_180 : decode cM_subtract 180 = .ok (.getfield 25, 3) := by decide +kernel
theorem dM_subtract_183 : decode cM_subtract 183 = .ok (.bipush 17, 2) := by decide +kernel
theorem dM_subtract_185 : decode cM_subtract 185 = .ok (.laload, 1) := by decide +kernel
theorem dM_subtract_186 : decode cM_subtract 186 = .ok (.lxor, 1) := by decide +kernel
theorem dM_subtract_187 : decode cM_subtract 187 = .ok (.aload_n 0, 1) := by decide +kernel
theorem dM_subtract_188 : decode cM_subtract 188 = .ok (.getfield 22, 3) := by decide +kernel
theorem dM_subtract_191 : decode cM_subtract 191 = .ok (.bipush 16, 2) := by decide +kernel
theorem dM_subtract_193 : decode cM_subtract 193 = .ok (.laload, 1) := by decide +kernel
theorem dM_subtract_194 : decode cM_subtract 194 = .ok (.lload 5, 2) := by decide +kernel
theorem dM_subtract_196 : decode cM_subtract 196 = .ok (.lxor, 1) := by decide +kernel
theorem dM_subtract_197 : decode cM_subtract 197 = .ok (.land, 1) := by decide +kernel
theorem dM_subtract_198 : decode cM_subtract 198 = .ok (.lconst 0, 1) := by decide +kernel
theorem dM_subtract_199 : decode cM_subtract 199 = .ok (.lcmp, 1) := by decide +kernel
theorem dM_subtract_200 : decode cM_subtract 200 = .ok (.ifCond .lt 34, 3) := by decide +kernel
theorem dM_subtract_203 : decode cM_subtract 203 = .ok (.aload_n 0, 1) := by decide +kernel
theorem dM_subtract_204 : decode cM_subtract 204 = .ok (.getfield 25, 3) := by decide +kernel
theorem dM_subtract_207 : decode cM_subtract 207 = .ok (.bipush 16, 2) := by decide +kernel
theorem dM_subtract_209 : decode cM_subtract 209 = .ok (.laload, 1) := by decide +kernel
theorem dM_subtract_210 : decode cM_subtract 210 = .ok (.aload_n 0, 1) := by decide +kernel
theorem dM_subtract_211 : decode cM_subtract 211 = .ok (.getfield 22, 3) := by decide +kernel
theorem dM_subtract_214 : decode cM_subtract 214 = .ok (.bipush 17, 2) := by decide +kernel
theorem dM_subtract_216 : decode cM_subtract 216 = .ok (.laload, 1) := by decide +kernel
theorem dM_subtract_217 : decode cM_subtract 217 = .ok (.lxor, 1) := by decide +kernel
theorem dM_subtract_218 : decode cM_subtract 218 = .ok (.aload_n 0, 1) := by decide +kernel
theorem dM_subtract_219 : decode cM_subtract 219 = .ok (.getfield 25, 3) := by decide +kernel
theorem dM_subtract_222 : decode cM_subtract 222 = .ok (.bipush 16, 2) := by decide +kernel
theorem dM_subtract_224 : decode cM_subtract 224 = .ok (.laload, 1) := by decide +kernel
theorem dM_subtract_225 : decode cM_subtract 225 = .ok (.lload 7, 2) := by decide +kernel
theorem dM_subtract_227 : decode cM_subtract 227 = .ok (.lxor, 1) := by decide +kernel
theorem dM_subtract_228 : decode cM_subtract 228 = .ok (.land, 1) := by decide +kernel
theorem dM_subtract_229 : decode cM_subtract 229 = .ok (.lconst 0, 1) := by decide +kernel
theorem dM_subtract_230 : decode cM_subtract 230 = .ok (.lcmp, 1) := by decide +kernel
theorem dM_subtract_231 : decode cM_subtract 231 = .ok (.ifCond .ge 7, 3) := by decide +kernel
theorem dM_subtract_234 : decode cM_subtract 234 = .ok (.iconst 1, 1) := by decide +kernel
theorem dM_subtract_235 : decode cM_subtract 235 = .ok (.goto 4, 3) := by decide +kernel
theorem dM_subtract_238 : decode cM_subtract 238 = .ok (.iconst 0, 1) := by decide +kernel
theorem dM_subtract_239 : decode cM_subtract 239 = .ok (.istore 9, 2) := by decide +kernel
theorem dM_subtract_241 : decode cM_subtract 241 = .ok (.iload 9, 2) := by decide +kernel
theorem dM_subtract_243 : decode cM_subtract 243 = .ok (.ifCond .ne 21, 3) := by decide +kernel
theorem dM_subtract_246 : decode cM_subtract 246 = .ok (.aload_n 0, 1) := by decide +kernel
theorem dM_subtract_247 : decode cM_subtract 247 = .ok (.getfield 22, 3) := by decide +kernel
theorem dM_subtract_250 : decode cM_subtract 250 = .ok (.bipush 18, 2) := by decide +kernel
theorem dM_subtract_252 : decode cM_subtract 252 = .ok (.lload 5, 2) := by decide +kernel
theorem dM_subtract_254 : decode cM_subtract 254 = .ok (.lastore, 1) := by decide +kernel
theorem dM_subtract_255 : decode cM_subtract 255 = .ok (.aload_n 0, 1) := by decide +kernel
theorem dM_subtract_256 : decode cM_subtract 256 = .ok (.getfield 25, 3) := by decide +kernel
theorem dM_subtract_259 : decode cM_subtract 259 = .ok (.bipush 18, 2) := by decide +kernel
theorem dM_subtract_261 : decode cM_subtract 261 = .ok (.lload 7, 2) := by decide +kernel
theorem dM_subtract_263 : decode cM_subtract 263 = .ok (.lastore, 1) := by decide +kernel
theorem dM_subtract_264 : decode cM_subtract 264 = .ok (.return_, 1) := by decide +kernel
def f_M_add (st : Md) : Md :=
  if (f_M_below ((st.2.2.2.1 (16 : Int32).toNatClampNeg) + (st.2.2.2.1 (17 : Int32).toNatClampNeg)) (st.2.2.2.1 (16 : Int32).toNatClampNeg)) = 0 then (if (lg_cmp (((st.2.2.2.2.1 (16 : Int32).toNatClampNeg) ^^^ ((st.2.2.2.2.1 (16 : Int32).toNatClampNeg) + (st.2.2.2.2.1 (17 : Int32).toNatClampNeg))) &&& ((st.2.2.2.2.1 (17 : Int32).toNatClampNeg) ^^^ ((st.2.2.2.2.1 (16 : Int32).toNatClampNeg) + (st.2.2.2.2.1 (17 : Int32).toNatClampNeg)))) 0) < 0 then (vp_updL st.1 (18 : Int32).toNatClampNeg (((st.1 (16 : Int32).toNatClampNeg) + (st.1 (17 : Int32).toNatClampNeg)) &&& (((((((st.2.1 (16 : Int32).toNatClampNeg) + (st.2.1 (17 : Int32).toNatClampNeg)) + ((st.1 (16 : Int32).toNatClampNeg) + (st.1 (17 : Int32).toNatClampNeg))) ^^^ ((st.1 (16 : Int32).toNatClampNeg) + (st.1 (17 : Int32).toNatClampNeg))) ||| (st.2.1 (16 : Int32).toNatClampNeg)) ||| (st.2.1 (17 : Int32).toNatClampNeg)) ^^^ (-1))), vp_updL st.2.1 (18 : Int32).toNatClampNeg ((((((st.2.1 (16 : Int32).toNatClampNeg) + (st.2.1 (17 : Int32).toNatClampNeg)) + ((st.1 (16 : Int32).toNatClampNeg) + (st.1 (17 : Int32).toNatClampNeg))) ^^^ ((st.1 (16 : Int32).toNatClampNeg) + (st.1 (17 : Int32).toNatClampNeg))) ||| (st.2.1 (16 : Int32).toNatClampNeg)) ||| (st.2.1 (17 : Int32).toNatClampNeg)), vp_updL st.2.2.1 (18 : Int32).toNatClampNeg ((st.2.2.1 (16 : Int32).toNatClampNeg) + (st.2.2.1 (17 : Int32).toNatClampNeg)), vp_updL st.2.2.2.1 (18 : Int32).toNatClampNeg ((st.2.2.2.1 (16 : Int32).toNatClampNeg) + (st.2.2.2.1 (17 : Int32).toNatClampNeg)), st.2.2.2.2.1, st.2.2.2.2.2)
    else if 0 ≤ (lg_cmp (((st.2.2.2.2.2 (16 : Int32).toNatClampNeg) ^^^ ((st.2.2.2.2.2 (16 : Int32).toNatClampNeg) + (st.2.2.2.2.2 (17 : Int32).toNatClampNeg))) &&& ((st.2.2.2.2.2 (17 : Int32).toNatClampNeg) ^^^ ((st.2.2.2.2.2 (16 : Int32).toNatClampNeg) + (st.2.2.2.2.2 (17 : Int32).toNatClampNeg)))) 0) then (vp_updL st.1 (18 : Int32).toNatClampNeg (((st.1 (16 : Int32).toNatClampNeg) + (st.1 (17 : Int32).toNatClampNeg)) &&& (((((((st.2.1 (16 : Int32).toNatClampNeg) + (st.2.1 (17 : Int32).toNatClampNeg)) + ((st.1 (16 : Int32).toNatClampNeg) + (st.1 (17 : Int32).toNatClampNeg))) ^^^ ((st.1 (16 : Int32).toNatClampNeg) + (st.1 (17 : Int32).toNatClampNeg))) ||| (st.2.1 (16 : Int32).toNatClampNeg)) ||| (st.2.1 (17 : Int32).toNatClampNeg)) ^^^ (-1))), vp_updL st.2.1 (18 : Int32).toNatClampNeg ((((((st.2.1 (16 : Int32).toNatClampNeg) + (st.2.1 (17 : Int32).toNatClampNeg)) + ((st.1 (16 : Int32).toNatClampNeg) + (st.1 (17 : Int32).toNatClampNeg))) ^^^ ((st.1 (16 : Int32).toNatClampNeg) + (st.1 (17 : Int32).toNatClampNeg))) ||| (st.2.1 (16 : Int32).toNatClampNeg)) ||| (st.2.1 (17 : Int32).toNatClampNeg)), vp_updL st.2.2.1 (18 : Int32).toNatClampNeg ((st.2.2.1 (16 : Int32).toNatClampNeg) + (st.2.2.1 (17 : Int32).toNatClampNeg)), vp_updL st.2.2.2.1 (18 : Int32).toNatClampNeg ((st.2.2.2.1 (16 : Int32).toNatClampNeg) + (st.2.2.2.1 (17 : Int32).toNatClampNeg)), vp_updL st.2.2.2.2.1 (18 : Int32).toNatClampNeg ((st.2.2.2.2.1 (16 : Int32).toNatClampNeg) + (st.2.2.2.2.1 (17 : Int32).toNatClampNeg)), vp_updL st.2.2.2.2.2 (18 : Int32).toNatClampNeg ((st.2.2.2.2.2 (16 : Int32).toNatClampNeg) + (st.2.2.2.2.2 (17 : Int32).toNatClampNeg)))
    else (vp_updL st.1 (18 : Int32).toNatClampNeg (((st.1 (16 : Int32).toNatClampNeg) + (st.1 (17 : Int32).toNatClampNeg)) &&& (((((((st.2.1 (16 : Int32).toNatClampNeg) + (st.2.1 (17 : Int32).toNatClampNeg)) + ((st.1 (16 : Int32).toNatClampNeg) + (st.1 (17 : Int32).toNatClampNeg))) ^^^ ((st.1 (16 : Int32).toNatClampNeg) + (st.1 (17 : Int32).toNatClampNeg))) ||| (st.2.1 (16 : Int32).toNatClampNeg)) ||| (st.2.1 (17 : Int32).toNatClampNeg)) ^^^ (-1))), vp_updL st.2.1 (18 : Int32).toNatClampNeg ((((((st.2.1 (16 : Int32).toNatClampNeg) + (st.2.1 (17 : Int32).toNatClampNeg)) + ((st.1 (16 : Int32).toNatClampNeg) + (st.1 (17 : Int32).toNatClampNeg))) ^^^ ((st.1 (16 : Int32).toNatClampNeg) + (st.1 (17 : Int32).toNatClampNeg))) ||| (st.2.1 (16 : Int32).toNatClampNeg)) ||| (st.2.1 (17 : Int32).toNatClampNeg)), vp_updL st.2.2.1 (18 : Int32).toNatClampNeg ((st.2.2.1 (16 : Int32).toNatClampNeg) + (st.2.2.1 (17 : Int32).toNatClampNeg)), vp_updL st.2.2.2.1 (18 : Int32).toNatClampNeg ((st.2.2.2.1 (16 : Int32).toNatClampNeg) + (st.2.2.2.1 (17 : Int32).toNatClampNeg)), st.2.2.2.2.1, st.2.2.2.2.2))
  else if (lg_cmp (((st.2.2.2.2.1 (16 : Int32).toNatClampNeg) ^^^ ((st.2.2.2.2.1 (16 : Int32).toNatClampNeg) + (st.2.2.2.2.1 (17 : Int32).toNatClampNeg))) &&& ((st.2.2.2.2.1 (17 : Int32).toNatClampNeg) ^^^ ((st.2.2.2.2.1 (16 : Int32).toNatClampNeg) + (st.2.2.2.2.1 (17 : Int32).toNatClampNeg)))) 0) < 0 then (vp_updL st.1 (18 : Int32).toNatClampNeg (((st.1 (16 : Int32).toNatClampNeg) + (st.1 (17 : Int32).toNatClampNeg)) &&& (((((((st.2.1 (16 : Int32).toNatClampNeg) + (st.2.1 (17 : Int32).toNatClampNeg)) + ((st.1 (16 : Int32).toNatClampNeg) + (st.1 (17 : Int32).toNatClampNeg))) ^^^ ((st.1 (16 : Int32).toNatClampNeg) + (st.1 (17 : Int32).toNatClampNeg))) ||| (st.2.1 (16 : Int32).toNatClampNeg)) ||| (st.2.1 (17 : Int32).toNatClampNeg)) ^^^ (-1))), vp_updL st.2.1 (18 : Int32).toNatClampNeg ((((((st.2.1 (16 : Int32).toNatClampNeg) + (st.2.1 (17 : Int32).toNatClampNeg)) + ((st.1 (16 : Int32).toNatClampNeg) + (st.1 (17 : Int32).toNatClampNeg))) ^^^ ((st.1 (16 : Int32).toNatClampNeg) + (st.1 (17 : Int32).toNatClampNeg))) ||| (st.2.1 (16 : Int32).toNatClampNeg)) ||| (st.2.1 (17 : Int32).toNatClampNeg)), st.2.2.1, st.2.2.2.1, st.2.2.2.2.1, st.2.2.2.2.2)
  else if 0 ≤ (lg_cmp (((st.2.2.2.2.2 (16 : Int32).toNatClampNeg) ^^^ ((st.2.2.2.2.2 (16 : Int32).toNatClampNeg) + (st.2.2.2.2.2 (17 : Int32).toNatClampNeg))) &&& ((st.2.2.2.2.2 (17 : Int32).toNatClampNeg) ^^^ ((st.2.2.2.2.2 (16 : Int32).toNatClampNeg) + (st.2.2.2.2.2 (17 : Int32).toNatClampNeg)))) 0) then (vp_updL st.1 (18 : Int32).toNatClampNeg (((st.1 (16 : Int32).toNatClampNeg) + (st.1 (17 : Int32).toNatClampNeg)) &&& (((((((st.2.1 (16 : Int32).toNatClampNeg) + (st.2.1 (17 : Int32).toNatClampNeg)) + ((st.1 (16 : Int32).toNatClampNeg) + (st.1 (17 : Int32).toNatClampNeg))) ^^^ ((st.1 (16 : Int32).toNatClampNeg) + (st.1 (17 : Int32).toNatClampNeg))) ||| (st.2.1 (16 : Int32).toNatClampNeg)) ||| (st.2.1 (17 : Int32).toNatClampNeg)) ^^^ (-1))), vp_updL st.2.1 (18 : Int32).toNatClampNeg ((((((st.2.1 (16 : Int32).toNatClampNeg) + (st.2.1 (17 : Int32).toNatClampNeg)) + ((st.1 (16 : Int32).toNatClampNeg) + (st.1 (17 : Int32).toNatClampNeg))) ^^^ ((st.1 (16 : Int32).toNatClampNeg) + (st.1 (17 : Int32).toNatClampNeg))) ||| (st.2.1 (16 : Int32).toNatClampNeg)) ||| (st.2.1 (17 : Int32).toNatClampNeg)), st.2.2.1, st.2.2.2.1, vp_updL st.2.2.2.2.1 (18 : Int32).toNatClampNeg ((st.2.2.2.2.1 (16 : Int32).toNatClampNeg) + (st.2.2.2.2.1 (17 : Int32).toNatClampNeg)), vp_updL st.2.2.2.2.2 (18 : Int32).toNatClampNeg ((st.2.2.2.2.2 (16 : Int32).toNatClampNeg) + (st.2.2.2.2.2 (17 : Int32).toNatClampNeg)))
  else (vp_updL st.1 (18 : Int32).toNatClampNeg (((st.1 (16 : Int32).toNatClampNeg) + (st.1 (17 : Int32).toNatClampNeg)) &&& (((((((st.2.1 (16 : Int32).toNatClampNeg) + (st.2.1 (17 : Int32).toNatClampNeg)) + ((st.1 (16 : Int32).toNatClampNeg) + (st.1 (17 : Int32).toNatClampNeg))) ^^^ ((st.1 (16 : Int32).toNatClampNeg) + (st.1 (17 : Int32).toNatClampNeg))) ||| (st.2.1 (16 : Int32).toNatClampNeg)) ||| (st.2.1 (17 : Int32).toNatClampNeg)) ^^^ (-1))), vp_updL st.2.1 (18 : Int32).toNatClampNeg ((((((st.2.1 (16 : Int32).toNatClampNeg) + (st.2.1 (17 : Int32).toNatClampNeg)) + ((st.1 (16 : Int32).toNatClampNeg) + (st.1 (17 : Int32).toNatClampNeg))) ^^^ ((st.1 (16 : Int32).toNatClampNeg) + (st.1 (17 : Int32).toNatClampNeg))) ||| (st.2.1 (16 : Int32).toNatClampNeg)) ||| (st.2.1 (17 : Int32).toNatClampNeg)), st.2.2.1, st.2.2.2.1, st.2.2.2.2.1, st.2.2.2.2.2)
set_option maxHeartbeats 4000000 in
set_option maxRecDepth 100000 in
theorem c_M_add (l : Launch) (D : va_G) (h0 : Nat) (a1 : Nat) (a2 : Nat) (a3 : Nat) (a4 : Nat) (a5 : Nat) (a6 : Nat) (cj1 cj2 cj3 cj4 cj5 cj6 : ClassId) (th : Int32) (st : Md) : sp_M l yM_add wsM_add ({ frames := 1, cells := 0, slots := 0, locals := 23 }) D [.ref h0] ([(h0, .inr (4, [.int th, .ref a1, .ref a2, .ref a3, .ref a4, .ref a5, .ref a6])), (a1, .inl (cj1, 19, .inr (.inl st.1))), (a2, .inl (cj2, 19, .inr (.inl st.2.1))), (a3, .inl (cj3, 19, .inr (.inl st.2.2.1))), (a4, .inl (cj4, 19, .inr (.inl st.2.2.2.1))), (a5, .inl (cj5, 19, .inr (.inl st.2.2.2.2.1))), (a6, .inl (cj6, 19, .inr (.inl st.2.2.2.2.2)))]) [(cj1, .long), (cj2, .long), (cj3, .long), (cj4, .long), (cj5, .long), (cj6, .long)] (sp_Qv D ([(h0, .inr (4, [.int th, .ref a1, .ref a2, .ref a3, .ref a4, .ref a5, .ref a6])), (a1, .inl (cj1, 19, .inr (.inl st.1))), (a2, .inl (cj2, 19, .inr (.inl st.2.1))), (a3, .inl (cj3, 19, .inr (.inl st.2.2.1))), (a4, .inl (cj4, 19, .inr (.inl st.2.2.2.1))), (a5, .inl (cj5, 19, .inr (.inl st.2.2.2.2.1))), (a6, .inl (cj6, 19, .inr (.inl st.2.2.2.2.2)))]) ([(h0, .inr (4, [.int th, .ref a1, .ref a2, .ref a3, .ref a4, .ref a5, .ref a6])), (a1, .inl (cj1, 19, .inr (.inl ((f_M_add st).1)))), (a2, .inl (cj2, 19, .inr (.inl ((f_M_add st).2.1)))), (a3, .inl (cj3, 19, .inr (.inl ((f_M_add st).2.2.1)))), (a4, .inl (cj4, 19, .inr (.inl ((f_M_add st).2.2.2.1)))), (a5, .inl (cj5, 19, .inr (.inl ((f_M_add st).2.2.2.2.1)))), (a6, .inl (cj6, 19, .inr (.inl ((f_M_add st).2.2.2.2.2))))]) [(cj1, .long), (cj2, .long), (cj3, .long), (cj4, .long), (cj5, .long), (cj6, .long)]) := by
  refine sp_ofW (cc := cM_add) (nL := 14) (ret := none) (own := RM) (by decide) rfl rfl (Nat.le_of_ble_eq_true rfl) ?_
  intro p e s m below meth c A ls hAe hnm C hA hP hK hD hS hl
  have hx := C.1
  have hb := C.2.1
  have hown := C.2.2.2.2.1
  have hts := C.2.2.2.2.2.1
  have hl : lv_has ls 14 [(0, .ref h0)] := hl
  have hi4 : ∀ w ∈ u_ws RM TM 7, w ∈ wsM_add := fun w h => List.mem_cons_of_mem _ (inM w h)
  have hk0 := hts _ (List.mem_cons_of_mem _ wm_383)
  have hk1 := hts _ (List.mem_cons_of_mem _ wm_382)
  have hk2 := hts _ (List.mem_cons_of_mem _ wm_381)
  have hk3 := hts _ (List.mem_cons_of_mem _ wm_385)
  have hk4 := hts _ (List.mem_cons_of_mem _ wm_386)
  have hk5 := hts _ (List.mem_cons_of_mem _ wm_387)
  have hk6 := hts _ (List.mem_cons_of_mem _ wm_384)
  refine lv_aload_n hx hb dM_add_0 rfl (lv_at hl 0 rfl) ?_
  refine va_get (D := D) (ci := 4) (v := .ref a2) (C := RM) (T := TM) (N := 7) hx hb hts hi4 hown hK hP 0 rfl rfl 2 (by decide) hk0 (fun _ h9 => h9) rfl dM_add_1 ?_
  refine lv_bipush (v := 16) hx hb dM_add_4 (by decide) ?_
  refine va_lald hx hb hK hP 2 1 rfl rfl (vp_in_iff.mpr (by decide)) dM_add_6 ?_
  refine lv_aload_n hx hb dM_add_7 rfl (lv_at hl 0 rfl) ?_
  refine va_get (D := D) (ci := 4) (v := .ref a2) (C := RM) (T := TM) (N := 7) hx hb hts hi4 hown hK hP 0 rfl rfl 2 (by decide) hk0 (fun _ h9 => h9) rfl dM_add_8 ?_
  refine lv_bipush (v := 17) hx hb dM_add_11 (by decide) ?_
  refine va_lald hx hb hK hP 2 1 rfl rfl (vp_in_iff.mpr (by decide)) dM_add_13 ?_
  refine lv_ladd hx hb dM_add_14 ?_
  refine lv_lstore_n (lv' := [(1, .long ((st.2.1 (16 : Int32).toNatClampNeg) + (st.2.1 (17 : Int32).toNatClampNeg))), (0, .ref h0)]) hx hb dM_add_15 rfl hl (by decide) rfl (fun ls hl => ?_)
  refine lv_aload_n hx hb dM_add_16 rfl (lv_at hl 1 rfl) ?_
  refine va_get (D := D) (ci := 4) (v := .ref a1) (C := RM) (T := TM) (N := 7) hx hb hts hi4 hown hK hP 0 rfl rfl 1 (by decide) hk1 (fun _ h9 => h9) rfl dM_add_17 ?_
  refine lv_bipush (v := 16) hx hb dM_add_20 (by decide) ?_
  refine va_lald hx hb hK hP 1 0 rfl rfl (vp_in_iff.mpr (by decide)) dM_add_22 ?_
  refine lv_aload_n hx hb dM_add_23 rfl (lv_at hl 1 rfl) ?_
  refine va_get (D := D) (ci := 4) (v := .ref a1) (C := RM) (T := TM) (N := 7) hx hb hts hi4 hown hK hP 0 rfl rfl 1 (by decide) hk1 (fun _ h9 => h9) rfl dM_add_24 ?_
  refine lv_bipush (v := 17) hx hb dM_add_27 (by decide) ?_
  refine va_lald hx hb hK hP 1 0 rfl rfl (vp_in_iff.mpr (by decide)) dM_add_29 ?_
  refine lv_ladd hx hb dM_add_30 ?_
  refine lv_lstore_n (lv' := [(3, .long ((st.1 (16 : Int32).toNatClampNeg) + (st.1 (17 : Int32).toNatClampNeg))), (1, .long ((st.2.1 (16 : Int32).toNatClampNeg) + (st.2.1 (17 : Int32).toNatClampNeg))), (0, .ref h0)]) hx hb dM_add_31 rfl hl (by decide) rfl (fun ls hl => ?_)
  refine lv_lload_n hx hb dM_add_32 rfl (lv_at hl 1 rfl) ?_
  refine lv_lload_n hx hb dM_add_33 rfl (lv_at hl 0 rfl) ?_
  refine lv_ladd hx hb dM_add_34 ?_
  refine lv_lload_n hx hb dM_add_35 rfl (lv_at hl 0 rfl) ?_
  refine lv_lxor hx hb dM_add_36 ?_
  refine lv_aload_n hx hb dM_add_37 rfl (lv_at hl 2 rfl) ?_
  refine va_get (D := D) (ci := 4) (v := .ref a2) (C := RM) (T := TM) (N := 7) hx hb hts hi4 hown hK hP 0 rfl rfl 2 (by decide) hk0 (fun _ h9 => h9) rfl dM_add_38 ?_
  refine lv_bipush (v := 16) hx hb dM_add_41 (by decide) ?_
  refine va_lald hx hb hK hP 2 1 rfl rfl (vp_in_iff.mpr (by decide)) dM_add_43 ?_
  refine lv_lor hx hb dM_add_44 ?_
  refine lv_aload_n hx hb dM_add_45 rfl (lv_at hl 2 rfl) ?_
  refine va_get (D := D) (ci := 4) (v := .ref a2) (C := RM) (T := TM) (N := 7) hx hb hts hi4 hown hK hP 0 rfl rfl 2 (by decide) hk0 (fun _ h9 => h9) rfl dM_add_46 ?_
  refine lv_bipush (v := 17) hx hb dM_add_49 (by decide) ?_
  refine va_lald hx hb hK hP 2 1 rfl rfl (vp_in_iff.mpr (by decide)) dM_add_51 ?_
  refine lv_lor hx hb dM_add_52 ?_
  refine lv_lstore (lv' := [(5, .long ((((((st.2.1 (16 : Int32).toNatClampNeg) + (st.2.1 (17 : Int32).toNatClampNeg)) + ((st.1 (16 : Int32).toNatClampNeg) + (st.1 (17 : Int32).toNatClampNeg))) ^^^ ((st.1 (16 : Int32).toNatClampNeg) + (st.1 (17 : Int32).toNatClampNeg))) ||| (st.2.1 (16 : Int32).toNatClampNeg)) ||| (st.2.1 (17 : Int32).toNatClampNeg))), (3, .long ((st.1 (16 : Int32).toNatClampNeg) + (st.1 (17 : Int32).toNatClampNeg))), (1, .long ((st.2.1 (16 : Int32).toNatClampNeg) + (st.2.1 (17 : Int32).toNatClampNeg))), (0, .ref h0)]) hx hb dM_add_53 hl (by decide) rfl (fun ls hl => ?_)
  refine lv_aload_n hx hb dM_add_55 rfl (lv_at hl 3 rfl) ?_
  refine va_get (D := D) (ci := 4) (v := .ref a2) (C := RM) (T := TM) (N := 7) hx hb hts hi4 hown hK hP 0 rfl rfl 2 (by decide) hk0 (fun _ h9 => h9) rfl dM_add_56 ?_
  refine lv_bipush (v := 18) hx hb dM_add_59 (by decide) ?_
  refine lv_lload hx hb dM_add_61 (lv_at hl 0 rfl) ?_
  refine va_last hx hb hK hP hD hS 2 1 rfl rfl (vp_in_iff.mpr (by decide)) dM_add_63 (fun H locs hP hD hS => ?_)
  have hP : va_P D vwCl ([(h0, .inr (4, [.int th, .ref a1, .ref a2, .ref a3, .ref a4, .ref a5, .ref a6])), (a1, .inl (cj1, 19, .inr (.inl st.1))), (a2, .inl (cj2, 19, .inr (.inl (vp_updL st.2.1 (18 : Int32).toNatClampNeg ((((((st.2.1 (16 : Int32).toNatClampNeg) + (st.2.1 (17 : Int32).toNatClampNeg)) + ((st.1 (16 : Int32).toNatClampNeg) + (st.1 (17 : Int32).toNatClampNeg))) ^^^ ((st.1 (16 : Int32).toNatClampNeg) + (st.1 (17 : Int32).toNatClampNeg))) ||| (st.2.1 (16 : Int32).toNatClampNeg)) ||| (st.2.1 (17 : Int32).toNatClampNeg)))))), (a3, .inl (cj3, 19, .inr (.inl st.2.2.1))), (a4, .inl (cj4, 19, .inr (.inl st.2.2.2.1))), (a5, .inl (cj5, 19, .inr (.inl st.2.2.2.2.1))), (a6, .inl (cj6, 19, .inr (.inl st.2.2.2.2.2)))]) H := hP
  have hD : va_D A ([(h0, .inr (4, [.int th, .ref a1, .ref a2, .ref a3, .ref a4, .ref a5, .ref a6])), (a1, .inl (cj1, 19, .inr (.inl st.1))), (a2, .inl (cj2, 19, .inr (.inl (vp_updL st.2.1 (18 : Int32).toNatClampNeg ((((((st.2.1 (16 : Int32).toNatClampNeg) + (st.2.1 (17 : Int32).toNatClampNeg)) + ((st.1 (16 : Int32).toNatClampNeg) + (st.1 (17 : Int32).toNatClampNeg))) ^^^ ((st.1 (16 : Int32).toNatClampNeg) + (st.1 (17 : Int32).toNatClampNeg))) ||| (st.2.1 (16 : Int32).toNatClampNeg)) ||| (st.2.1 (17 : Int32).toNatClampNeg)))))), (a3, .inl (cj3, 19, .inr (.inl st.2.2.1))), (a4, .inl (cj4, 19, .inr (.inl st.2.2.2.1))), (a5, .inl (cj5, 19, .inr (.inl st.2.2.2.2.1))), (a6, .inl (cj6, 19, .inr (.inl st.2.2.2.2.2)))]) := hD
  refine lv_aload_n hx hb dM_add_64 rfl (lv_at hl 3 rfl) ?_
  refine va_get (D := D) (ci := 4) (v := .ref a1) (C := RM) (T := TM) (N := 7) hx hb hts hi4 hown hK hP 0 rfl rfl 1 (by decide) hk1 (fun _ h9 => h9) rfl dM_add_65 ?_
  refine lv_bipush (v := 18) hx hb dM_add_68 (by decide) ?_
  refine lv_lload_n hx hb dM_add_70 rfl (lv_at hl 1 rfl) ?_
  refine lv_lload hx hb dM_add_71 (lv_at hl 0 rfl) ?_
  refine lv_ldc2 (v := (-1)) hx hb hown hk2 dM_add_73 ?_
  refine lv_lxor hx hb dM_add_76 ?_
  refine lv_land hx hb dM_add_77 ?_
  refine va_last hx hb hK hP hD hS 1 0 rfl rfl (vp_in_iff.mpr (by decide)) dM_add_78 (fun H locs hP hD hS => ?_)
  have hP : va_P D vwCl ([(h0, .inr (4, [.int th, .ref a1, .ref a2, .ref a3, .ref a4, .ref a5, .ref a6])), (a1, .inl (cj1, 19, .inr (.inl (vp_updL st.1 (18 : Int32).toNatClampNeg (((st.1 (16 : Int32).toNatClampNeg) + (st.1 (17 : Int32).toNatClampNeg)) &&& (((((((st.2.1 (16 : Int32).toNatClampNeg) + (st.2.1 (17 : Int32).toNatClampNeg)) + ((st.1 (16 : Int32).toNatClampNeg) + (st.1 (17 : Int32).toNatClampNeg))) ^^^ ((st.1 (16 : Int32).toNatClampNeg) + (st.1 (17 : Int32).toNatClampNeg))) ||| (st.2.1 (16 : Int32).toNatClampNeg)) ||| (st.2.1 (17 : Int32).toNatClampNeg)) ^^^ (-1))))))), (a2, .inl (cj2, 19, .inr (.inl (vp_updL st.2.1 (18 : Int32).toNatClampNeg ((((((st.2.1 (16 : Int32).toNatClampNeg) + (st.2.1 (17 : Int32).toNatClampNeg)) + ((st.1 (16 : Int32).toNatClampNeg) + (st.1 (17 : Int32).toNatClampNeg))) ^^^ ((st.1 (16 : Int32).toNatClampNeg) + (st.1 (17 : Int32).toNatClampNeg))) ||| (st.2.1 (16 : Int32).toNatClampNeg)) ||| (st.2.1 (17 : Int32).toNatClampNeg)))))), (a3, .inl (cj3, 19, .inr (.inl st.2.2.1))), (a4, .inl (cj4, 19, .inr (.inl st.2.2.2.1))), (a5, .inl (cj5, 19, .inr (.inl st.2.2.2.2.1))), (a6, .inl (cj6, 19, .inr (.inl st.2.2.2.2.2)))]) H := hP
  have hD : va_D A ([(h0, .inr (4, [.int th, .ref a1, .ref a2, .ref a3, .ref a4, .ref a5, .ref a6])), (a1, .inl (cj1, 19, .inr (.inl (vp_updL st.1 (18 : Int32).toNatClampNeg (((st.1 (16 : Int32).toNatClampNeg) + (st.1 (17 : Int32).toNatClampNeg)) &&& (((((((st.2.1 (16 : Int32).toNatClampNeg) + (st.2.1 (17 : Int32).toNatClampNeg)) + ((st.1 (16 : Int32).toNatClampNeg) + (st.1 (17 : Int32).toNatClampNeg))) ^^^ ((st.1 (16 : Int32).toNatClampNeg) + (st.1 (17 : Int32).toNatClampNeg))) ||| (st.2.1 (16 : Int32).toNatClampNeg)) ||| (st.2.1 (17 : Int32).toNatClampNeg)) ^^^ (-1))))))), (a2, .inl (cj2, 19, .inr (.inl (vp_updL st.2.1 (18 : Int32).toNatClampNeg ((((((st.2.1 (16 : Int32).toNatClampNeg) + (st.2.1 (17 : Int32).toNatClampNeg)) + ((st.1 (16 : Int32).toNatClampNeg) + (st.1 (17 : Int32).toNatClampNeg))) ^^^ ((st.1 (16 : Int32).toNatClampNeg) + (st.1 (17 : Int32).toNatClampNeg))) ||| (st.2.1 (16 : Int32).toNatClampNeg)) ||| (st.2.1 (17 : Int32).toNatClampNeg)))))), (a3, .inl (cj3, 19, .inr (.inl st.2.2.1))), (a4, .inl (cj4, 19, .inr (.inl st.2.2.2.1))), (a5, .inl (cj5, 19, .inr (.inl st.2.2.2.2.1))), (a6, .inl (cj6, 19, .inr (.inl st.2.2.2.2.2)))]) := hD
  refine lv_aload_n hx hb dM_add_79 rfl (lv_at hl 3 rfl) ?_
  refine va_get (D := D) (ci := 4) (v := .ref a4) (C := RM) (T := TM) (N := 7) hx hb hts hi4 hown hK hP 0 rfl rfl 4 (by decide) hk3 (fun _ h9 => h9) rfl dM_add_80 ?_
  refine lv_bipush (v := 16) hx hb dM_add_83 (by decide) ?_
  refine va_lald hx hb hK hP 4 3 rfl rfl (vp_in_iff.mpr (by decide)) dM_add_85 ?_
  refine lv_aload_n hx hb dM_add_86 rfl (lv_at hl 3 rfl) ?_
  refine va_get (D := D) (ci := 4) (v := .ref a4) (C := RM) (T := TM) (N := 7) hx hb hts hi4 hown hK hP 0 rfl rfl 4 (by decide) hk3 (fun _ h9 => h9) rfl dM_add_87 ?_
  refine lv_bipush (v := 17) hx hb dM_add_90 (by decide) ?_
  refine va_lald hx hb hK hP 4 3 rfl rfl (vp_in_iff.mpr (by decide)) dM_add_92 ?_
  refine lv_ladd hx hb dM_add_93 ?_
  refine lv_lstore (lv' := [(7, .long ((st.2.2.2.1 (16 : Int32).toNatClampNeg) + (st.2.2.2.1 (17 : Int32).toNatClampNeg))), (5, .long ((((((st.2.1 (16 : Int32).toNatClampNeg) + (st.2.1 (17 : Int32).toNatClampNeg)) + ((st.1 (16 : Int32).toNatClampNeg) + (st.1 (17 : Int32).toNatClampNeg))) ^^^ ((st.1 (16 : Int32).toNatClampNeg) + (st.1 (17 : Int32).toNatClampNeg))) ||| (st.2.1 (16 : Int32).toNatClampNeg)) ||| (st.2.1 (17 : Int32).toNatClampNeg))), (3, .long ((st.1 (16 : Int32).toNatClampNeg) + (st.1 (17 : Int32).toNatClampNeg))), (1, .long ((st.2.1 (16 : Int32).toNatClampNeg) + (st.2.1 (17 : Int32).toNatClampNeg))), (0, .ref h0)]) hx hb dM_add_94 hl (by decide) rfl (fun ls hl => ?_)
  refine lv_lload hx hb dM_add_96 (lv_at hl 0 rfl) ?_
  refine lv_aload_n hx hb dM_add_98 rfl (lv_at hl 4 rfl) ?_
  refine va_get (D := D) (ci := 4) (v := .ref a4) (C := RM) (T := TM) (N := 7) hx hb hts hi4 hown hK hP 0 rfl rfl 4 (by decide) hk3 (fun _ h9 => h9) rfl dM_add_99 ?_
  refine lv_bipush (v := 16) hx hb dM_add_102 (by decide) ?_
  refine va_lald hx hb hK hP 4 3 rfl rfl (vp_in_iff.mpr (by decide)) dM_add_104 ?_
  refine sp_callz (sp_runS (As := [.long ((st.2.2.2.1 (16 : Int32).toNatClampNeg) + (st.2.2.2.1 (17 : Int32).toNatClampNeg)), .long (st.2.2.2.1 (16 : Int32).toNatClampNeg)]) (rest := []) C (c_M_below l D ((st.2.2.2.1 (16 : Int32).toNatClampNeg) + (st.2.2.2.1 (17 : Int32).toNatClampNeg)) (st.2.2.2.1 (16 : Int32).toNatClampNeg)) (va_cwS 2 hts (gS wG_c wm_376 wm_377 wm_378 wm_375) rfl rfl rfl (by decide +kernel) ⟨Nat.le_of_ble_eq_true rfl, Nat.le_of_ble_eq_true rfl⟩) hK hP hD [] (by decide) rfl [] rfl rfl hl.1 rfl (Nat.le_of_ble_eq_true rfl) dM_add_105 ⟨Nat.le_of_ble_eq_true rfl, Nat.le_of_ble_eq_true rfl⟩) hP hD hS hA [] rfl sp_f0 (fun H locs z1 hP hD hS => ?_)
  have hP : va_P D vwCl ([(h0, .inr (4, [.int th, .ref a1, .ref a2, .ref a3, .ref a4, .ref a5, .ref a6])), (a1, .inl (cj1, 19, .inr (.inl (vp_updL st.1 (18 : Int32).toNatClampNeg (((st.1 (16 : Int32).toNatClampNeg) + (st.1 (17 : Int32).toNatClampNeg)) &&& (((((((st.2.1 (16 : Int32).toNatClampNeg) + (st.2.1 (17 : Int32).toNatClampNeg)) + ((st.1 (16 : Int32).toNatClampNeg) + (st.1 (17 : Int32).toNatClampNeg))) ^^^ ((st.1 (16 : Int32).toNatClampNeg) + (st.1 (17 : Int32).toNatClampNeg))) ||| (st.2.1 (16 : Int32).toNatClampNeg)) ||| (st.2.1 (17 : Int32).toNatClampNeg)) ^^^ (-1))))))), (a2, .inl (cj2, 19, .inr (.inl (vp_updL st.2.1 (18 : Int32).toNatClampNeg ((((((st.2.1 (16 : Int32).toNatClampNeg) + (st.2.1 (17 : Int32).toNatClampNeg)) + ((st.1 (16 : Int32).toNatClampNeg) + (st.1 (17 : Int32).toNatClampNeg))) ^^^ ((st.1 (16 : Int32).toNatClampNeg) + (st.1 (17 : Int32).toNatClampNeg))) ||| (st.2.1 (16 : Int32).toNatClampNeg)) ||| (st.2.1 (17 : Int32).toNatClampNeg)))))), (a3, .inl (cj3, 19, .inr (.inl st.2.2.1))), (a4, .inl (cj4, 19, .inr (.inl st.2.2.2.1))), (a5, .inl (cj5, 19, .inr (.inl st.2.2.2.2.1))), (a6, .inl (cj6, 19, .inr (.inl st.2.2.2.2.2)))]) H := hP
  have hD : va_D A ([(h0, .inr (4, [.int th, .ref a1, .ref a2, .ref a3, .ref a4, .ref a5, .ref a6])), (a1, .inl (cj1, 19, .inr (.inl (vp_updL st.1 (18 : Int32).toNatClampNeg (((st.1 (16 : Int32).toNatClampNeg) + (st.1 (17 : Int32).toNatClampNeg)) &&& (((((((st.2.1 (16 : Int32).toNatClampNeg) + (st.2.1 (17 : Int32).toNatClampNeg)) + ((st.1 (16 : Int32).toNatClampNeg) + (st.1 (17 : Int32).toNatClampNeg))) ^^^ ((st.1 (16 : Int32).toNatClampNeg) + (st.1 (17 : Int32).toNatClampNeg))) ||| (st.2.1 (16 : Int32).toNatClampNeg)) ||| (st.2.1 (17 : Int32).toNatClampNeg)) ^^^ (-1))))))), (a2, .inl (cj2, 19, .inr (.inl (vp_updL st.2.1 (18 : Int32).toNatClampNeg ((((((st.2.1 (16 : Int32).toNatClampNeg) + (st.2.1 (17 : Int32).toNatClampNeg)) + ((st.1 (16 : Int32).toNatClampNeg) + (st.1 (17 : Int32).toNatClampNeg))) ^^^ ((st.1 (16 : Int32).toNatClampNeg) + (st.1 (17 : Int32).toNatClampNeg))) ||| (st.2.1 (16 : Int32).toNatClampNeg)) ||| (st.2.1 (17 : Int32).toNatClampNeg)))))), (a3, .inl (cj3, 19, .inr (.inl st.2.2.1))), (a4, .inl (cj4, 19, .inr (.inl st.2.2.2.1))), (a5, .inl (cj5, 19, .inr (.inl st.2.2.2.2.1))), (a6, .inl (cj6, 19, .inr (.inl st.2.2.2.2.2)))]) := hD
  refine lv_if_ne (tgt := 142) hx hb dM_add_108 (by decide) (fun c2 => ?_) (fun c2 => ?_)
  · refine lv_aload_n hx hb dM_add_142 rfl (lv_at hl 4 rfl) ?_
    refine va_get (D := D) (ci := 4) (v := .ref a5) (C := RM) (T := TM) (N := 7) hx hb hts hi4 hown hK hP 0 rfl rfl 5 (by decide) hk4 (fun _ h9 => h9) rfl dM_add_143 ?_
    refine lv_bipush (v := 16) hx hb dM_add_146 (by decide) ?_
    refine va_lald hx hb hK hP 5 4 rfl rfl (vp_in_iff.mpr (by decide)) dM_add_148 ?_
    refine lv_aload_n hx hb dM_add_149 rfl (lv_at hl 4 rfl) ?_
    refine va_get (D := D) (ci := 4) (v := .ref a5) (C := RM) (T := TM) (N := 7) hx hb hts hi4 hown hK hP 0 rfl rfl 5 (by decide) hk4 (fun _ h9 => h9) rfl dM_add_150 ?_
    refine lv_bipush (v := 17) hx hb dM_add_153 (by decide) ?_
    refine va_lald hx hb hK hP 5 4 rfl rfl (vp_in_iff.mpr (by decide)) dM_add_155 ?_
    refine lv_ladd hx hb dM_add_156 ?_
    refine lv_lstore (lv' := [(9, .long ((st.2.2.2.2.1 (16 : Int32).toNatClampNeg) + (st.2.2.2.2.1 (17 : Int32).toNatClampNeg))), (7, .long ((st.2.2.2.1 (16 : Int32).toNatClampNeg) + (st.2.2.2.1 (17 : Int32).toNatClampNeg))), (5, .long ((((((st.2.1 (16 : Int32).toNatClampNeg) + (st.2.1 (17 : Int32).toNatClampNeg)) + ((st.1 (16 : Int32).toNatClampNeg) + (st.1 (17 : Int32).toNatClampNeg))) ^^^ ((st.1 (16 : Int32).toNatClampNeg) + (st.1 (17 : Int32).toNatClampNeg))) ||| (st.2.1 (16 : Int32).toNatClampNeg)) ||| (st.2.1 (17 : Int32).toNatClampNeg))), (3, .long ((st.1 (16 : Int32).toNatClampNeg) + (st.1 (17 : Int32).toNatClampNeg))), (1, .long ((st.2.1 (16 : Int32).toNatClampNeg) + (st.2.1 (17 : Int32).toNatClampNeg))), (0, .ref h0)]) hx hb dM_add_157 hl (by decide) rfl (fun ls hl => ?_)
    refine lv_aload_n hx hb dM_add_159 rfl (lv_at hl 5 rfl) ?_
    refine va_get (D := D) (ci := 4) (v := .ref a6) (C := RM) (T := TM) (N := 7) hx hb hts hi4 hown hK hP 0 rfl rfl 6 (by decide) hk5 (fun _ h9 => h9) rfl dM_add_160 ?_
    refine lv_bipush (v := 16) hx hb dM_add_163 (by decide) ?_
    refine va_lald hx hb hK hP 6 5 rfl rfl (vp_in_iff.mpr (by decide)) dM_add_165 ?_
    refine lv_aload_n hx hb dM_add_166 rfl (lv_at hl 5 rfl) ?_
    refine va_get (D := D) (ci := 4) (v := .ref a6) (C := RM) (T := TM) (N := 7) hx hb hts hi4 hown hK hP 0 rfl rfl 6 (by decide) hk5 (fun _ h9 => h9) rfl dM_add_167 ?_
    refine lv_bipush (v := 17) hx hb dM_add_170 (by decide) ?_
    refine va_lald hx hb hK hP 6 5 rfl rfl (vp_in_iff.mpr (by decide)) dM_add_172 ?_
    refine lv_ladd hx hb dM_add_173 ?_
    refine lv_lstore (lv' := [(11, .long ((st.2.2.2.2.2 (16 : Int32).toNatClampNeg) + (st.2.2.2.2.2 (17 : Int32).toNatClampNeg))), (9, .long ((st.2.2.2.2.1 (16 : Int32).toNatClampNeg) + (st.2.2.2.2.1 (17 : Int32).toNatClampNeg))), (7, .long ((st.2.2.2.1 (16 : Int32).toNatClampNeg) + (st.2.2.2.1 (17 : Int32).toNatClampNeg))), (5, .long ((((((st.2.1 (16 : Int32).toNatClampNeg) + (st.2.1 (17 : Int32).toNatClampNeg)) + ((st.1 (16 : Int32).toNatClampNeg) + (st.1 (17 : Int32).toNatClampNeg))) ^^^ ((st.1 (16 : Int32).toNatClampNeg) + (st.1 (17 : Int32).toNatClampNeg))) ||| (st.2.1 (16 : Int32).toNatClampNeg)) ||| (st.2.1 (17 : Int32).toNatClampNeg))), (3, .long ((st.1 (16 : Int32).toNatClampNeg) + (st.1 (17 : Int32).toNatClampNeg))), (1, .long ((st.2.1 (16 : Int32).toNatClampNeg) + (st.2.1 (17 : Int32).toNatClampNeg))), (0, .ref h0)]) hx hb dM_add_174 hl (by decide) rfl (fun ls hl => ?_)
    refine lv_aload_n hx hb dM_add_176 rfl (lv_at hl 6 rfl) ?_
    refine va_get (D := D) (ci := 4) (v := .ref a5) (C := RM) (T := TM) (N := 7) hx hb hts hi4 hown hK hP 0 rfl rfl 5 (by decide) hk4 (fun _ h9 => h9) rfl dM_add_177 ?_
    refine lv_bipush (v := 16) hx hb dM_add_180 (by decide) ?_
    refine va_lald hx hb hK hP 5 4 rfl rfl (vp_in_iff.mpr (by decide)) dM_add_182 ?_
    refine lv_lload hx hb dM_add_183 (lv_at hl 1 rfl) ?_
    refine lv_lxor hx hb dM_add_185 ?_
    refine lv_aload_n hx hb dM_add_186 rfl (lv_at hl 6 rfl) ?_
    refine va_get (D := D) (ci := 4) (v := .ref a5) (C := RM) (T := TM) (N := 7) hx hb hts hi4 hown hK hP 0 rfl rfl 5 (by decide) hk4 (fun _ h9 => h9) rfl dM_add_187 ?_
    refine lv_bipush (v := 17) hx hb dM_add_190 (by decide) ?_
    refine va_lald hx hb hK hP 5 4 rfl rfl (vp_in_iff.mpr (by decide)) dM_add_192 ?_
    refine lv_lload hx hb dM_add_193 (lv_at hl 1 rfl) ?_
    refine lv_lxor hx hb dM_add_195 ?_
    refine lv_land hx hb dM_add_196 ?_
    refine lv_lconst (v := 0) hx hb dM_add_197 (by decide) ?_
    refine W.lcmp hx hb dM_add_198 ?_
    refine lv_if_lt (tgt := 228) hx hb dM_add_199 (by decide) (fun c3 => ?_) (fun c3 => ?_)
    · refine lv_iconst (v := 1) hx hb dM_add_228 (by decide) ?_
      refine lv_goto (tgt := 233) hx hb dM_add_229 (by decide) ?_
      refine lv_istore (lv' := [(13, .int 1), (11, .long ((st.2.2.2.2.2 (16 : Int32).toNatClampNeg) + (st.2.2.2.2.2 (17 : Int32).toNatClampNeg))), (9, .long ((st.2.2.2.2.1 (16 : Int32).toNatClampNeg) + (st.2.2.2.2.1 (17 : Int32).toNatClampNeg))), (7, .long ((st.2.2.2.1 (16 : Int32).toNatClampNeg) + (st.2.2.2.1 (17 : Int32).toNatClampNeg))), (5, .long ((((((st.2.1 (16 : Int32).toNatClampNeg) + (st.2.1 (17 : Int32).toNatClampNeg)) + ((st.1 (16 : Int32).toNatClampNeg) + (st.1 (17 : Int32).toNatClampNeg))) ^^^ ((st.1 (16 : Int32).toNatClampNeg) + (st.1 (17 : Int32).toNatClampNeg))) ||| (st.2.1 (16 : Int32).toNatClampNeg)) ||| (st.2.1 (17 : Int32).toNatClampNeg))), (3, .long ((st.1 (16 : Int32).toNatClampNeg) + (st.1 (17 : Int32).toNatClampNeg))), (1, .long ((st.2.1 (16 : Int32).toNatClampNeg) + (st.2.1 (17 : Int32).toNatClampNeg))), (0, .ref h0)]) hx hb dM_add_233 hl (by decide) rfl (fun ls hl => ?_)
      refine lv_iload hx hb dM_add_235 (lv_at hl 0 rfl) ?_
      refine lv_if_ne (tgt := 258) hx hb dM_add_237 (by decide) (fun _ => ?_) (fun h9 => absurd h9 (by decide))
      have e9 : f_M_add st = (vp_updL st.1 (18 : Int32).toNatClampNeg (((st.1 (16 : Int32).toNatClampNeg) + (st.1 (17 : Int32).toNatClampNeg)) &&& (((((((st.2.1 (16 : Int32).toNatClampNeg) + (st.2.1 (17 : Int32).toNatClampNeg)) + ((st.1 (16 : Int32).toNatClampNeg) + (st.1 (17 : Int32).toNatClampNeg))) ^^^ ((st.1 (16 : Int32).toNatClampNeg) + (st.1 (17 : Int32).toNatClampNeg))) ||| (st.2.1 (16 : Int32).toNatClampNeg)) ||| (st.2.1 (17 : Int32).toNatClampNeg)) ^^^ (-1))), vp_updL st.2.1 (18 : Int32).toNatClampNeg ((((((st.2.1 (16 : Int32).toNatClampNeg) + (st.2.1 (17 : Int32).toNatClampNeg)) + ((st.1 (16 : Int32).toNatClampNeg) + (st.1 (17 : Int32).toNatClampNeg))) ^^^ ((st.1 (16 : Int32).toNatClampNeg) + (st.1 (17 : Int32).toNatClampNeg))) ||| (st.2.1 (16 : Int32).toNatClampNeg)) ||| (st.2.1 (17 : Int32).toNatClampNeg)), st.2.2.1, st.2.2.2.1, st.2.2.2.2.1, st.2.2.2.2.2) := (if_neg c2).trans ((if_pos c3).trans (rfl))
      rw [e9]
      exact sp_vret C hAe hP hK hD hS dM_add_258
    · refine lv_aload_n hx hb dM_add_202 rfl (lv_at hl 6 rfl) ?_
      refine va_get (D := D) (ci := 4) (v := .ref a6) (C := RM) (T := TM) (N := 7) hx hb hts hi4 hown hK hP 0 rfl rfl 6 (by decide) hk5 (fun _ h9 => h9) rfl dM_add_203 ?_
      refine lv_bipush (v := 16) hx hb dM_add_206 (by decide) ?_
      refine va_lald hx hb hK hP 6 5 rfl rfl (vp_in_iff.mpr (by decide)) dM_add_208 ?_
      refine lv_lload hx hb dM_add_209 (lv_at hl 0 rfl) ?_
      refine lv_lxor hx hb dM_add_211 ?_
      refine lv_aload_n hx hb dM_add_212 rfl (lv_at hl 6 rfl) ?_
      refine va_get (D := D) (ci := 4) (v := .ref a6) (C := RM) (T := TM) (N := 7) hx hb hts hi4 hown hK hP 0 rfl rfl 6 (by decide) hk5 (fun _ h9 => h9) rfl dM_add_213 ?_
      refine lv_bipush (v := 17) hx hb dM_add_216 (by decide) ?_
      refine va_lald hx hb hK hP 6 5 rfl rfl (vp_in_iff.mpr (by decide)) dM_add_218 ?_
      refine lv_lload hx hb dM_add_219 (lv_at hl 0 rfl) ?_
      refine lv_lxor hx hb dM_add_221 ?_
      refine lv_land hx hb dM_add_222 ?_
      refine lv_lconst (v := 0) hx hb dM_add_223 (by decide) ?_
      refine W.lcmp hx hb dM_add_224 ?_
      refine lv_if_ge (tgt := 232) hx hb dM_add_225 (by decide) (fun c4 => ?_) (fun c4 => ?_)
      · refine lv_iconst (v := 0) hx hb dM_add_232 (by decide) ?_
        refine lv_istore (lv' := [(13, .int 0), (11, .long ((st.2.2.2.2.2 (16 : Int32).toNatClampNeg) + (st.2.2.2.2.2 (17 : Int32).toNatClampNeg))), (9, .long ((st.2.2.2.2.1 (16 : Int32).toNatClampNeg) + (st.2.2.2.2.1 (17 : Int32).toNatClampNeg))), (7, .long ((st.2.2.2.1 (16 : Int32).toNatClampNeg) + (st.2.2.2.1 (17 : Int32).toNatClampNeg))), (5, .long ((((((st.2.1 (16 : Int32).toNatClampNeg) + (st.2.1 (17 : Int32).toNatClampNeg)) + ((st.1 (16 : Int32).toNatClampNeg) + (st.1 (17 : Int32).toNatClampNeg))) ^^^ ((st.1 (16 : Int32).toNatClampNeg) + (st.1 (17 : Int32).toNatClampNeg))) ||| (st.2.1 (16 : Int32).toNatClampNeg)) ||| (st.2.1 (17 : Int32).toNatClampNeg))), (3, .long ((st.1 (16 : Int32).toNatClampNeg) + (st.1 (17 : Int32).toNatClampNeg))), (1, .long ((st.2.1 (16 : Int32).toNatClampNeg) + (st.2.1 (17 : Int32).toNatClampNeg))), (0, .ref h0)]) hx hb dM_add_233 hl (by decide) rfl (fun ls hl => ?_)
        refine lv_iload hx hb dM_add_235 (lv_at hl 0 rfl) ?_
        refine lv_if_ne (tgt := 258) hx hb dM_add_237 (by decide) (fun h9 => absurd h9 (by decide)) (fun _ => ?_)
        refine lv_aload_n hx hb dM_add_240 rfl (lv_at hl 7 rfl) ?_
        refine va_get (D := D) (ci := 4) (v := .ref a5) (C := RM) (T := TM) (N := 7) hx hb hts hi4 hown hK hP 0 rfl rfl 5 (by decide) hk4 (fun _ h9 => h9) rfl dM_add_241 ?_
        refine lv_bipush (v := 18) hx hb dM_add_244 (by decide) ?_
        refine lv_lload hx hb dM_add_246 (lv_at hl 2 rfl) ?_
        refine va_last hx hb hK hP hD hS 5 4 rfl rfl (vp_in_iff.mpr (by decide)) dM_add_248 (fun H locs hP hD hS => ?_)
        have hP : va_P D vwCl ([(h0, .inr (4, [.int th, .ref a1, .ref a2, .ref a3, .ref a4, .ref a5, .ref a6])), (a1, .inl (cj1, 19, .inr (.inl (vp_updL st.1 (18 : Int32).toNatClampNeg (((st.1 (16 : Int32).toNatClampNeg) + (st.1 (17 : Int32).toNatClampNeg)) &&& (((((((st.2.1 (16 : Int32).toNatClampNeg) + (st.2.1 (17 : Int32).toNatClampNeg)) + ((st.1 (16 : Int32).toNatClampNeg) + (st.1 (17 : Int32).toNatClampNeg))) ^^^ ((st.1 (16 : Int32).toNatClampNeg) + (st.1 (17 : Int32).toNatClampNeg))) ||| (st.2.1 (16 : Int32).toNatClampNeg)) ||| (st.2.1 (17 : Int32).toNatClampNeg)) ^^^ (-1))))))), (a2, .inl (cj2, 19, .inr (.inl (vp_updL st.2.1 (18 : Int32).toNatClampNeg ((((((st.2.1 (16 : Int32).toNatClampNeg) + (st.2.1 (17 : Int32).toNatClampNeg)) + ((st.1 (16 : Int32).toNatClampNeg) + (st.1 (17 : Int32).toNatClampNeg))) ^^^ ((st.1 (16 : Int32).toNatClampNeg) + (st.1 (17 : Int32).toNatClampNeg))) ||| (st.2.1 (16 : Int32).toNatClampNeg)) ||| (st.2.1 (17 : Int32).toNatClampNeg)))))), (a3, .inl (cj3, 19, .inr (.inl st.2.2.1))), (a4, .inl (cj4, 19, .inr (.inl st.2.2.2.1))), (a5, .inl (cj5, 19, .inr (.inl (vp_updL st.2.2.2.2.1 (18 : Int32).toNatClampNeg ((st.2.2.2.2.1 (16 : Int32).toNatClampNeg) + (st.2.2.2.2.1 (17 : Int32).toNatClampNeg)))))), (a6, .inl (cj6, 19, .inr (.inl st.2.2.2.2.2)))]) H := hP
        have hD : va_D A ([(h0, .inr (4, [.int th, .ref a1, .ref a2, .ref a3, .ref a4, .ref a5, .ref a6])), (a1, .inl (cj1, 19, .inr (.inl (vp_updL st.1 (18 : Int32).toNatClampNeg (((st.1 (16 : Int32).toNatClampNeg) + (st.1 (17 : Int32).toNatClampNeg)) &&& (((((((st.2.1 (16 : Int32).toNatClampNeg) + (st.2.1 (17 : Int32).toNatClampNeg)) + ((st.1 (16 : Int32).toNatClampNeg) + (st.1 (17 : Int32).toNatClampNeg))) ^^^ ((st.1 (16 : Int32).toNatClampNeg) + (st.1 (17 : Int32).toNatClampNeg))) ||| (st.2.1 (16 : Int32).toNatClampNeg)) ||| (st.2.1 (17 : Int32).toNatClampNeg)) ^^^ (-1))))))), (a2, .inl (cj2, 19, .inr (.inl (vp_updL st.2.1 (18 : Int32).toNatClampNeg ((((((st.2.1 (16 : Int32).toNatClampNeg) + (st.2.1 (17 : Int32).toNatClampNeg)) + ((st.1 (16 : Int32).toNatClampNeg) + (st.1 (17 : Int32).toNatClampNeg))) ^^^ ((st.1 (16 : Int32).toNatClampNeg) + (st.1 (17 : Int32).toNatClampNeg))) ||| (st.2.1 (16 : Int32).toNatClampNeg)) ||| (st.2.1 (17 : Int32).toNatClampNeg)))))), (a3, .inl (cj3, 19, .inr (.inl st.2.2.1))), (a4, .inl (cj4, 19, .inr (.inl st.2.2.2.1))), (a5, .inl (cj5, 19, .inr (.inl (vp_updL st.2.2.2.2.1 (18 : Int32).toNatClampNeg ((st.2.2.2.2.1 (16 : Int32).toNatClampNeg) + (st.2.2.2.2.1 (17 : Int32).toNatClampNeg)))))), (a6, .inl (cj6, 19, .inr (.inl st.2.2.2.2.2)))]) := hD
        refine lv_aload_n hx hb dM_add_249 rfl (lv_at hl 7 rfl) ?_
        refine va_get (D := D) (ci := 4) (v := .ref a6) (C := RM) (T := TM) (N := 7) hx hb hts hi4 hown hK hP 0 rfl rfl 6 (by decide) hk5 (fun _ h9 => h9) rfl dM_add_250 ?_
        refine lv_bipush (v := 18) hx hb dM_add_253 (by decide) ?_
        refine lv_lload hx hb dM_add_255 (lv_at hl 1 rfl) ?_
        refine va_last hx hb hK hP hD hS 6 5 rfl rfl (vp_in_iff.mpr (by decide)) dM_add_257 (fun H locs hP hD hS => ?_)
        have hP : va_P D vwCl ([(h0, .inr (4, [.int th, .ref a1, .ref a2, .ref a3, .ref a4, .ref a5, .ref a6])), (a1, .inl (cj1, 19, .inr (.inl (vp_updL st.1 (18 : Int32).toNatClampNeg (((st.1 (16 : Int32).toNatClampNeg) + (st.1 (17 : Int32).toNatClampNeg)) &&& (((((((st.2.1 (16 : Int32).toNatClampNeg) + (st.2.1 (17 : Int32).toNatClampNeg)) + ((st.1 (16 : Int32).toNatClampNeg) + (st.1 (17 : Int32).toNatClampNeg))) ^^^ ((st.1 (16 : Int32).toNatClampNeg) + (st.1 (17 : Int32).toNatClampNeg))) ||| (st.2.1 (16 : Int32).toNatClampNeg)) ||| (st.2.1 (17 : Int32).toNatClampNeg)) ^^^ (-1))))))), (a2, .inl (cj2, 19, .inr (.inl (vp_updL st.2.1 (18 : Int32).toNatClampNeg ((((((st.2.1 (16 : Int32).toNatClampNeg) + (st.2.1 (17 : Int32).toNatClampNeg)) + ((st.1 (16 : Int32).toNatClampNeg) + (st.1 (17 : Int32).toNatClampNeg))) ^^^ ((st.1 (16 : Int32).toNatClampNeg) + (st.1 (17 : Int32).toNatClampNeg))) ||| (st.2.1 (16 : Int32).toNatClampNeg)) ||| (st.2.1 (17 : Int32).toNatClampNeg)))))), (a3, .inl (cj3, 19, .inr (.inl st.2.2.1))), (a4, .inl (cj4, 19, .inr (.inl st.2.2.2.1))), (a5, .inl (cj5, 19, .inr (.inl (vp_updL st.2.2.2.2.1 (18 : Int32).toNatClampNeg ((st.2.2.2.2.1 (16 : Int32).toNatClampNeg) + (st.2.2.2.2.1 (17 : Int32).toNatClampNeg)))))), (a6, .inl (cj6, 19, .inr (.inl (vp_updL st.2.2.2.2.2 (18 : Int32).toNatClampNeg ((st.2.2.2.2.2 (16 : Int32).toNatClampNeg) + (st.2.2.2.2.2 (17 : Int32).toNatClampNeg))))))]) H := hP
        have hD : va_D A ([(h0, .inr (4, [.int th, .ref a1, .ref a2, .ref a3, .ref a4, .ref a5, .ref a6])), (a1, .inl (cj1, 19, .inr (.inl (vp_updL st.1 (18 : Int32).toNatClampNeg (((st.1 (16 : Int32).toNatClampNeg) + (st.1 (17 : Int32).toNatClampNeg)) &&& (((((((st.2.1 (16 : Int32).toNatClampNeg) + (st.2.1 (17 : Int32).toNatClampNeg)) + ((st.1 (16 : Int32).toNatClampNeg) + (st.1 (17 : Int32).toNatClampNeg))) ^^^ ((st.1 (16 : Int32).toNatClampNeg) + (st.1 (17 : Int32).toNatClampNeg))) ||| (st.2.1 (16 : Int32).toNatClampNeg)) ||| (st.2.1 (17 : Int32).toNatClampNeg)) ^^^ (-1))))))), (a2, .inl (cj2, 19, .inr (.inl (vp_updL st.2.1 (18 : Int32).toNatClampNeg ((((((st.2.1 (16 : Int32).toNatClampNeg) + (st.2.1 (17 : Int32).toNatClampNeg)) + ((st.1 (16 : Int32).toNatClampNeg) + (st.1 (17 : Int32).toNatClampNeg))) ^^^ ((st.1 (16 : Int32).toNatClampNeg) + (st.1 (17 : Int32).toNatClampNeg))) ||| (st.2.1 (16 : Int32).toNatClampNeg)) ||| (st.2.1 (17 : Int32).toNatClampNeg)))))), (a3, .inl (cj3, 19, .inr (.inl st.2.2.1))), (a4, .inl (cj4, 19, .inr (.inl st.2.2.2.1))), (a5, .inl (cj5, 19, .inr (.inl (vp_updL st.2.2.2.2.1 (18 : Int32).toNatClampNeg ((st.2.2.2.2.1 (16 : Int32).toNatClampNeg) + (st.2.2.2.2.1 (17 : Int32).toNatClampNeg)))))), (a6, .inl (cj6, 19, .inr (.inl (vp_updL st.2.2.2.2.2 (18 : Int32).toNatClampNeg ((st.2.2.2.2.2 (16 : Int32).toNatClampNeg) + (st.2.2.2.2.2 (17 : Int32).toNatClampNeg))))))]) := hD
        have e9 : f_M_add st = (vp_updL st.1 (18 : Int32).toNatClampNeg (((st.1 (16 : Int32).toNatClampNeg) + (st.1 (17 : Int32).toNatClampNeg)) &&& (((((((st.2.1 (16 : Int32).toNatClampNeg) + (st.2.1 (17 : Int32).toNatClampNeg)) + ((st.1 (16 : Int32).toNatClampNeg) + (st.1 (17 : Int32).toNatClampNeg))) ^^^ ((st.1 (16 : Int32).toNatClampNeg) + (st.1 (17 : Int32).toNatClampNeg))) ||| (st.2.1 (16 : Int32).toNatClampNeg)) ||| (st.2.1 (17 : Int32).toNatClampNeg)) ^^^ (-1))), vp_updL st.2.1 (18 : Int32).toNatClampNeg ((((((st.2.1 (16 : Int32).toNatClampNeg) + (st.2.1 (17 : Int32).toNatClampNeg)) + ((st.1 (16 : Int32).toNatClampNeg) + (st.1 (17 : Int32).toNatClampNeg))) ^^^ ((st.1 (16 : Int32).toNatClampNeg) + (st.1 (17 : Int32).toNatClampNeg))) ||| (st.2.1 (16 : Int32).toNatClampNeg)) ||| (st.2.1 (17 : Int32).toNatClampNeg)), st.2.2.1, st.2.2.2.1, vp_updL st.2.2.2.2.1 (18 : Int32).toNatClampNeg ((st.2.2.2.2.1 (16 : Int32).toNatClampNeg) + (st.2.2.2.2.1 (17 : Int32).toNatClampNeg)), vp_updL st.2.2.2.2.2 (18 : Int32).toNatClampNeg ((st.2.2.2.2.2 (16 : Int32).toNatClampNeg) + (st.2.2.2.2.2 (17 : Int32).toNatClampNeg))) := (if_neg c2).trans ((if_neg c3).trans ((if_pos c4).trans (rfl)))
        rw [e9]
        exact sp_vret C hAe hP hK hD hS dM_add_258
      · refine lv_iconst (v := 1) hx hb dM_add_228 (by decide) ?_
        refine lv_goto (tgt := 233) hx hb dM_add_229 (by decide) ?_
        refine lv_istore (lv' := [(13, .int 1), (11, .long ((st.2.2.2.2.2 (16 : Int32).toNatClampNeg) + (st.2.2.2.2.2 (17 : Int32).toNatClampNeg))), (9, .long ((st.2.2.2.2.1 (16 : Int32).toNatClampNeg) + (st.2.2.2.2.1 (17 : Int32).toNatClampNeg))), (7, .long ((st.2.2.2.1 (16 : Int32).toNatClampNeg) + (st.2.2.2.1 (17 : Int32).toNatClampNeg))), (5, .long ((((((st.2.1 (16 : Int32).toNatClampNeg) + (st.2.1 (17 : Int32).toNatClampNeg)) + ((st.1 (16 : Int32).toNatClampNeg) + (st.1 (17 : Int32).toNatClampNeg))) ^^^ ((st.1 (16 : Int32).toNatClampNeg) + (st.1 (17 : Int32).toNatClampNeg))) ||| (st.2.1 (16 : Int32).toNatClampNeg)) ||| (st.2.1 (17 : Int32).toNatClampNeg))), (3, .long ((st.1 (16 : Int32).toNatClampNeg) + (st.1 (17 : Int32).toNatClampNeg))), (1, .long ((st.2.1 (16 : Int32).toNatClampNeg) + (st.2.1 (17 : Int32).toNatClampNeg))), (0, .ref h0)]) hx hb dM_add_233 hl (by decide) rfl (fun ls hl => ?_)
        refine lv_iload hx hb dM_add_235 (lv_at hl 0 rfl) ?_
        refine lv_if_ne (tgt := 258) hx hb dM_add_237 (by decide) (fun _ => ?_) (fun h9 => absurd h9 (by decide))
        have e9 : f_M_add st = (vp_updL st.1 (18 : Int32).toNatClampNeg (((st.1 (16 : Int32).toNatClampNeg) + (st.1 (17 : Int32).toNatClampNeg)) &&& (((((((st.2.1 (16 : Int32).toNatClampNeg) + (st.2.1 (17 : Int32).toNatClampNeg)) + ((st.1 (16 : Int32).toNatClampNeg) + (st.1 (17 : Int32).toNatClampNeg))) ^^^ ((st.1 (16 : Int32).toNatClampNeg) + (st.1 (17 : Int32).toNatClampNeg))) ||| (st.2.1 (16 : Int32).toNatClampNeg)) ||| (st.2.1 (17 : Int32).toNatClampNeg)) ^^^ (-1))), vp_updL st.2.1 (18 : Int32).toNatClampNeg ((((((st.2.1 (16 : Int32).toNatClampNeg) + (st.2.1 (17 : Int32).toNatClampNeg)) + ((st.1 (16 : Int32).toNatClampNeg) + (st.1 (17 : Int32).toNatClampNeg))) ^^^ ((st.1 (16 : Int32).toNatClampNeg) + (st.1 (17 : Int32).toNatClampNeg))) ||| (st.2.1 (16 : Int32).toNatClampNeg)) ||| (st.2.1 (17 : Int32).toNatClampNeg)), st.2.2.1, st.2.2.2.1, st.2.2.2.2.1, st.2.2.2.2.2) := (if_neg c2).trans ((if_neg c3).trans ((if_neg c4).trans (rfl)))
        rw [e9]
        exact sp_vret C hAe hP hK hD hS dM_add_258
  · refine lv_aload_n hx hb dM_add_111 rfl (lv_at hl 4 rfl) ?_
    refine va_get (D := D) (ci := 4) (v := .ref a3) (C := RM) (T := TM) (N := 7) hx hb hts hi4 hown hK hP 0 rfl rfl 3 (by decide) hk6 (fun _ h9 => h9) rfl dM_add_112 ?_
    refine lv_bipush (v := 18) hx hb dM_add_115 (by decide) ?_
    refine lv_aload_n hx hb dM_add_117 rfl (lv_at hl 4 rfl) ?_
    refine va_get (D := D) (ci := 4) (v := .ref a3) (C := RM) (T := TM) (N := 7) hx hb hts hi4 hown hK hP 0 rfl rfl 3 (by decide) hk6 (fun _ h9 => h9) rfl dM_add_118 ?_
    refine lv_bipush (v := 16) hx hb dM_add_121 (by decide) ?_
    refine va_lald hx hb hK hP 3 2 rfl rfl (vp_in_iff.mpr (by decide)) dM_add_123 ?_
    refine lv_aload_n hx hb dM_add_124 rfl (lv_at hl 4 rfl) ?_
    refine va_get (D := D) (ci := 4) (v := .ref a3) (C := RM) (T := TM) (N := 7) hx hb hts hi4 hown hK hP 0 rfl rfl 3 (by decide) hk6 (fun _ h9 => h9) rfl dM_add_125 ?_
    refine lv_bipush (v := 17) hx hb dM_add_128 (by decide) ?_
    refine va_lald hx hb hK hP 3 2 rfl rfl (vp_in_iff.mpr (by decide)) dM_add_130 ?_
    refine lv_ladd hx hb dM_add_131 ?_
    refine va_last hx hb hK hP hD hS 3 2 rfl rfl (vp_in_iff.mpr (by decide)) dM_add_132 (fun H locs hP hD hS => ?_)
    have hP : va_P D vwCl ([(h0, .inr (4, [.int th, .ref a1, .ref a2, .ref a3, .ref a4, .ref a5, .ref a6])), (a1, .inl (cj1, 19, .inr (.inl (vp_updL st.1 (18 : Int32).toNatClampNeg (((st.1 (16 : Int32).toNatClampNeg) + (st.1 (17 : Int32).toNatClampNeg)) &&& (((((((st.2.1 (16 : Int32).toNatClampNeg) + (st.2.1 (17 : Int32).toNatClampNeg)) + ((st.1 (16 : Int32).toNatClampNeg) + (st.1 (17 : Int32).toNatClampNeg))) ^^^ ((st.1 (16 : Int32).toNatClampNeg) + (st.1 (17 : Int32).toNatClampNeg))) ||| (st.2.1 (16 : Int32).toNatClampNeg)) ||| (st.2.1 (17 : Int32).toNatClampNeg)) ^^^ (-1))))))), (a2, .inl (cj2, 19, .inr (.inl (vp_updL st.2.1 (18 : Int32).toNatClampNeg ((((((st.2.1 (16 : Int32).toNatClampNeg) + (st.2.1 (17 : Int32).toNatClampNeg)) + ((st.1 (16 : Int32).toNatClampNeg) + (st.1 (17 : Int32).toNatClampNeg))) ^^^ ((st.1 (16 : Int32).toNatClampNeg) + (st.1 (17 : Int32).toNatClampNeg))) ||| (st.2.1 (16 : Int32).toNatClampNeg)) ||| (st.2.1 (17 : Int32).toNatClampNeg)))))), (a3, .inl (cj3, 19, .inr (.inl (vp_updL st.2.2.1 (18 : Int32).toNatClampNeg ((st.2.2.1 (16 : Int32).toNatClampNeg) + (st.2.2.1 (17 : Int32).toNatClampNeg)))))), (a4, .inl (cj4, 19, .inr (.inl st.2.2.2.1))), (a5, .inl (cj5, 19, .inr (.inl st.2.2.2.2.1))), (a6, .inl (cj6, 19, .inr (.inl st.2.2.2.2.2)))]) H := hP
    have hD : va_D A ([(h0, .inr (4, [.int th, .ref a1, .ref a2, .ref a3, .ref a4, .ref a5, .ref a6])), (a1, .inl (cj1, 19, .inr (.inl (vp_updL st.1 (18 : Int32).toNatClampNeg (((st.1 (16 : Int32).toNatClampNeg) + (st.1 (17 : Int32).toNatClampNeg)) &&& (((((((st.2.1 (16 : Int32).toNatClampNeg) + (st.2.1 (17 : Int32).toNatClampNeg)) + ((st.1 (16 : Int32).toNatClampNeg) + (st.1 (17 : Int32).toNatClampNeg))) ^^^ ((st.1 (16 : Int32).toNatClampNeg) + (st.1 (17 : Int32).toNatClampNeg))) ||| (st.2.1 (16 : Int32).toNatClampNeg)) ||| (st.2.1 (17 : Int32).toNatClampNeg)) ^^^ (-1))))))), (a2, .inl (cj2, 19, .inr (.inl (vp_updL st.2.1 (18 : Int32).toNatClampNeg ((((((st.2.1 (16 : Int32).toNatClampNeg) + (st.2.1 (17 : Int32).toNatClampNeg)) + ((st.1 (16 : Int32).toNatClampNeg) + (st.1 (17 : Int32).toNatClampNeg))) ^^^ ((st.1 (16 : Int32).toNatClampNeg) + (st.1 (17 : Int32).toNatClampNeg))) ||| (st.2.1 (16 : Int32).toNatClampNeg)) ||| (st.2.1 (17 : Int32).toNatClampNeg)))))), (a3, .inl (cj3, 19, .inr (.inl (vp_updL st.2.2.1 (18 : Int32).toNatClampNeg ((st.2.2.1 (16 : Int32).toNatClampNeg) + (st.2.2.1 (17 : Int32).toNatClampNeg)))))), (a4, .inl (cj4, 19, .inr (.inl st.2.2.2.1))), (a5, .inl (cj5, 19, .inr (.inl st.2.2.2.2.1))), (a6, .inl (cj6, 19, .inr (.inl st.2.2.2.2.2)))]) := hD
    refine lv_aload_n hx hb dM_add_133 rfl (lv_at hl 4 rfl) ?_
    refine va_get (D := D) (ci := 4) (v := .ref a4) (C := RM) (T := TM) (N := 7) hx hb hts hi4 hown hK hP 0 rfl rfl 4 (by decide) hk3 (fun _ h9 => h9) rfl dM_add_134 ?_
    refine lv_bipush (v := 18) hx hb dM_add_137 (by decide) ?_
    refine lv_lload hx hb dM_add_139 (lv_at hl 0 rfl) ?_
    refine va_last hx hb hK hP hD hS 4 3 rfl rfl (vp_in_iff.mpr (by decide)) dM_add_141 (fun H locs hP hD hS => ?_)
    have hP : va_P D vwCl ([(h0, .inr (4, [.int th, .ref a1, .ref a2, .ref a3, .ref a4, .ref a5, .ref a6])), (a1, .inl (cj1, 19, .inr (.inl (vp_updL st.1 (18 : Int32).toNatClampNeg (((st.1 (16 : Int32).toNatClampNeg) + (st.1 (17 : Int32).toNatClampNeg)) &&& (((((((st.2.1 (16 : Int32).toNatClampNeg) + (st.2.1 (17 : Int32).toNatClampNeg)) + ((st.1 (16 : Int32).toNatClampNeg) + (st.1 (17 : Int32).toNatClampNeg))) ^^^ ((st.1 (16 : Int32).toNatClampNeg) + (st.1 (17 : Int32).toNatClampNeg))) ||| (st.2.1 (16 : Int32).toNatClampNeg)) ||| (st.2.1 (17 : Int32).toNatClampNeg)) ^^^ (-1))))))), (a2, .inl (cj2, 19, .inr (.inl (vp_updL st.2.1 (18 : Int32).toNatClampNeg ((((((st.2.1 (16 : Int32).toNatClampNeg) + (st.2.1 (17 : Int32).toNatClampNeg)) + ((st.1 (16 : Int32).toNatClampNeg) + (st.1 (17 : Int32).toNatClampNeg))) ^^^ ((st.1 (16 : Int32).toNatClampNeg) + (st.1 (17 : Int32).toNatClampNeg))) ||| (st.2.1 (16 : Int32).toNatClampNeg)) ||| (st.2.1 (17 : Int32).toNatClampNeg)))))), (a3, .inl (cj3, 19, .inr (.inl (vp_updL st.2.2.1 (18 : Int32).toNatClampNeg ((st.2.2.1 (16 : Int32).toNatClampNeg) + (st.2.2.1 (17 : Int32).toNatClampNeg)))))), (a4, .inl (cj4, 19, .inr (.inl (vp_updL st.2.2.2.1 (18 : Int32).toNatClampNeg ((st.2.2.2.1 (16 : Int32).toNatClampNeg) + (st.2.2.2.1 (17 : Int32).toNatClampNeg)))))), (a5, .inl (cj5, 19, .inr (.inl st.2.2.2.2.1))), (a6, .inl (cj6, 19, .inr (.inl st.2.2.2.2.2)))]) H := hP
    have hD : va_D A ([(h0, .inr (4, [.int th, .ref a1, .ref a2, .ref a3, .ref a4, .ref a5, .ref a6])), (a1, .inl (cj1, 19, .inr (.inl (vp_updL st.1 (18 : Int32).toNatClampNeg (((st.1 (16 : Int32).toNatClampNeg) + (st.1 (17 : Int32).toNatClampNeg)) &&& (((((((st.2.1 (16 : Int32).toNatClampNeg) + (st.2.1 (17 : Int32).toNatClampNeg)) + ((st.1 (16 : Int32).toNatClampNeg) + (st.1 (17 : Int32).toNatClampNeg))) ^^^ ((st.1 (16 : Int32).toNatClampNeg) + (st.1 (17 : Int32).toNatClampNeg))) ||| (st.2.1 (16 : Int32).toNatClampNeg)) ||| (st.2.1 (17 : Int32).toNatClampNeg)) ^^^ (-1))))))), (a2, .inl (cj2, 19, .inr (.inl (vp_updL st.2.1 (18 : Int32).toNatClampNeg ((((((st.2.1 (16 : Int32).toNatClampNeg) + (st.2.1 (17 : Int32).toNatClampNeg)) + ((st.1 (16 : Int32).toNatClampNeg) + (st.1 (17 : Int32).toNatClampNeg))) ^^^ ((st.1 (16 : Int32).toNatClampNeg) + (st.1 (17 : Int32).toNatClampNeg))) ||| (st.2.1 (16 : Int32).toNatClampNeg)) ||| (st.2.1 (17 : Int32).toNatClampNeg)))))), (a3, .inl (cj3, 19, .inr (.inl (vp_updL st.2.2.1 (18 : Int32).toNatClampNeg ((st.2.2.1 (16 : Int32).toNatClampNeg) + (st.2.2.1 (17 : Int32).toNatClampNeg)))))), (a4, .inl (cj4, 19, .inr (.inl (vp_updL st.2.2.2.1 (18 : Int32).toNatClampNeg ((st.2.2.2.1 (16 : Int32).toNatClampNeg) + (st.2.2.2.1 (17 : Int32).toNatClampNeg)))))), (a5, .inl (cj5, 19, .inr (.inl st.2.2.2.2.1))), (a6, .inl (cj6, 19, .inr (.inl st.2.2.2.2.2)))]) := hD
    refine lv_aload_n hx hb dM_add_142 rfl (lv_at hl 4 rfl) ?_
    refine va_get (D := D) (ci := 4) (v := .ref a5) (C := RM) (T := TM) (N := 7) hx hb hts hi4 hown hK hP 0 rfl rfl 5 (by decide) hk4 (fun _ h9 => h9) rfl dM_add_143 ?_
    refine lv_bipush (v := 16) hx hb dM_add_146 (by decide) ?_
    refine va_lald hx hb hK hP 5 4 rfl rfl (vp_in_iff.mpr (by decide)) dM_add_148 ?_
    refine lv_aload_n hx hb dM_add_149 rfl (lv_at hl 4 rfl) ?_
    refine va_get (D := D) (ci := 4) (v := .ref a5) (C := RM) (T := TM) (N := 7) hx hb hts hi4 hown hK hP 0 rfl rfl 5 (by decide) hk4 (fun _ h9 => h9) rfl dM_add_150 ?_
    refine lv_bipush (v := 17) hx hb dM_add_153 (by decide) ?_
    refine va_lald hx hb hK hP 5 4 rfl rfl (vp_in_iff.mpr (by decide)) dM_add_155 ?_
    refine lv_ladd hx hb dM_add_156 ?_
    refine lv_lstore (lv' := [(9, .long ((st.2.2.2.2.1 (16 : Int32).toNatClampNeg) + (st.2.2.2.2.1 (17 : Int32).toNatClampNeg))), (7, .long ((st.2.2.2.1 (16 : Int32).toNatClampNeg) + (st.2.2.2.1 (17 : Int32).toNatClampNeg))), (5, .long ((((((st.2.1 (16 : Int32).toNatClampNeg) + (st.2.1 (17 : Int32).toNatClampNeg)) + ((st.1 (16 : Int32).toNatClampNeg) + (st.1 (17 : Int32).toNatClampNeg))) ^^^ ((st.1 (16 : Int32).toNatClampNeg) + (st.1 (17 : Int32).toNatClampNeg))) ||| (st.2.1 (16 : Int32).toNatClampNeg)) ||| (st.2.1 (17 : Int32).toNatClampNeg))), (3, .long ((st.1 (16 : Int32).toNatClampNeg) + (st.1 (17 : Int32).toNatClampNeg))), (1, .long ((st.2.1 (16 : Int32).toNatClampNeg) + (st.2.1 (17 : Int32).toNatClampNeg))), (0, .ref h0)]) hx hb dM_add_157 hl (by decide) rfl (fun ls hl => ?_)
    refine lv_aload_n hx hb dM_add_159 rfl (lv_at hl 5 rfl) ?_
    refine va_get (D := D) (ci := 4) (v := .ref a6) (C := RM) (T := TM) (N := 7) hx hb hts hi4 hown hK hP 0 rfl rfl 6 (by decide) hk5 (fun _ h9 => h9) rfl dM_add_160 ?_
    refine lv_bipush (v := 16) hx hb dM_add_163 (by decide) ?_
    refine va_lald hx hb hK hP 6 5 rfl rfl (vp_in_iff.mpr (by decide)) dM_add_165 ?_
    refine lv_aload_n hx hb dM_add_166 rfl (lv_at hl 5 rfl) ?_
    refine va_get (D := D) (ci := 4) (v := .ref a6) (C := RM) (T := TM) (N := 7) hx hb hts hi4 hown hK hP 0 rfl rfl 6 (by decide) hk5 (fun _ h9 => h9) rfl dM_add_167 ?_
    refine lv_bipush (v := 17) hx hb dM_add_170 (by decide) ?_
    refine va_lald hx hb hK hP 6 5 rfl rfl (vp_in_iff.mpr (by decide)) dM_add_172 ?_
    refine lv_ladd hx hb dM_add_173 ?_
    refine lv_lstore (lv' := [(11, .long ((st.2.2.2.2.2 (16 : Int32).toNatClampNeg) + (st.2.2.2.2.2 (17 : Int32).toNatClampNeg))), (9, .long ((st.2.2.2.2.1 (16 : Int32).toNatClampNeg) + (st.2.2.2.2.1 (17 : Int32).toNatClampNeg))), (7, .long ((st.2.2.2.1 (16 : Int32).toNatClampNeg) + (st.2.2.2.1 (17 : Int32).toNatClampNeg))), (5, .long ((((((st.2.1 (16 : Int32).toNatClampNeg) + (st.2.1 (17 : Int32).toNatClampNeg)) + ((st.1 (16 : Int32).toNatClampNeg) + (st.1 (17 : Int32).toNatClampNeg))) ^^^ ((st.1 (16 : Int32).toNatClampNeg) + (st.1 (17 : Int32).toNatClampNeg))) ||| (st.2.1 (16 : Int32).toNatClampNeg)) ||| (st.2.1 (17 : Int32).toNatClampNeg))), (3, .long ((st.1 (16 : Int32).toNatClampNeg) + (st.1 (17 : Int32).toNatClampNeg))), (1, .long ((st.2.1 (16 : Int32).toNatClampNeg) + (st.2.1 (17 : Int32).toNatClampNeg))), (0, .ref h0)]) hx hb dM_add_174 hl (by decide) rfl (fun ls hl => ?_)
    refine lv_aload_n hx hb dM_add_176 rfl (lv_at hl 6 rfl) ?_
    refine va_get (D := D) (ci := 4) (v := .ref a5) (C := RM) (T := TM) (N := 7) hx hb hts hi4 hown hK hP 0 rfl rfl 5 (by decide) hk4 (fun _ h9 => h9) rfl dM_add_177 ?_
    refine lv_bipush (v := 16) hx hb dM_add_180 (by decide) ?_
    refine va_lald hx hb hK hP 5 4 rfl rfl (vp_in_iff.mpr (by decide)) dM_add_182 ?_
    refine lv_lload hx hb dM_add_183 (lv_at hl 1 rfl) ?_
    refine lv_lxor hx hb dM_add_185 ?_
    refine lv_aload_n hx hb dM_add_186 rfl (lv_at hl 6 rfl) ?_
    refine va_get (D := D) (ci := 4) (v := .ref a5) (C := RM) (T := TM) (N := 7) hx hb hts hi4 hown hK hP 0 rfl rfl 5 (by decide) hk4 (fun _ h9 => h9) rfl dM_add_187 ?_
    refine lv_bipush (v := 17) hx hb dM_add_190 (by decide) ?_
    refine va_lald hx hb hK hP 5 4 rfl rfl (vp_in_iff.mpr (by decide)) dM_add_192 ?_
    refine lv_lload hx hb dM_add_193 (lv_at hl 1 rfl) ?_
    refine lv_lxor hx hb dM_add_195 ?_
    refine lv_land hx hb dM_add_196 ?_
    refine lv_lconst (v := 0) hx hb dM_add_197 (by decide) ?_
    refine W.lcmp hx hb dM_add_198 ?_
    refine lv_if_lt (tgt := 228) hx hb dM_add_199 (by decide) (fun c5 => ?_) (fun c5 => ?_)
    · refine lv_iconst (v := 1) hx hb dM_add_228 (by decide) ?_
      refine lv_goto (tgt := 233) hx hb dM_add_229 (by decide) ?_
      refine lv_istore (lv' := [(13, .int 1), (11, .long ((st.2.2.2.2.2 (16 : Int32).toNatClampNeg) + (st.2.2.2.2.2 (17 : Int32).toNatClampNeg))), (9, .long ((st.2.2.2.2.1 (16 : Int32).toNatClampNeg) + (st.2.2.2.2.1 (17 : Int32).toNatClampNeg))), (7, .long ((st.2.2.2.1 (16 : Int32).toNatClampNeg) + (st.2.2.2.1 (17 : Int32).toNatClampNeg))), (5, .long ((((((st.2.1 (16 : Int32).toNatClampNeg) + (st.2.1 (17 : Int32).toNatClampNeg)) + ((st.1 (16 : Int32).toNatClampNeg) + (st.1 (17 : Int32).toNatClampNeg))) ^^^ ((st.1 (16 : Int32).toNatClampNeg) + (st.1 (17 : Int32).toNatClampNeg))) ||| (st.2.1 (16 : Int32).toNatClampNeg)) ||| (st.2.1 (17 : Int32).toNatClampNeg))), (3, .long ((st.1 (16 : Int32).toNatClampNeg) + (st.1 (17 : Int32).toNatClampNeg))), (1, .long ((st.2.1 (16 : Int32).toNatClampNeg) + (st.2.1 (17 : Int32).toNatClampNeg))), (0, .ref h0)]) hx hb dM_add_233 hl (by decide) rfl (fun ls hl => ?_)
      refine lv_iload hx hb dM_add_235 (lv_at hl 0 rfl) ?_
      refine lv_if_ne (tgt := 258) hx hb dM_add_237 (by decide) (fun _ => ?_) (fun h9 => absurd h9 (by decide))
      have e9 : f_M_add st = (vp_updL st.1 (18 : Int32).toNatClampNeg (((st.1 (16 : Int32).toNatClampNeg) + (st.1 (17 : Int32).toNatClampNeg)) &&& (((((((st.2.1 (16 : Int32).toNatClampNeg) + (st.2.1 (17 : Int32).toNatClampNeg)) + ((st.1 (16 : Int32).toNatClampNeg) + (st.1 (17 : Int32).toNatClampNeg))) ^^^ ((st.1 (16 : Int32).toNatClampNeg) + (st.1 (17 : Int32).toNatClampNeg))) ||| (st.2.1 (16 : Int32).toNatClampNeg)) ||| (st.2.1 (17 : Int32).toNatClampNeg)) ^^^ (-1))), vp_updL st.2.1 (18 : Int32).toNatClampNeg ((((((st.2.1 (16 : Int32).toNatClampNeg) + (st.2.1 (17 : Int32).toNatClampNeg)) + ((st.1 (16 : Int32).toNatClampNeg) + (st.1 (17 : Int32).toNatClampNeg))) ^^^ ((st.1 (16 : Int32).toNatClampNeg) + (st.1 (17 : Int32).toNatClampNeg))) ||| (st.2.1 (16 : Int32).toNatClampNeg)) ||| (st.2.1 (17 : Int32).toNatClampNeg)), vp_updL st.2.2.1 (18 : Int32).toNatClampNeg ((st.2.2.1 (16 : Int32).toNatClampNeg) + (st.2.2.1 (17 : Int32).toNatClampNeg)), vp_updL st.2.2.2.1 (18 : Int32).toNatClampNeg ((st.2.2.2.1 (16 : Int32).toNatClampNeg) + (st.2.2.2.1 (17 : Int32).toNatClampNeg)), st.2.2.2.2.1, st.2.2.2.2.2) := (if_pos c2).trans ((if_pos c5).trans (rfl))
      rw [e9]
      exact sp_vret C hAe hP hK hD hS dM_add_258
    · refine lv_aload_n hx hb dM_add_202 rfl (lv_at hl 6 rfl) ?_
      refine va_get (D := D) (ci := 4) (v := .ref a6) (C := RM) (T := TM) (N := 7) hx hb hts hi4 hown hK hP 0 rfl rfl 6 (by decide) hk5 (fun _ h9 => h9) rfl dM_add_203 ?_
      refine lv_bipush (v := 16) hx hb dM_add_206 (by decide) ?_
      refine va_lald hx hb hK hP 6 5 rfl rfl (vp_in_iff.mpr (by decide)) dM_add_208 ?_
      refine lv_lload hx hb dM_add_209 (lv_at hl 0 rfl) ?_
      refine lv_lxor hx hb dM_add_211 ?_
      refine lv_aload_n hx hb dM_add_212 rfl (lv_at hl 6 rfl) ?_
      refine va_get (D := D) (ci := 4) (v := .ref a6) (C := RM) (T := TM) (N := 7) hx hb hts hi4 hown hK hP 0 rfl rfl 6 (by decide) hk5 (fun _ h9 => h9) rfl dM_add_213 ?_
      refine lv_bipush (v := 17) hx hb dM_add_216 (by decide) ?_
      refine va_lald hx hb hK hP 6 5 rfl rfl (vp_in_iff.mpr (by decide)) dM_add_218 ?_
      refine lv_lload hx hb dM_add_219 (lv_at hl 0 rfl) ?_
      refine lv_lxor hx hb dM_add_221 ?_
      refine lv_land hx hb dM_add_222 ?_
      refine lv_lconst (v := 0) hx hb dM_add_223 (by decide) ?_
      refine W.lcmp hx hb dM_add_224 ?_
      refine lv_if_ge (tgt := 232) hx hb dM_add_225 (by decide) (fun c6 => ?_) (fun c6 => ?_)
      · refine lv_iconst (v := 0) hx hb dM_add_232 (by decide) ?_
        refine lv_istore (lv' := [(13, .int 0), (11, .long ((st.2.2.2.2.2 (16 : Int32).toNatClampNeg) + (st.2.2.2.2.2 (17 : Int32).toNatClampNeg))), (9, .long ((st.2.2.2.2.1 (16 : Int32).toNatClampNeg) + (st.2.2.2.2.1 (17 : Int32).toNatClampNeg))), (7, .long ((st.2.2.2.1 (16 : Int32).toNatClampNeg) + (st.2.2.2.1 (17 : Int32).toNatClampNeg))), (5, .long ((((((st.2.1 (16 : Int32).toNatClampNeg) + (st.2.1 (17 : Int32).toNatClampNeg)) + ((st.1 (16 : Int32).toNatClampNeg) + (st.1 (17 : Int32).toNatClampNeg))) ^^^ ((st.1 (16 : Int32).toNatClampNeg) + (st.1 (17 : Int32).toNatClampNeg))) ||| (st.2.1 (16 : Int32).toNatClampNeg)) ||| (st.2.1 (17 : Int32).toNatClampNeg))), (3, .long ((st.1 (16 : Int32).toNatClampNeg) + (st.1 (17 : Int32).toNatClampNeg))), (1, .long ((st.2.1 (16 : Int32).toNatClampNeg) + (st.2.1 (17 : Int32).toNatClampNeg))), (0, .ref h0)]) hx hb dM_add_233 hl (by decide) rfl (fun ls hl => ?_)
        refine lv_iload hx hb dM_add_235 (lv_at hl 0 rfl) ?_
        refine lv_if_ne (tgt := 258) hx hb dM_add_237 (by decide) (fun h9 => absurd h9 (by decide)) (fun _ => ?_)
        refine lv_aload_n hx hb dM_add_240 rfl (lv_at hl 7 rfl) ?_
        refine va_get (D := D) (ci := 4) (v := .ref a5) (C := RM) (T := TM) (N := 7) hx hb hts hi4 hown hK hP 0 rfl rfl 5 (by decide) hk4 (fun _ h9 => h9) rfl dM_add_241 ?_
        refine lv_bipush (v := 18) hx hb dM_add_244 (by decide) ?_
        refine lv_lload hx hb dM_add_246 (lv_at hl 2 rfl) ?_
        refine va_last hx hb hK hP hD hS 5 4 rfl rfl (vp_in_iff.mpr (by decide)) dM_add_248 (fun H locs hP hD hS => ?_)
        have hP : va_P D vwCl ([(h0, .inr (4, [.int th, .ref a1, .ref a2, .ref a3, .ref a4, .ref a5, .ref a6])), (a1, .inl (cj1, 19, .inr (.inl (vp_updL st.1 (18 : Int32).toNatClampNeg (((st.1 (16 : Int32).toNatClampNeg) + (st.1 (17 : Int32).toNatClampNeg)) &&& (((((((st.2.1 (16 : Int32).toNatClampNeg) + (st.2.1 (17 : Int32).toNatClampNeg)) + ((st.1 (16 : Int32).toNatClampNeg) + (st.1 (17 : Int32).toNatClampNeg))) ^^^ ((st.1 (16 : Int32).toNatClampNeg) + (st.1 (17 : Int32).toNatClampNeg))) ||| (st.2.1 (16 : Int32).toNatClampNeg)) ||| (st.2.1 (17 : Int32).toNatClampNeg)) ^^^ (-1))))))), (a2, .inl (cj2, 19, .inr (.inl (vp_updL st.2.1 (18 : Int32).toNatClampNeg ((((((st.2.1 (16 : Int32).toNatClampNeg) + (st.2.1 (17 : Int32).toNatClampNeg)) + ((st.1 (16 : Int32).toNatClampNeg) + (st.1 (17 : Int32).toNatClampNeg))) ^^^ ((st.1 (16 : Int32).toNatClampNeg) + (st.1 (17 : Int32).toNatClampNeg))) ||| (st.2.1 (16 : Int32).toNatClampNeg)) ||| (st.2.1 (17 : Int32).toNatClampNeg)))))), (a3, .inl (cj3, 19, .inr (.inl (vp_updL st.2.2.1 (18 : Int32).toNatClampNeg ((st.2.2.1 (16 : Int32).toNatClampNeg) + (st.2.2.1 (17 : Int32).toNatClampNeg)))))), (a4, .inl (cj4, 19, .inr (.inl (vp_updL st.2.2.2.1 (18 : Int32).toNatClampNeg ((st.2.2.2.1 (16 : Int32).toNatClampNeg) + (st.2.2.2.1 (17 : Int32).toNatClampNeg)))))), (a5, .inl (cj5, 19, .inr (.inl (vp_updL st.2.2.2.2.1 (18 : Int32).toNatClampNeg ((st.2.2.2.2.1 (16 : Int32).toNatClampNeg) + (st.2.2.2.2.1 (17 : Int32).toNatClampNeg)))))), (a6, .inl (cj6, 19, .inr (.inl st.2.2.2.2.2)))]) H := hP
        have hD : va_D A ([(h0, .inr (4, [.int th, .ref a1, .ref a2, .ref a3, .ref a4, .ref a5, .ref a6])), (a1, .inl (cj1, 19, .inr (.inl (vp_updL st.1 (18 : Int32).toNatClampNeg (((st.1 (16 : Int32).toNatClampNeg) + (st.1 (17 : Int32).toNatClampNeg)) &&& (((((((st.2.1 (16 : Int32).toNatClampNeg) + (st.2.1 (17 : Int32).toNatClampNeg)) + ((st.1 (16 : Int32).toNatClampNeg) + (st.1 (17 : Int32).toNatClampNeg))) ^^^ ((st.1 (16 : Int32).toNatClampNeg) + (st.1 (17 : Int32).toNatClampNeg))) ||| (st.2.1 (16 : Int32).toNatClampNeg)) ||| (st.2.1 (17 : Int32).toNatClampNeg)) ^^^ (-1))))))), (a2, .inl (cj2, 19, .inr (.inl (vp_updL st.2.1 (18 : Int32).toNatClampNeg ((((((st.2.1 (16 : Int32).toNatClampNeg) + (st.2.1 (17 : Int32).toNatClampNeg)) + ((st.1 (16 : Int32).toNatClampNeg) + (st.1 (17 : Int32).toNatClampNeg))) ^^^ ((st.1 (16 : Int32).toNatClampNeg) + (st.1 (17 : Int32).toNatClampNeg))) ||| (st.2.1 (16 : Int32).toNatClampNeg)) ||| (st.2.1 (17 : Int32).toNatClampNeg)))))), (a3, .inl (cj3, 19, .inr (.inl (vp_updL st.2.2.1 (18 : Int32).toNatClampNeg ((st.2.2.1 (16 : Int32).toNatClampNeg) + (st.2.2.1 (17 : Int32).toNatClampNeg)))))), (a4, .inl (cj4, 19, .inr (.inl (vp_updL st.2.2.2.1 (18 : Int32).toNatClampNeg ((st.2.2.2.1 (16 : Int32).toNatClampNeg) + (st.2.2.2.1 (17 : Int32).toNatClampNeg)))))), (a5, .inl (cj5, 19, .inr (.inl (vp_updL st.2.2.2.2.1 (18 : Int32).toNatClampNeg ((st.2.2.2.2.1 (16 : Int32).toNatClampNeg) + (st.2.2.2.2.1 (17 : Int32).toNatClampNeg)))))), (a6, .inl (cj6, 19, .inr (.inl st.2.2.2.2.2)))]) := hD
        refine lv_aload_n hx hb dM_add_249 rfl (lv_at hl 7 rfl) ?_
        refine va_get (D := D) (ci := 4) (v := .ref a6) (C := RM) (T := TM) (N := 7) hx hb hts hi4 hown hK hP 0 rfl rfl 6 (by decide) hk5 (fun _ h9 => h9) rfl dM_add_250 ?_
        refine lv_bipush (v := 18) hx hb dM_add_253 (by decide) ?_
        refine lv_lload hx hb dM_add_255 (lv_at hl 1 rfl) ?_
        refine va_last hx hb hK hP hD hS 6 5 rfl rfl (vp_in_iff.mpr (by decide)) dM_add_257 (fun H locs hP hD hS => ?_)
        have hP : va_P D vwCl ([(h0, .inr (4, [.int th, .ref a1, .ref a2, .ref a3, .ref a4, .ref a5, .ref a6])), (a1, .inl (cj1, 19, .inr (.inl (vp_updL st.1 (18 : Int32).toNatClampNeg (((st.1 (16 : Int32).toNatClampNeg) + (st.1 (17 : Int32).toNatClampNeg)) &&& (((((((st.2.1 (16 : Int32).toNatClampNeg) + (st.2.1 (17 : Int32).toNatClampNeg)) + ((st.1 (16 : Int32).toNatClampNeg) + (st.1 (17 : Int32).toNatClampNeg))) ^^^ ((st.1 (16 : Int32).toNatClampNeg) + (st.1 (17 : Int32).toNatClampNeg))) ||| (st.2.1 (16 : Int32).toNatClampNeg)) ||| (st.2.1 (17 : Int32).toNatClampNeg)) ^^^ (-1))))))), (a2, .inl (cj2, 19, .inr (.inl (vp_updL st.2.1 (18 : Int32).toNatClampNeg ((((((st.2.1 (16 : Int32).toNatClampNeg) + (st.2.1 (17 : Int32).toNatClampNeg)) + ((st.1 (16 : Int32).toNatClampNeg) + (st.1 (17 : Int32).toNatClampNeg))) ^^^ ((st.1 (16 : Int32).toNatClampNeg) + (st.1 (17 : Int32).toNatClampNeg))) ||| (st.2.1 (16 : Int32).toNatClampNeg)) ||| (st.2.1 (17 : Int32).toNatClampNeg)))))), (a3, .inl (cj3, 19, .inr (.inl (vp_updL st.2.2.1 (18 : Int32).toNatClampNeg ((st.2.2.1 (16 : Int32).toNatClampNeg) + (st.2.2.1 (17 : Int32).toNatClampNeg)))))), (a4, .inl (cj4, 19, .inr (.inl (vp_updL st.2.2.2.1 (18 : Int32).toNatClampNeg ((st.2.2.2.1 (16 : Int32).toNatClampNeg) + (st.2.2.2.1 (17 : Int32).toNatClampNeg)))))), (a5, .inl (cj5, 19, .inr (.inl (vp_updL st.2.2.2.2.1 (18 : Int32).toNatClampNeg ((st.2.2.2.2.1 (16 : Int32).toNatClampNeg) + (st.2.2.2.2.1 (17 : Int32).toNatClampNeg)))))), (a6, .inl (cj6, 19, .inr (.inl (vp_updL st.2.2.2.2.2 (18 : Int32).toNatClampNeg ((st.2.2.2.2.2 (16 : Int32).toNatClampNeg) + (st.2.2.2.2.2 (17 : Int32).toNatClampNeg))))))]) H := hP
        have hD : va_D A ([(h0, .inr (4, [.int th, .ref a1, .ref a2, .ref a3, .ref a4, .ref a5, .ref a6])), (a1, .inl (cj1, 19, .inr (.inl (vp_updL st.1 (18 : Int32).toNatClampNeg (((st.1 (16 : Int32).toNatClampNeg) + (st.1 (17 : Int32).toNatClampNeg)) &&& (((((((st.2.1 (16 : Int32).toNatClampNeg) + (st.2.1 (17 : Int32).toNatClampNeg)) + ((st.1 (16 : Int32).toNatClampNeg) + (st.1 (17 : Int32).toNatClampNeg))) ^^^ ((st.1 (16 : Int32).toNatClampNeg) + (st.1 (17 : Int32).toNatClampNeg))) ||| (st.2.1 (16 : Int32).toNatClampNeg)) ||| (st.2.1 (17 : Int32).toNatClampNeg)) ^^^ (-1))))))), (a2, .inl (cj2, 19, .inr (.inl (vp_updL st.2.1 (18 : Int32).toNatClampNeg ((((((st.2.1 (16 : Int32).toNatClampNeg) + (st.2.1 (17 : Int32).toNatClampNeg)) + ((st.1 (16 : Int32).toNatClampNeg) + (st.1 (17 : Int32).toNatClampNeg))) ^^^ ((st.1 (16 : Int32).toNatClampNeg) + (st.1 (17 : Int32).toNatClampNeg))) ||| (st.2.1 (16 : Int32).toNatClampNeg)) ||| (st.2.1 (17 : Int32).toNatClampNeg)))))), (a3, .inl (cj3, 19, .inr (.inl (vp_updL st.2.2.1 (18 : Int32).toNatClampNeg ((st.2.2.1 (16 : Int32).toNatClampNeg) + (st.2.2.1 (17 : Int32).toNatClampNeg)))))), (a4, .inl (cj4, 19, .inr (.inl (vp_updL st.2.2.2.1 (18 : Int32).toNatClampNeg ((st.2.2.2.1 (16 : Int32).toNatClampNeg) + (st.2.2.2.1 (17 : Int32).toNatClampNeg)))))), (a5, .inl (cj5, 19, .inr (.inl (vp_updL st.2.2.2.2.1 (18 : Int32).toNatClampNeg ((st.2.2.2.2.1 (16 : Int32).toNatClampNeg) + (st.2.2.2.2.1 (17 : Int32).toNatClampNeg)))))), (a6, .inl (cj6, 19, .inr (.inl (vp_updL st.2.2.2.2.2 (18 : Int32).toNatClampNeg ((st.2.2.2.2.2 (16 : Int32).toNatClampNeg) + (st.2.2.2.2.2 (17 : Int32).toNatClampNeg))))))]) := hD
        have e9 : f_M_add st = (vp_updL st.1 (18 : Int32).toNatClampNeg (((st.1 (16 : Int32).toNatClampNeg) + (st.1 (17 : Int32).toNatClampNeg)) &&& (((((((st.2.1 (16 : Int32).toNatClampNeg) + (st.2.1 (17 : Int32).toNatClampNeg)) + ((st.1 (16 : Int32).toNatClampNeg) + (st.1 (17 : Int32).toNatClampNeg))) ^^^ ((st.1 (16 : Int32).toNatClampNeg) + (st.1 (17 : Int32).toNatClampNeg))) ||| (st.2.1 (16 : Int32).toNatClampNeg)) ||| (st.2.1 (17 : Int32).toNatClampNeg)) ^^^ (-1))), vp_updL st.2.1 (18 : Int32).toNatClampNeg ((((((st.2.1 (16 : Int32).toNatClampNeg) + (st.2.1 (17 : Int32).toNatClampNeg)) + ((st.1 (16 : Int32).toNatClampNeg) + (st.1 (17 : Int32).toNatClampNeg))) ^^^ ((st.1 (16 : Int32).toNatClampNeg) + (st.1 (17 : Int32).toNatClampNeg))) ||| (st.2.1 (16 : Int32).toNatClampNeg)) ||| (st.2.1 (17 : Int32).toNatClampNeg)), vp_updL st.2.2.1 (18 : Int32).toNatClampNeg ((st.2.2.1 (16 : Int32).toNatClampNeg) + (st.2.2.1 (17 : Int32).toNatClampNeg)), vp_updL st.2.2.2.1 (18 : Int32).toNatClampNeg ((st.2.2.2.1 (16 : Int32).toNatClampNeg) + (st.2.2.2.1 (17 : Int32).toNatClampNeg)), vp_updL st.2.2.2.2.1 (18 : Int32).toNatClampNeg ((st.2.2.2.2.1 (16 : Int32).toNatClampNeg) + (st.2.2.2.2.1 (17 : Int32).toNatClampNeg)), vp_updL st.2.2.2.2.2 (18 : Int32).toNatClampNeg ((st.2.2.2.2.2 (16 : Int32).toNatClampNeg) + (st.2.2.2.2.2 (17 : Int32).toNatClampNeg))) := (if_pos c2).trans ((if_neg c5).trans ((if_pos c6).trans (rfl)))
        rw [e9]
        exact sp_vret C hAe hP hK hD hS dM_add_258
      · refine lv_iconst (v := 1) hx hb dM_add_228 (by decide) ?_
        refine lv_goto (tgt := 233) hx hb dM_add_229 (by decide) ?_
        refine lv_istore (lv' := [(13, .int 1), (11, .long ((st.2.2.2.2.2 (16 : Int32).toNatClampNeg) + (st.2.2.2.2.2 (17 : Int32).toNatClampNeg))), (9, .long ((st.2.2.2.2.1 (16 : Int32).toNatClampNeg) + (st.2.2.2.2.1 (17 : Int32).toNatClampNeg))), (7, .long ((st.2.2.2.1 (16 : Int32).toNatClampNeg) + (st.2.2.2.1 (17 : Int32).toNatClampNeg))), (5, .long ((((((st.2.1 (16 : Int32).toNatClampNeg) + (st.2.1 (17 : Int32).toNatClampNeg)) + ((st.1 (16 : Int32).toNatClampNeg) + (st.1 (17 : Int32).toNatClampNeg))) ^^^ ((st.1 (16 : Int32).toNatClampNeg) + (st.1 (17 : Int32).toNatClampNeg))) ||| (st.2.1 (16 : Int32).toNatClampNeg)) ||| (st.2.1 (17 : Int32).toNatClampNeg))), (3, .long ((st.1 (16 : Int32).toNatClampNeg) + (st.1 (17 : Int32).toNatClampNeg))), (1, .long ((st.2.1 (16 : Int32).toNatClampNeg) + (st.2.1 (17 : Int32).toNatClampNeg))), (0, .ref h0)]) hx hb dM_add_233 hl (by decide) rfl (fun ls hl => ?_)
        refine lv_iload hx hb dM_add_235 (lv_at hl 0 rfl) ?_
        refine lv_if_ne (tgt := 258) hx hb dM_add_237 (by decide) (fun _ => ?_) (fun h9 => absurd h9 (by decide))
        have e9 : f_M_add st = (vp_updL st.1 (18 : Int32).toNatClampNeg (((st.1 (16 : Int32).toNatClampNeg) + (st.1 (17 : Int32).toNatClampNeg)) &&& (((((((st.2.1 (16 : Int32).toNatClampNeg) + (st.2.1 (17 : Int32).toNatClampNeg)) + ((st.1 (16 : Int32).toNatClampNeg) + (st.1 (17 : Int32).toNatClampNeg))) ^^^ ((st.1 (16 : Int32).toNatClampNeg) + (st.1 (17 : Int32).toNatClampNeg))) ||| (st.2.1 (16 : Int32).toNatClampNeg)) ||| (st.2.1 (17 : Int32).toNatClampNeg)) ^^^ (-1))), vp_updL st.2.1 (18 : Int32).toNatClampNeg ((((((st.2.1 (16 : Int32).toNatClampNeg) + (st.2.1 (17 : Int32).toNatClampNeg)) + ((st.1 (16 : Int32).toNatClampNeg) + (st.1 (17 : Int32).toNatClampNeg))) ^^^ ((st.1 (16 : Int32).toNatClampNeg) + (st.1 (17 : Int32).toNatClampNeg))) ||| (st.2.1 (16 : Int32).toNatClampNeg)) ||| (st.2.1 (17 : Int32).toNatClampNeg)), vp_updL st.2.2.1 (18 : Int32).toNatClampNeg ((st.2.2.1 (16 : Int32).toNatClampNeg) + (st.2.2.1 (17 : Int32).toNatClampNeg)), vp_updL st.2.2.2.1 (18 : Int32).toNatClampNeg ((st.2.2.2.1 (16 : Int32).toNatClampNeg) + (st.2.2.2.1 (17 : Int32).toNatClampNeg)), st.2.2.2.2.1, st.2.2.2.2.2) := (if_pos c2).trans ((if_neg c5).trans ((if_neg c6).trans (rfl)))
        rw [e9]
        exact sp_vret C hAe hP hK hD hS dM_add_258
def f_M_subtract (st : Md) : Md :=
  if (f_M_below (st.2.2.1 (16 : Int32).toNatClampNeg) (st.2.2.2.1 (17 : Int32).toNatClampNeg)) = 0 then (if (lg_cmp (((st.2.2.2.2.1 (16 : Int32).toNatClampNeg) ^^^ (st.2.2.2.2.2 (17 : Int32).toNatClampNeg)) &&& ((st.2.2.2.2.1 (16 : Int32).toNatClampNeg) ^^^ ((st.2.2.2.2.1 (16 : Int32).toNatClampNeg) - (st.2.2.2.2.2 (17 : Int32).toNatClampNeg)))) 0) < 0 then (vp_updL st.1 (18 : Int32).toNatClampNeg (((st.1 (16 : Int32).toNatClampNeg) - (st.1 (17 : Int32).toNatClampNeg)) &&& (((((((st.1 (16 : Int32).toNatClampNeg) - (st.1 (17 : Int32).toNatClampNeg)) + (st.2.1 (16 : Int32).toNatClampNeg)) ^^^ (((st.1 (16 : Int32).toNatClampNeg) - (st.1 (17 : Int32).toNatClampNeg)) - (st.2.1 (17 : Int32).toNatClampNeg))) ||| (st.2.1 (16 : Int32).toNatClampNeg)) ||| (st.2.1 (17 : Int32).toNatClampNeg)) ^^^ (-1))), vp_updL st.2.1 (18 : Int32).toNatClampNeg ((((((st.1 (16 : Int32).toNatClampNeg) - (st.1 (17 : Int32).toNatClampNeg)) + (st.2.1 (16 : Int32).toNatClampNeg)) ^^^ (((st.1 (16 : Int32).toNatClampNeg) - (st.1 (17 : Int32).toNatClampNeg)) - (st.2.1 (17 : Int32).toNatClampNeg))) ||| (st.2.1 (16 : Int32).toNatClampNeg)) ||| (st.2.1 (17 : Int32).toNatClampNeg)), vp_updL st.2.2.1 (18 : Int32).toNatClampNeg ((st.2.2.1 (16 : Int32).toNatClampNeg) - (st.2.2.2.1 (17 : Int32).toNatClampNeg)), vp_updL st.2.2.2.1 (18 : Int32).toNatClampNeg ((st.2.2.2.1 (16 : Int32).toNatClampNeg) - ((vp_updL st.2.2.1 (18 : Int32).toNatClampNeg ((st.2.2.1 (16 : Int32).toNatClampNeg) - (st.2.2.2.1 (17 : Int32).toNatClampNeg))) (17 : Int32).toNatClampNeg)), st.2.2.2.2.1, st.2.2.2.2.2)
    else if 0 ≤ (lg_cmp (((st.2.2.2.2.2 (16 : Int32).toNatClampNeg) ^^^ (st.2.2.2.2.1 (17 : Int32).toNatClampNeg)) &&& ((st.2.2.2.2.2 (16 : Int32).toNatClampNeg) ^^^ ((st.2.2.2.2.2 (16 : Int32).toNatClampNeg) - (st.2.2.2.2.1 (17 : Int32).toNatClampNeg)))) 0) then (vp_updL st.1 (18 : Int32).toNatClampNeg (((st.1 (16 : Int32).toNatClampNeg) - (st.1 (17 : Int32).toNatClampNeg)) &&& (((((((st.1 (16 : Int32).toNatClampNeg) - (st.1 (17 : Int32).toNatClampNeg)) + (st.2.1 (16 : Int32).toNatClampNeg)) ^^^ (((st.1 (16 : Int32).toNatClampNeg) - (st.1 (17 : Int32).toNatClampNeg)) - (st.2.1 (17 : Int32).toNatClampNeg))) ||| (st.2.1 (16 : Int32).toNatClampNeg)) ||| (st.2.1 (17 : Int32).toNatClampNeg)) ^^^ (-1))), vp_updL st.2.1 (18 : Int32).toNatClampNeg ((((((st.1 (16 : Int32).toNatClampNeg) - (st.1 (17 : Int32).toNatClampNeg)) + (st.2.1 (16 : Int32).toNatClampNeg)) ^^^ (((st.1 (16 : Int32).toNatClampNeg) - (st.1 (17 : Int32).toNatClampNeg)) - (st.2.1 (17 : Int32).toNatClampNeg))) ||| (st.2.1 (16 : Int32).toNatClampNeg)) ||| (st.2.1 (17 : Int32).toNatClampNeg)), vp_updL st.2.2.1 (18 : Int32).toNatClampNeg ((st.2.2.1 (16 : Int32).toNatClampNeg) - (st.2.2.2.1 (17 : Int32).toNatClampNeg)), vp_updL st.2.2.2.1 (18 : Int32).toNatClampNeg ((st.2.2.2.1 (16 : Int32).toNatClampNeg) - ((vp_updL st.2.2.1 (18 : Int32).toNatClampNeg ((st.2.2.1 (16 : Int32).toNatClampNeg) - (st.2.2.2.1 (17 : Int32).toNatClampNeg))) (17 : Int32).toNatClampNeg)), vp_updL st.2.2.2.2.1 (18 : Int32).toNatClampNeg ((st.2.2.2.2.1 (16 : Int32).toNatClampNeg) - (st.2.2.2.2.2 (17 : Int32).toNatClampNeg)), vp_updL st.2.2.2.2.2 (18 : Int32).toNatClampNeg ((st.2.2.2.2.2 (16 : Int32).toNatClampNeg) - (st.2.2.2.2.1 (17 : Int32).toNatClampNeg)))
    else (vp_updL st.1 (18 : Int32).toNatClampNeg (((st.1 (16 : Int32).toNatClampNeg) - (st.1 (17 : Int32).toNatClampNeg)) &&& (((((((st.1 (16 : Int32).toNatClampNeg) - (st.1 (17 : Int32).toNatClampNeg)) + (st.2.1 (16 : Int32).toNatClampNeg)) ^^^ (((st.1 (16 : Int32).toNatClampNeg) - (st.1 (17 : Int32).toNatClampNeg)) - (st.2.1 (17 : Int32).toNatClampNeg))) ||| (st.2.1 (16 : Int32).toNatClampNeg)) ||| (st.2.1 (17 : Int32).toNatClampNeg)) ^^^ (-1))), vp_updL st.2.1 (18 : Int32).toNatClampNeg ((((((st.1 (16 : Int32).toNatClampNeg) - (st.1 (17 : Int32).toNatClampNeg)) + (st.2.1 (16 : Int32).toNatClampNeg)) ^^^ (((st.1 (16 : Int32).toNatClampNeg) - (st.1 (17 : Int32).toNatClampNeg)) - (st.2.1 (17 : Int32).toNatClampNeg))) ||| (st.2.1 (16 : Int32).toNatClampNeg)) ||| (st.2.1 (17 : Int32).toNatClampNeg)), vp_updL st.2.2.1 (18 : Int32).toNatClampNeg ((st.2.2.1 (16 : Int32).toNatClampNeg) - (st.2.2.2.1 (17 : Int32).toNatClampNeg)), vp_updL st.2.2.2.1 (18 : Int32).toNatClampNeg ((st.2.2.2.1 (16 : Int32).toNatClampNeg) - ((vp_updL st.2.2.1 (18 : Int32).toNatClampNeg ((st.2.2.1 (16 : Int32).toNatClampNeg) - (st.2.2.2.1 (17 : Int32).toNatClampNeg))) (17 : Int32).toNatClampNeg)), st.2.2.2.2.1, st.2.2.2.2.2))
  else if (lg_cmp (((st.2.2.2.2.1 (16 : Int32).toNatClampNeg) ^^^ (st.2.2.2.2.2 (17 : Int32).toNatClampNeg)) &&& ((st.2.2.2.2.1 (16 : Int32).toNatClampNeg) ^^^ ((st.2.2.2.2.1 (16 : Int32).toNatClampNeg) - (st.2.2.2.2.2 (17 : Int32).toNatClampNeg)))) 0) < 0 then (vp_updL st.1 (18 : Int32).toNatClampNeg (((st.1 (16 : Int32).toNatClampNeg) - (st.1 (17 : Int32).toNatClampNeg)) &&& (((((((st.1 (16 : Int32).toNatClampNeg) - (st.1 (17 : Int32).toNatClampNeg)) + (st.2.1 (16 : Int32).toNatClampNeg)) ^^^ (((st.1 (16 : Int32).toNatClampNeg) - (st.1 (17 : Int32).toNatClampNeg)) - (st.2.1 (17 : Int32).toNatClampNeg))) ||| (st.2.1 (16 : Int32).toNatClampNeg)) ||| (st.2.1 (17 : Int32).toNatClampNeg)) ^^^ (-1))), vp_updL st.2.1 (18 : Int32).toNatClampNeg ((((((st.1 (16 : Int32).toNatClampNeg) - (st.1 (17 : Int32).toNatClampNeg)) + (st.2.1 (16 : Int32).toNatClampNeg)) ^^^ (((st.1 (16 : Int32).toNatClampNeg) - (st.1 (17 : Int32).toNatClampNeg)) - (st.2.1 (17 : Int32).toNatClampNeg))) ||| (st.2.1 (16 : Int32).toNatClampNeg)) ||| (st.2.1 (17 : Int32).toNatClampNeg)), st.2.2.1, st.2.2.2.1, st.2.2.2.2.1, st.2.2.2.2.2)
  else if 0 ≤ (lg_cmp (((st.2.2.2.2.2 (16 : Int32).toNatClampNeg) ^^^ (st.2.2.2.2.1 (17 : Int32).toNatClampNeg)) &&& ((st.2.2.2.2.2 (16 : Int32).toNatClampNeg) ^^^ ((st.2.2.2.2.2 (16 : Int32).toNatClampNeg) - (st.2.2.2.2.1 (17 : Int32).toNatClampNeg)))) 0) then (vp_updL st.1 (18 : Int32).toNatClampNeg (((st.1 (16 : Int32).toNatClampNeg) - (st.1 (17 : Int32).toNatClampNeg)) &&& (((((((st.1 (16 : Int32).toNatClampNeg) - (st.1 (17 : Int32).toNatClampNeg)) + (st.2.1 (16 : Int32).toNatClampNeg)) ^^^ (((st.1 (16 : Int32).toNatClampNeg) - (st.1 (17 : Int32).toNatClampNeg)) - (st.2.1 (17 : Int32).toNatClampNeg))) ||| (st.2.1 (16 : Int32).toNatClampNeg)) ||| (st.2.1 (17 : Int32).toNatClampNeg)) ^^^ (-1))), vp_updL st.2.1 (18 : Int32).toNatClampNeg ((((((st.1 (16 : Int32).toNatClampNeg) - (st.1 (17 : Int32).toNatClampNeg)) + (st.2.1 (16 : Int32).toNatClampNeg)) ^^^ (((st.1 (16 : Int32).toNatClampNeg) - (st.1 (17 : Int32).toNatClampNeg)) - (st.2.1 (17 : Int32).toNatClampNeg))) ||| (st.2.1 (16 : Int32).toNatClampNeg)) ||| (st.2.1 (17 : Int32).toNatClampNeg)), st.2.2.1, st.2.2.2.1, vp_updL st.2.2.2.2.1 (18 : Int32).toNatClampNeg ((st.2.2.2.2.1 (16 : Int32).toNatClampNeg) - (st.2.2.2.2.2 (17 : Int32).toNatClampNeg)), vp_updL st.2.2.2.2.2 (18 : Int32).toNatClampNeg ((st.2.2.2.2.2 (16 : Int32).toNatClampNeg) - (st.2.2.2.2.1 (17 : Int32).toNatClampNeg)))
  else (vp_updL st.1 (18 : Int32).toNatClampNeg (((st.1 (16 : Int32).toNatClampNeg) - (st.1 (17 : Int32).toNatClampNeg)) &&& (((((((st.1 (16 : Int32).toNatClampNeg) - (st.1 (17 : Int32).toNatClampNeg)) + (st.2.1 (16 : Int32).toNatClampNeg)) ^^^ (((st.1 (16 : Int32).toNatClampNeg) - (st.1 (17 : Int32).toNatClampNeg)) - (st.2.1 (17 : Int32).toNatClampNeg))) ||| (st.2.1 (16 : Int32).toNatClampNeg)) ||| (st.2.1 (17 : Int32).toNatClampNeg)) ^^^ (-1))), vp_updL st.2.1 (18 : Int32).toNatClampNeg ((((((st.1 (16 : Int32).toNatClampNeg) - (st.1 (17 : Int32).toNatClampNeg)) + (st.2.1 (16 : Int32).toNatClampNeg)) ^^^ (((st.1 (16 : Int32).toNatClampNeg) - (st.1 (17 : Int32).toNatClampNeg)) - (st.2.1 (17 : Int32).toNatClampNeg))) ||| (st.2.1 (16 : Int32).toNatClampNeg)) ||| (st.2.1 (17 : Int32).toNatClampNeg)), st.2.2.1, st.2.2.2.1, st.2.2.2.2.1, st.2.2.2.2.2)
set_option maxHeartbeats 4000000 in
set_option maxRecDepth 100000 in
theorem c_M_subtract (l : Launch) (D : va_G) (h0 : Nat) (a1 : Nat) (a2 : Nat) (a3 : Nat) (a4 : Nat) (a5 : Nat) (a6 : Nat) (cj1 cj2 cj3 cj4 cj5 cj6 : ClassId) (th : Int32) (st : Md) : sp_M l yM_subtract wsM_subtract ({ frames := 1, cells := 0, slots := 0, locals := 23 }) D [.ref h0] ([(h0, .inr (4, [.int th, .ref a1, .ref a2, .ref a3, .ref a4, .ref a5, .ref a6])), (a1, .inl (cj1, 19, .inr (.inl st.1))), (a2, .inl (cj2, 19, .inr (.inl st.2.1))), (a3, .inl (cj3, 19, .inr (.inl st.2.2.1))), (a4, .inl (cj4, 19, .inr (.inl st.2.2.2.1))), (a5, .inl (cj5, 19, .inr (.inl st.2.2.2.2.1))), (a6, .inl (cj6, 19, .inr (.inl st.2.2.2.2.2)))]) [(cj1, .long), (cj2, .long), (cj3, .long), (cj4, .long), (cj5, .long), (cj6, .long)] (sp_Qv D ([(h0, .inr (4, [.int th, .ref a1, .ref a2, .ref a3, .ref a4, .ref a5, .ref a6])), (a1, .inl (cj1, 19, .inr (.inl st.1))), (a2, .inl (cj2, 19, .inr (.inl st.2.1))), (a3, .inl (cj3, 19, .inr (.inl st.2.2.1))), (a4, .inl (cj4, 19, .inr (.inl st.2.2.2.1))), (a5, .inl (cj5, 19, .inr (.inl st.2.2.2.2.1))), (a6, .inl (cj6, 19, .inr (.inl st.2.2.2.2.2)))]) ([(h0, .inr (4, [.int th, .ref a1, .ref a2, .ref a3, .ref a4, .ref a5, .ref a6])), (a1, .inl (cj1, 19, .inr (.inl ((f_M_subtract st).1)))), (a2, .inl (cj2, 19, .inr (.inl ((f_M_subtract st).2.1)))), (a3, .inl (cj3, 19, .inr (.inl ((f_M_subtract st).2.2.1)))), (a4, .inl (cj4, 19, .inr (.inl ((f_M_subtract st).2.2.2.1)))), (a5, .inl (cj5, 19, .inr (.inl ((f_M_subtract st).2.2.2.2.1)))), (a6, .inl (cj6, 19, .inr (.inl ((f_M_subtract st).2.2.2.2.2))))]) [(cj1, .long), (cj2, .long), (cj3, .long), (cj4, .long), (cj5, .long), (cj6, .long)]) := by
  refine sp_ofW (cc := cM_subtract) (nL := 10) (ret := none) (own := RM) (by decide) rfl rfl (Nat.le_of_ble_eq_true rfl) ?_
  intro p e s m below meth c A ls hAe hnm C hA hP hK hD hS hl
  have hx := C.1
  have hb := C.2.1
  have hown := C.2.2.2.2.1
  have hts := C.2.2.2.2.2.1
  have hl : lv_has ls 10 [(0, .ref h0)] := hl
  have hi4 : ∀ w ∈ u_ws RM TM 7, w ∈ wsM_subtract := fun w h => List.mem_cons_of_mem _ (inM w h)
  have hk0 := hts _ (List.mem_cons_of_mem _ wm_382)
  have hk1 := hts _ (List.mem_cons_of_mem _ wm_383)
  have hk2 := hts _ (List.mem_cons_of_mem _ wm_381)
  have hk3 := hts _ (List.mem_cons_of_mem _ wm_384)
  have hk4 := hts _ (List.mem_cons_of_mem _ wm_385)
  have hk5 := hts _ (List.mem_cons_of_mem _ wm_386)
  have hk6 := hts _ (List.mem_cons_of_mem _ wm_387)
  refine lv_aload_n hx hb dM_subtract_0 rfl (lv_at hl 0 rfl) ?_
  refine va_get (D := D) (ci := 4) (v := .ref a1) (C := RM) (T := TM) (N := 7) hx hb hts hi4 hown hK hP 0 rfl rfl 1 (by decide) hk0 (fun _ h9 => h9) rfl dM_subtract_1 ?_
  refine lv_bipush (v := 16) hx hb dM_subtract_4 (by decide) ?_
  refine va_lald hx hb hK hP 1 0 rfl rfl (vp_in_iff.mpr (by decide)) dM_subtract_6 ?_
  refine lv_aload_n hx hb dM_subtract_7 rfl (lv_at hl 0 rfl) ?_
  refine va_get (D := D) (ci := 4) (v := .ref a1) (C := RM) (T := TM) (N := 7) hx hb hts hi4 hown hK hP 0 rfl rfl 1 (by decide) hk0 (fun _ h9 => h9) rfl dM_subtract_8 ?_
  refine lv_bipush (v := 17) hx hb dM_subtract_11 (by decide) ?_
  refine va_lald hx hb hK hP 1 0 rfl rfl (vp_in_iff.mpr (by decide)) dM_subtract_13 ?_
  refine lv_lsub hx hb dM_subtract_14 ?_
  refine lv_lstore_n (lv' := [(1, .long ((st.1 (16 : Int32).toNatClampNeg) - (st.1 (17 : Int32).toNatClampNeg))), (0, .ref h0)]) hx hb dM_subtract_15 rfl hl (by decide) rfl (fun ls hl => ?_)
  refine lv_lload_n hx hb dM_subtract_16 rfl (lv_at hl 0 rfl) ?_
  refine lv_aload_n hx hb dM_subtract_17 rfl (lv_at hl 1 rfl) ?_
  refine va_get (D := D) (ci := 4) (v := .ref a2) (C := RM) (T := TM) (N := 7) hx hb hts hi4 hown hK hP 0 rfl rfl 2 (by decide) hk1 (fun _ h9 => h9) rfl dM_subtract_18 ?_
  refine lv_bipush (v := 16) hx hb dM_subtract_21 (by decide) ?_
  refine va_lald hx hb hK hP 2 1 rfl rfl (vp_in_iff.mpr (by decide)) dM_subtract_23 ?_
  refine lv_ladd hx hb dM_subtract_24 ?_
  refine lv_lload_n hx hb dM_subtract_25 rfl (lv_at hl 0 rfl) ?_
  refine lv_aload_n hx hb dM_subtract_26 rfl (lv_at hl 1 rfl) ?_
  refine va_get (D := D) (ci := 4) (v := .ref a2) (C := RM) (T := TM) (N := 7) hx hb hts hi4 hown hK hP 0 rfl rfl 2 (by decide) hk1 (fun _ h9 => h9) rfl dM_subtract_27 ?_
  refine lv_bipush (v := 17) hx hb dM_subtract_30 (by decide) ?_
  refine va_lald hx hb hK hP 2 1 rfl rfl (vp_in_iff.mpr (by decide)) dM_subtract_32 ?_
  refine lv_lsub hx hb dM_subtract_33 ?_
  refine lv_lxor hx hb dM_subtract_34 ?_
  refine lv_aload_n hx hb dM_subtract_35 rfl (lv_at hl 1 rfl) ?_
  refine va_get (D := D) (ci := 4) (v := .ref a2) (C := RM) (T := TM) (N := 7) hx hb hts hi4 hown hK hP 0 rfl rfl 2 (by decide) hk1 (fun _ h9 => h9) rfl dM_subtract_36 ?_
  refine lv_bipush (v := 16) hx hb dM_subtract_39 (by decide) ?_
  refine va_lald hx hb hK hP 2 1 rfl rfl (vp_in_iff.mpr (by decide)) dM_subtract_41 ?_
  refine lv_lor hx hb dM_subtract_42 ?_
  refine lv_aload_n hx hb dM_subtract_43 rfl (lv_at hl 1 rfl) ?_
  refine va_get (D := D) (ci := 4) (v := .ref a2) (C := RM) (T := TM) (N := 7) hx hb hts hi4 hown hK hP 0 rfl rfl 2 (by decide) hk1 (fun _ h9 => h9) rfl dM_subtract_44 ?_
  refine lv_bipush (v := 17) hx hb dM_subtract_47 (by decide) ?_
  refine va_lald hx hb hK hP 2 1 rfl rfl (vp_in_iff.mpr (by decide)) dM_subtract_49 ?_
  refine lv_lor hx hb dM_subtract_50 ?_
  refine lv_lstore_n (lv' := [(3, .long ((((((st.1 (16 : Int32).toNatClampNeg) - (st.1 (17 : Int32).toNatClampNeg)) + (st.2.1 (16 : Int32).toNatClampNeg)) ^^^ (((st.1 (16 : Int32).toNatClampNeg) - (st.1 (17 : Int32).toNatClampNeg)) - (st.2.1 (17 : Int32).toNatClampNeg))) ||| (st.2.1 (16 : Int32).toNatClampNeg)) ||| (st.2.1 (17 : Int32).toNatClampNeg))), (1, .long ((st.1 (16 : Int32).toNatClampNeg) - (st.1 (17 : Int32).toNatClampNeg))), (0, .ref h0)]) hx hb dM_subtract_51 rfl hl (by decide) rfl (fun ls hl => ?_)
  refine lv_aload_n hx hb dM_subtract_52 rfl (lv_at hl 2 rfl) ?_
  refine va_get (D := D) (ci := 4) (v := .ref a2) (C := RM) (T := TM) (N := 7) hx hb hts hi4 hown hK hP 0 rfl rfl 2 (by decide) hk1 (fun _ h9 => h9) rfl dM_subtract_53 ?_
  refine lv_bipush (v := 18) hx hb dM_subtract_56 (by decide) ?_
  refine lv_lload_n hx hb dM_subtract_58 rfl (lv_at hl 0 rfl) ?_
  refine va_last hx hb hK hP hD hS 2 1 rfl rfl (vp_in_iff.mpr (by decide)) dM_subtract_59 (fun H locs hP hD hS => ?_)
  have hP : va_P D vwCl ([(h0, .inr (4, [.int th, .ref a1, .ref a2, .ref a3, .ref a4, .ref a5, .ref a6])), (a1, .inl (cj1, 19, .inr (.inl st.1))), (a2, .inl (cj2, 19, .inr (.inl (vp_updL st.2.1 (18 : Int32).toNatClampNeg ((((((st.1 (16 : Int32).toNatClampNeg) - (st.1 (17 : Int32).toNatClampNeg)) + (st.2.1 (16 : Int32).toNatClampNeg)) ^^^ (((st.1 (16 : Int32).toNatClampNeg) - (st.1 (17 : Int32).toNatClampNeg)) - (st.2.1 (17 : Int32).toNatClampNeg))) ||| (st.2.1 (16 : Int32).toNatClampNeg)) ||| (st.2.1 (17 : Int32).toNatClampNeg)))))), (a3, .inl (cj3, 19, .inr (.inl st.2.2.1))), (a4, .inl (cj4, 19, .inr (.inl st.2.2.2.1))), (a5, .inl (cj5, 19, .inr (.inl st.2.2.2.2.1))), (a6, .inl (cj6, 19, .inr (.inl st.2.2.2.2.2)))]) H := hP
  have hD : va_D A ([(h0, .inr (4, [.int th, .ref a1, .ref a2, .ref a3, .ref a4, .ref a5, .ref a6])), (a1, .inl (cj1, 19, .inr (.inl st.1))), (a2, .inl (cj2, 19, .inr (.inl (vp_updL st.2.1 (18 : Int32).toNatClampNeg ((((((st.1 (16 : Int32).toNatClampNeg) - (st.1 (17 : Int32).toNatClampNeg)) + (st.2.1 (16 : Int32).toNatClampNeg)) ^^^ (((st.1 (16 : Int32).toNatClampNeg) - (st.1 (17 : Int32).toNatClampNeg)) - (st.2.1 (17 : Int32).toNatClampNeg))) ||| (st.2.1 (16 : Int32).toNatClampNeg)) ||| (st.2.1 (17 : Int32).toNatClampNeg)))))), (a3, .inl (cj3, 19, .inr (.inl st.2.2.1))), (a4, .inl (cj4, 19, .inr (.inl st.2.2.2.1))), (a5, .inl (cj5, 19, .inr (.inl st.2.2.2.2.1))), (a6, .inl (cj6, 19, .inr (.inl st.2.2.2.2.2)))]) := hD
  refine lv_aload_n hx hb dM_subtract_60 rfl (lv_at hl 2 rfl) ?_
  refine va_get (D := D) (ci := 4) (v := .ref a1) (C := RM) (T := TM) (N := 7) hx hb hts hi4 hown hK hP 0 rfl rfl 1 (by decide) hk0 (fun _ h9 => h9) rfl dM_subtract_61 ?_
  refine lv_bipush (v := 18) hx hb dM_subtract_64 (by decide) ?_
  refine lv_lload_n hx hb dM_subtract_66 rfl (lv_at hl 1 rfl) ?_
  refine lv_lload_n hx hb dM_subtract_67 rfl (lv_at hl 0 rfl) ?_
  refine lv_ldc2 (v := (-1)) hx hb hown hk2 dM_subtract_68 ?_
  refine lv_lxor hx hb dM_subtract_71 ?_
  refine lv_land hx hb dM_subtract_72 ?_
  refine va_last hx hb hK hP hD hS 1 0 rfl rfl (vp_in_iff.mpr (by decide)) dM_subtract_73 (fun H locs hP hD hS => ?_)
  have hP : va_P D vwCl ([(h0, .inr (4, [.int th, .ref a1, .ref a2, .ref a3, .ref a4, .ref a5, .ref a6])), (a1, .inl (cj1, 19, .inr (.inl (vp_updL st.1 (18 : Int32).toNatClampNeg (((st.1 (16 : Int32).toNatClampNeg) - (st.1 (17 : Int32).toNatClampNeg)) &&& (((((((st.1 (16 : Int32).toNatClampNeg) - (st.1 (17 : Int32).toNatClampNeg)) + (st.2.1 (16 : Int32).toNatClampNeg)) ^^^ (((st.1 (16 : Int32).toNatClampNeg) - (st.1 (17 : Int32).toNatClampNeg)) - (st.2.1 (17 : Int32).toNatClampNeg))) ||| (st.2.1 (16 : Int32).toNatClampNeg)) ||| (st.2.1 (17 : Int32).toNatClampNeg)) ^^^ (-1))))))), (a2, .inl (cj2, 19, .inr (.inl (vp_updL st.2.1 (18 : Int32).toNatClampNeg ((((((st.1 (16 : Int32).toNatClampNeg) - (st.1 (17 : Int32).toNatClampNeg)) + (st.2.1 (16 : Int32).toNatClampNeg)) ^^^ (((st.1 (16 : Int32).toNatClampNeg) - (st.1 (17 : Int32).toNatClampNeg)) - (st.2.1 (17 : Int32).toNatClampNeg))) ||| (st.2.1 (16 : Int32).toNatClampNeg)) ||| (st.2.1 (17 : Int32).toNatClampNeg)))))), (a3, .inl (cj3, 19, .inr (.inl st.2.2.1))), (a4, .inl (cj4, 19, .inr (.inl st.2.2.2.1))), (a5, .inl (cj5, 19, .inr (.inl st.2.2.2.2.1))), (a6, .inl (cj6, 19, .inr (.inl st.2.2.2.2.2)))]) H := hP
  have hD : va_D A ([(h0, .inr (4, [.int th, .ref a1, .ref a2, .ref a3, .ref a4, .ref a5, .ref a6])), (a1, .inl (cj1, 19, .inr (.inl (vp_updL st.1 (18 : Int32).toNatClampNeg (((st.1 (16 : Int32).toNatClampNeg) - (st.1 (17 : Int32).toNatClampNeg)) &&& (((((((st.1 (16 : Int32).toNatClampNeg) - (st.1 (17 : Int32).toNatClampNeg)) + (st.2.1 (16 : Int32).toNatClampNeg)) ^^^ (((st.1 (16 : Int32).toNatClampNeg) - (st.1 (17 : Int32).toNatClampNeg)) - (st.2.1 (17 : Int32).toNatClampNeg))) ||| (st.2.1 (16 : Int32).toNatClampNeg)) ||| (st.2.1 (17 : Int32).toNatClampNeg)) ^^^ (-1))))))), (a2, .inl (cj2, 19, .inr (.inl (vp_updL st.2.1 (18 : Int32).toNatClampNeg ((((((st.1 (16 : Int32).toNatClampNeg) - (st.1 (17 : Int32).toNatClampNeg)) + (st.2.1 (16 : Int32).toNatClampNeg)) ^^^ (((st.1 (16 : Int32).toNatClampNeg) - (st.1 (17 : Int32).toNatClampNeg)) - (st.2.1 (17 : Int32).toNatClampNeg))) ||| (st.2.1 (16 : Int32).toNatClampNeg)) ||| (st.2.1 (17 : Int32).toNatClampNeg)))))), (a3, .inl (cj3, 19, .inr (.inl st.2.2.1))), (a4, .inl (cj4, 19, .inr (.inl st.2.2.2.1))), (a5, .inl (cj5, 19, .inr (.inl st.2.2.2.2.1))), (a6, .inl (cj6, 19, .inr (.inl st.2.2.2.2.2)))]) := hD
  refine lv_aload_n hx hb dM_subtract_74 rfl (lv_at hl 2 rfl) ?_
  refine va_get (D := D) (ci := 4) (v := .ref a3) (C := RM) (T := TM) (N := 7) hx hb hts hi4 hown hK hP 0 rfl rfl 3 (by decide) hk3 (fun _ h9 => h9) rfl dM_subtract_75 ?_
  refine lv_bipush (v := 16) hx hb dM_subtract_78 (by decide) ?_
  refine va_lald hx hb hK hP 3 2 rfl rfl (vp_in_iff.mpr (by decide)) dM_subtract_80 ?_
  refine lv_aload_n hx hb dM_subtract_81 rfl (lv_at hl 2 rfl) ?_
  refine va_get (D := D) (ci := 4) (v := .ref a4) (C := RM) (T := TM) (N := 7) hx hb hts hi4 hown hK hP 0 rfl rfl 4 (by decide) hk4 (fun _ h9 => h9) rfl dM_subtract_82 ?_
  refine lv_bipush (v := 17) hx hb dM_subtract_85 (by decide) ?_
  refine va_lald hx hb hK hP 4 3 rfl rfl (vp_in_iff.mpr (by decide)) dM_subtract_87 ?_
  refine sp_callz (sp_runS (As := [.long (st.2.2.1 (16 : Int32).toNatClampNeg), .long (st.2.2.2.1 (17 : Int32).toNatClampNeg)]) (rest := []) C (c_M_below l D (st.2.2.1 (16 : Int32).toNatClampNeg) (st.2.2.2.1 (17 : Int32).toNatClampNeg)) (va_cwS 2 hts (gS wG_c wm_376 wm_377 wm_378 wm_375) rfl rfl rfl (by decide +kernel) ⟨Nat.le_of_ble_eq_true rfl, Nat.le_of_ble_eq_true rfl⟩) hK hP hD [] (by decide) rfl [] rfl rfl hl.1 rfl (Nat.le_of_ble_eq_true rfl) dM_subtract_88 ⟨Nat.le_of_ble_eq_true rfl, Nat.le_of_ble_eq_true rfl⟩) hP hD hS hA [] rfl sp_f0 (fun H locs z1 hP hD hS => ?_)
  have hP : va_P D vwCl ([(h0, .inr (4, [.int th, .ref a1, .ref a2, .ref a3, .ref a4, .ref a5, .ref a6])), (a1, .inl (cj1, 19, .inr (.inl (vp_updL st.1 (18 : Int32).toNatClampNeg (((st.1 (16 : Int32).toNatClampNeg) - (st.1 (17 : Int32).toNatClampNeg)) &&& (((((((st.1 (16 : Int32).toNatClampNeg) - (st.1 (17 : Int32).toNatClampNeg)) + (st.2.1 (16 : Int32).toNatClampNeg)) ^^^ (((st.1 (16 : Int32).toNatClampNeg) - (st.1 (17 : Int32).toNatClampNeg)) - (st.2.1 (17 : Int32).toNatClampNeg))) ||| (st.2.1 (16 : Int32).toNatClampNeg)) ||| (st.2.1 (17 : Int32).toNatClampNeg)) ^^^ (-1))))))), (a2, .inl (cj2, 19, .inr (.inl (vp_updL st.2.1 (18 : Int32).toNatClampNeg ((((((st.1 (16 : Int32).toNatClampNeg) - (st.1 (17 : Int32).toNatClampNeg)) + (st.2.1 (16 : Int32).toNatClampNeg)) ^^^ (((st.1 (16 : Int32).toNatClampNeg) - (st.1 (17 : Int32).toNatClampNeg)) - (st.2.1 (17 : Int32).toNatClampNeg))) ||| (st.2.1 (16 : Int32).toNatClampNeg)) ||| (st.2.1 (17 : Int32).toNatClampNeg)))))), (a3, .inl (cj3, 19, .inr (.inl st.2.2.1))), (a4, .inl (cj4, 19, .inr (.inl st.2.2.2.1))), (a5, .inl (cj5, 19, .inr (.inl st.2.2.2.2.1))), (a6, .inl (cj6, 19, .inr (.inl st.2.2.2.2.2)))]) H := hP
  have hD : va_D A ([(h0, .inr (4, [.int th, .ref a1, .ref a2, .ref a3, .ref a4, .ref a5, .ref a6])), (a1, .inl (cj1, 19, .inr (.inl (vp_updL st.1 (18 : Int32).toNatClampNeg (((st.1 (16 : Int32).toNatClampNeg) - (st.1 (17 : Int32).toNatClampNeg)) &&& (((((((st.1 (16 : Int32).toNatClampNeg) - (st.1 (17 : Int32).toNatClampNeg)) + (st.2.1 (16 : Int32).toNatClampNeg)) ^^^ (((st.1 (16 : Int32).toNatClampNeg) - (st.1 (17 : Int32).toNatClampNeg)) - (st.2.1 (17 : Int32).toNatClampNeg))) ||| (st.2.1 (16 : Int32).toNatClampNeg)) ||| (st.2.1 (17 : Int32).toNatClampNeg)) ^^^ (-1))))))), (a2, .inl (cj2, 19, .inr (.inl (vp_updL st.2.1 (18 : Int32).toNatClampNeg ((((((st.1 (16 : Int32).toNatClampNeg) - (st.1 (17 : Int32).toNatClampNeg)) + (st.2.1 (16 : Int32).toNatClampNeg)) ^^^ (((st.1 (16 : Int32).toNatClampNeg) - (st.1 (17 : Int32).toNatClampNeg)) - (st.2.1 (17 : Int32).toNatClampNeg))) ||| (st.2.1 (16 : Int32).toNatClampNeg)) ||| (st.2.1 (17 : Int32).toNatClampNeg)))))), (a3, .inl (cj3, 19, .inr (.inl st.2.2.1))), (a4, .inl (cj4, 19, .inr (.inl st.2.2.2.1))), (a5, .inl (cj5, 19, .inr (.inl st.2.2.2.2.1))), (a6, .inl (cj6, 19, .inr (.inl st.2.2.2.2.2)))]) := hD
  refine lv_if_ne (tgt := 138) hx hb dM_subtract_91 (by decide) (fun c2 => ?_) (fun c2 => ?_)
  · refine lv_aload_n hx hb dM_subtract_138 rfl (lv_at hl 2 rfl) ?_
    refine va_get (D := D) (ci := 4) (v := .ref a5) (C := RM) (T := TM) (N := 7) hx hb hts hi4 hown hK hP 0 rfl rfl 5 (by decide) hk5 (fun _ h9 => h9) rfl dM_subtract_139 ?_
    refine lv_bipush (v := 16) hx hb dM_subtract_142 (by decide) ?_
    refine va_lald hx hb hK hP 5 4 rfl rfl (vp_in_iff.mpr (by decide)) dM_subtract_144 ?_
    refine lv_aload_n hx hb dM_subtract_145 rfl (lv_at hl 2 rfl) ?_
    refine va_get (D := D) (ci := 4) (v := .ref a6) (C := RM) (T := TM) (N := 7) hx hb hts hi4 hown hK hP 0 rfl rfl 6 (by decide) hk6 (fun _ h9 => h9) rfl dM_subtract_146 ?_
    refine lv_bipush (v := 17) hx hb dM_subtract_149 (by decide) ?_
    refine va_lald hx hb hK hP 6 5 rfl rfl (vp_in_iff.mpr (by decide)) dM_subtract_151 ?_
    refine lv_lsub hx hb dM_subtract_152 ?_
    refine lv_lstore (lv' := [(5, .long ((st.2.2.2.2.1 (16 : Int32).toNatClampNeg) - (st.2.2.2.2.2 (17 : Int32).toNatClampNeg))), (3, .long ((((((st.1 (16 : Int32).toNatClampNeg) - (st.1 (17 : Int32).toNatClampNeg)) + (st.2.1 (16 : Int32).toNatClampNeg)) ^^^ (((st.1 (16 : Int32).toNatClampNeg) - (st.1 (17 : Int32).toNatClampNeg)) - (st.2.1 (17 : Int32).toNatClampNeg))) ||| (st.2.1 (16 : Int32).toNatClampNeg)) ||| (st.2.1 (17 : Int32).toNatClampNeg))), (1, .long ((st.1 (16 : Int32).toNatClampNeg) - (st.1 (17 : Int32).toNatClampNeg))), (0, .ref h0)]) hx hb dM_subtract_153 hl (by decide) rfl (fun ls hl => ?_)
    refine lv_aload_n hx hb dM_subtract_155 rfl (lv_at hl 3 rfl) ?_
    refine va_get (D := D) (ci := 4) (v := .ref a6) (C := RM) (T := TM) (N := 7) hx hb hts hi4 hown hK hP 0 rfl rfl 6 (by decide) hk6 (fun _ h9 => h9) rfl dM_subtract_156 ?_
    refine lv_bipush (v := 16) hx hb dM_subtract_159 (by decide) ?_
    refine va_lald hx hb hK hP 6 5 rfl rfl (vp_in_iff.mpr (by decide)) dM_subtract_161 ?_
    refine lv_aload_n hx hb dM_subtract_162 rfl (lv_at hl 3 rfl) ?_
    refine va_get (D := D) (ci := 4) (v := .ref a5) (C := RM) (T := TM) (N := 7) hx hb hts hi4 hown hK hP 0 rfl rfl 5 (by decide) hk5 (fun _ h9 => h9) rfl dM_subtract_163 ?_
    refine lv_bipush (v := 17) hx hb dM_subtract_166 (by decide) ?_
    refine va_lald hx hb hK hP 5 4 rfl rfl (vp_in_iff.mpr (by decide)) dM_subtract_168 ?_
    refine lv_lsub hx hb dM_subtract_169 ?_
    refine lv_lstore (lv' := [(7, .long ((st.2.2.2.2.2 (16 : Int32).toNatClampNeg) - (st.2.2.2.2.1 (17 : Int32).toNatClampNeg))), (5, .long ((st.2.2.2.2.1 (16 : Int32).toNatClampNeg) - (st.2.2.2.2.2 (17 : Int32).toNatClampNeg))), (3, .long ((((((st.1 (16 : Int32).toNatClampNeg) - (st.1 (17 : Int32).toNatClampNeg)) + (st.2.1 (16 : Int32).toNatClampNeg)) ^^^ (((st.1 (16 : Int32).toNatClampNeg) - (st.1 (17 : Int32).toNatClampNeg)) - (st.2.1 (17 : Int32).toNatClampNeg))) ||| (st.2.1 (16 : Int32).toNatClampNeg)) ||| (st.2.1 (17 : Int32).toNatClampNeg))), (1, .long ((st.1 (16 : Int32).toNatClampNeg) - (st.1 (17 : Int32).toNatClampNeg))), (0, .ref h0)]) hx hb dM_subtract_170 hl (by decide) rfl (fun ls hl => ?_)
    refine lv_aload_n hx hb dM_subtract_172 rfl (lv_at hl 4 rfl) ?_
    refine va_get (D := D) (ci := 4) (v := .ref a5) (C := RM) (T := TM) (N := 7) hx hb hts hi4 hown hK hP 0 rfl rfl 5 (by decide) hk5 (fun _ h9 => h9) rfl dM_subtract_173 ?_
    refine lv_bipush (v := 16) hx hb dM_subtract_176 (by decide) ?_
    refine va_lald hx hb hK hP 5 4 rfl rfl (vp_in_iff.mpr (by decide)) dM_subtract_178 ?_
    refine lv_aload_n hx hb dM_subtract_179 rfl (lv_at hl 4 rfl) ?_
    refine va_get (D := D) (ci := 4) (v := .ref a6) (C := RM) (T := TM) (N := 7) hx hb hts hi4 hown hK hP 0 rfl rfl 6 (by decide) hk6 (fun _ h9 => h9) rfl dM_subtract_180 ?_
    refine lv_bipush (v := 17) hx hb dM_subtract_183 (by decide) ?_
    refine va_lald hx hb hK hP 6 5 rfl rfl (vp_in_iff.mpr (by decide)) dM_subtract_185 ?_
    refine lv_lxor hx hb dM_subtract_186 ?_
    refine lv_aload_n hx hb dM_subtract_187 rfl (lv_at hl 4 rfl) ?_
    refine va_get (D := D) (ci := 4) (v := .ref a5) (C := RM) (T := TM) (N := 7) hx hb hts hi4 hown hK hP 0 rfl rfl 5 (by decide) hk5 (fun _ h9 => h9) rfl dM_subtract_188 ?_
    refine lv_bipush (v := 16) hx hb dM_subtract_191 (by decide) ?_
    refine va_lald hx hb hK hP 5 4 rfl rfl (vp_in_iff.mpr (by decide)) dM_subtract_193 ?_
    refine lv_lload hx hb dM_subtract_194 (lv_at hl 1 rfl) ?_
    refine lv_lxor hx hb dM_subtract_196 ?_
    refine lv_land hx hb dM_subtract_197 ?_
    refine lv_lconst (v := 0) hx hb dM_subtract_198 (by decide) ?_
    refine W.lcmp hx hb dM_subtract_199 ?_
    refine lv_if_lt (tgt := 234) hx hb dM_subtract_200 (by decide) (fun c3 => ?_) (fun c3 => ?_)
    · refine lv_iconst (v := 1) hx hb dM_subtract_234 (by decide) ?_
      refine lv_goto (tgt := 239) hx hb dM_subtract_235 (by decide) ?_
      refine lv_istore (lv' := [(9, .int 1), (7, .long ((st.2.2.2.2.2 (16 : Int32).toNatClampNeg) - (st.2.2.2.2.1 (17 : Int32).toNatClampNeg))), (5, .long ((st.2.2.2.2.1 (16 : Int32).toNatClampNeg) - (st.2.2.2.2.2 (17 : Int32).toNatClampNeg))), (3, .long ((((((st.1 (16 : Int32).toNatClampNeg) - (st.1 (17 : Int32).toNatClampNeg)) + (st.2.1 (16 : Int32).toNatClampNeg)) ^^^ (((st.1 (16 : Int32).toNatClampNeg) - (st.1 (17 : Int32).toNatClampNeg)) - (st.2.1 (17 : Int32).toNatClampNeg))) ||| (st.2.1 (16 : Int32).toNatClampNeg)) ||| (st.2.1 (17 : Int32).toNatClampNeg))), (1, .long ((st.1 (16 : Int32).toNatClampNeg) - (st.1 (17 : Int32).toNatClampNeg))), (0, .ref h0)]) hx hb dM_subtract_239 hl (by decide) rfl (fun ls hl => ?_)
      refine lv_iload hx hb dM_subtract_241 (lv_at hl 0 rfl) ?_
      refine lv_if_ne (tgt := 264) hx hb dM_subtract_243 (by decide) (fun _ => ?_) (fun h9 => absurd h9 (by decide))
      have e9 : f_M_subtract st = (vp_updL st.1 (18 : Int32).toNatClampNeg (((st.1 (16 : Int32).toNatClampNeg) - (st.1 (17 : Int32).toNatClampNeg)) &&& (((((((st.1 (16 : Int32).toNatClampNeg) - (st.1 (17 : Int32).toNatClampNeg)) + (st.2.1 (16 : Int32).toNatClampNeg)) ^^^ (((st.1 (16 : Int32).toNatClampNeg) - (st.1 (17 : Int32).toNatClampNeg)) - (st.2.1 (17 : Int32).toNatClampNeg))) ||| (st.2.1 (16 : Int32).toNatClampNeg)) ||| (st.2.1 (17 : Int32).toNatClampNeg)) ^^^ (-1))), vp_updL st.2.1 (18 : Int32).toNatClampNeg ((((((st.1 (16 : Int32).toNatClampNeg) - (st.1 (17 : Int32).toNatClampNeg)) + (st.2.1 (16 : Int32).toNatClampNeg)) ^^^ (((st.1 (16 : Int32).toNatClampNeg) - (st.1 (17 : Int32).toNatClampNeg)) - (st.2.1 (17 : Int32).toNatClampNeg))) ||| (st.2.1 (16 : Int32).toNatClampNeg)) ||| (st.2.1 (17 : Int32).toNatClampNeg)), st.2.2.1, st.2.2.2.1, st.2.2.2.2.1, st.2.2.2.2.2) := (if_neg c2).trans ((if_pos c3).trans (rfl))
      rw [e9]
      exact sp_vret C hAe hP hK hD hS dM_subtract_264
    · refine lv_aload_n hx hb dM_subtract_203 rfl (lv_at hl 4 rfl) ?_
      refine va_get (D := D) (ci := 4) (v := .ref a6) (C := RM) (T := TM) (N := 7) hx hb hts hi4 hown hK hP 0 rfl rfl 6 (by decide) hk6 (fun _ h9 => h9) rfl dM_subtract_204 ?_
      refine lv_bipush (v := 16) hx hb dM_subtract_207 (by decide) ?_
      refine va_lald hx hb hK hP 6 5 rfl rfl (vp_in_iff.mpr (by decide)) dM_subtract_209 ?_
      refine lv_aload_n hx hb dM_subtract_210 rfl (lv_at hl 4 rfl) ?_
      refine va_get (D := D) (ci := 4) (v := .ref a5) (C := RM) (T := TM) (N := 7) hx hb hts hi4 hown hK hP 0 rfl rfl 5 (by decide) hk5 (fun _ h9 => h9) rfl dM_subtract_211 ?_
      refine lv_bipush (v := 17) hx hb dM_subtract_214 (by decide) ?_
      refine va_lald hx hb hK hP 5 4 rfl rfl (vp_in_iff.mpr (by decide)) dM_subtract_216 ?_
      refine lv_lxor hx hb dM_subtract_217 ?_
      refine lv_aload_n hx hb dM_subtract_218 rfl (lv_at hl 4 rfl) ?_
      refine va_get (D := D) (ci := 4) (v := .ref a6) (C := RM) (T := TM) (N := 7) hx hb hts hi4 hown hK hP 0 rfl rfl 6 (by decide) hk6 (fun _ h9 => h9) rfl dM_subtract_219 ?_
      refine lv_bipush (v := 16) hx hb dM_subtract_222 (by decide) ?_
      refine va_lald hx hb hK hP 6 5 rfl rfl (vp_in_iff.mpr (by decide)) dM_subtract_224 ?_
      refine lv_lload hx hb dM_subtract_225 (lv_at hl 0 rfl) ?_
      refine lv_lxor hx hb dM_subtract_227 ?_
      refine lv_land hx hb dM_subtract_228 ?_
      refine lv_lconst (v := 0) hx hb dM_subtract_229 (by decide) ?_
      refine W.lcmp hx hb dM_subtract_230 ?_
      refine lv_if_ge (tgt := 238) hx hb dM_subtract_231 (by decide) (fun c4 => ?_) (fun c4 => ?_)
      · refine lv_iconst (v := 0) hx hb dM_subtract_238 (by decide) ?_
        refine lv_istore (lv' := [(9, .int 0), (7, .long ((st.2.2.2.2.2 (16 : Int32).toNatClampNeg) - (st.2.2.2.2.1 (17 : Int32).toNatClampNeg))), (5, .long ((st.2.2.2.2.1 (16 : Int32).toNatClampNeg) - (st.2.2.2.2.2 (17 : Int32).toNatClampNeg))), (3, .long ((((((st.1 (16 : Int32).toNatClampNeg) - (st.1 (17 : Int32).toNatClampNeg)) + (st.2.1 (16 : Int32).toNatClampNeg)) ^^^ (((st.1 (16 : Int32).toNatClampNeg) - (st.1 (17 : Int32).toNatClampNeg)) - (st.2.1 (17 : Int32).toNatClampNeg))) ||| (st.2.1 (16 : Int32).toNatClampNeg)) ||| (st.2.1 (17 : Int32).toNatClampNeg))), (1, .long ((st.1 (16 : Int32).toNatClampNeg) - (st.1 (17 : Int32).toNatClampNeg))), (0, .ref h0)]) hx hb dM_subtract_239 hl (by decide) rfl (fun ls hl => ?_)
        refine lv_iload hx hb dM_subtract_241 (lv_at hl 0 rfl) ?_
        refine lv_if_ne (tgt := 264) hx hb dM_subtract_243 (by decide) (fun h9 => absurd h9 (by decide)) (fun _ => ?_)
        refine lv_aload_n hx hb dM_subtract_246 rfl (lv_at hl 5 rfl) ?_
        refine va_get (D := D) (ci := 4) (v := .ref a5) (C := RM) (T := TM) (N := 7) hx hb hts hi4 hown hK hP 0 rfl rfl 5 (by decide) hk5 (fun _ h9 => h9) rfl dM_subtract_247 ?_
        refine lv_bipush (v := 18) hx hb dM_subtract_250 (by decide) ?_
        refine lv_lload hx hb dM_subtract_252 (lv_at hl 2 rfl) ?_
        refine va_last hx hb hK hP hD hS 5 4 rfl rfl (vp_in_iff.mpr (by decide)) dM_subtract_254 (fun H locs hP hD hS => ?_)
        have hP : va_P D vwCl ([(h0, .inr (4, [.int th, .ref a1, .ref a2, .ref a3, .ref a4, .ref a5, .ref a6])), (a1, .inl (cj1, 19, .inr (.inl (vp_updL st.1 (18 : Int32).toNatClampNeg (((st.1 (16 : Int32).toNatClampNeg) - (st.1 (17 : Int32).toNatClampNeg)) &&& (((((((st.1 (16 : Int32).toNatClampNeg) - (st.1 (17 : Int32).toNatClampNeg)) + (st.2.1 (16 : Int32).toNatClampNeg)) ^^^ (((st.1 (16 : Int32).toNatClampNeg) - (st.1 (17 : Int32).toNatClampNeg)) - (st.2.1 (17 : Int32).toNatClampNeg))) ||| (st.2.1 (16 : Int32).toNatClampNeg)) ||| (st.2.1 (17 : Int32).toNatClampNeg)) ^^^ (-1))))))), (a2, .inl (cj2, 19, .inr (.inl (vp_updL st.2.1 (18 : Int32).toNatClampNeg ((((((st.1 (16 : Int32).toNatClampNeg) - (st.1 (17 : Int32).toNatClampNeg)) + (st.2.1 (16 : Int32).toNatClampNeg)) ^^^ (((st.1 (16 : Int32).toNatClampNeg) - (st.1 (17 : Int32).toNatClampNeg)) - (st.2.1 (17 : Int32).toNatClampNeg))) ||| (st.2.1 (16 : Int32).toNatClampNeg)) ||| (st.2.1 (17 : Int32).toNatClampNeg)))))), (a3, .inl (cj3, 19, .inr (.inl st.2.2.1))), (a4, .inl (cj4, 19, .inr (.inl st.2.2.2.1))), (a5, .inl (cj5, 19, .inr (.inl (vp_updL st.2.2.2.2.1 (18 : Int32).toNatClampNeg ((st.2.2.2.2.1 (16 : Int32).toNatClampNeg) - (st.2.2.2.2.2 (17 : Int32).toNatClampNeg)))))), (a6, .inl (cj6, 19, .inr (.inl st.2.2.2.2.2)))]) H := hP
        have hD : va_D A ([(h0, .inr (4, [.int th, .ref a1, .ref a2, .ref a3, .ref a4, .ref a5, .ref a6])), (a1, .inl (cj1, 19, .inr (.inl (vp_updL st.1 (18 : Int32).toNatClampNeg (((st.1 (16 : Int32).toNatClampNeg) - (st.1 (17 : Int32).toNatClampNeg)) &&& (((((((st.1 (16 : Int32).toNatClampNeg) - (st.1 (17 : Int32).toNatClampNeg)) + (st.2.1 (16 : Int32).toNatClampNeg)) ^^^ (((st.1 (16 : Int32).toNatClampNeg) - (st.1 (17 : Int32).toNatClampNeg)) - (st.2.1 (17 : Int32).toNatClampNeg))) ||| (st.2.1 (16 : Int32).toNatClampNeg)) ||| (st.2.1 (17 : Int32).toNatClampNeg)) ^^^ (-1))))))), (a2, .inl (cj2, 19, .inr (.inl (vp_updL st.2.1 (18 : Int32).toNatClampNeg ((((((st.1 (16 : Int32).toNatClampNeg) - (st.1 (17 : Int32).toNatClampNeg)) + (st.2.1 (16 : Int32).toNatClampNeg)) ^^^ (((st.1 (16 : Int32).toNatClampNeg) - (st.1 (17 : Int32).toNatClampNeg)) - (st.2.1 (17 : Int32).toNatClampNeg))) ||| (st.2.1 (16 : Int32).toNatClampNeg)) ||| (st.2.1 (17 : Int32).toNatClampNeg)))))), (a3, .inl (cj3, 19, .inr (.inl st.2.2.1))), (a4, .inl (cj4, 19, .inr (.inl st.2.2.2.1))), (a5, .inl (cj5, 19, .inr (.inl (vp_updL st.2.2.2.2.1 (18 : Int32).toNatClampNeg ((st.2.2.2.2.1 (16 : Int32).toNatClampNeg) - (st.2.2.2.2.2 (17 : Int32).toNatClampNeg)))))), (a6, .inl (cj6, 19, .inr (.inl st.2.2.2.2.2)))]) := hD
        refine lv_aload_n hx hb dM_subtract_255 rfl (lv_at hl 5 rfl) ?_
        refine va_get (D := D) (ci := 4) (v := .ref a6) (C := RM) (T := TM) (N := 7) hx hb hts hi4 hown hK hP 0 rfl rfl 6 (by decide) hk6 (fun _ h9 => h9) rfl dM_subtract_256 ?_
        refine lv_bipush (v := 18) hx hb dM_subtract_259 (by decide) ?_
        refine lv_lload hx hb dM_subtract_261 (lv_at hl 1 rfl) ?_
        refine va_last hx hb hK hP hD hS 6 5 rfl rfl (vp_in_iff.mpr (by decide)) dM_subtract_263 (fun H locs hP hD hS => ?_)
        have hP : va_P D vwCl ([(h0, .inr (4, [.int th, .ref a1, .ref a2, .ref a3, .ref a4, .ref a5, .ref a6])), (a1, .inl (cj1, 19, .inr (.inl (vp_updL st.1 (18 : Int32).toNatClampNeg (((st.1 (16 : Int32).toNatClampNeg) - (st.1 (17 : Int32).toNatClampNeg)) &&& (((((((st.1 (16 : Int32).toNatClampNeg) - (st.1 (17 : Int32).toNatClampNeg)) + (st.2.1 (16 : Int32).toNatClampNeg)) ^^^ (((st.1 (16 : Int32).toNatClampNeg) - (st.1 (17 : Int32).toNatClampNeg)) - (st.2.1 (17 : Int32).toNatClampNeg))) ||| (st.2.1 (16 : Int32).toNatClampNeg)) ||| (st.2.1 (17 : Int32).toNatClampNeg)) ^^^ (-1))))))), (a2, .inl (cj2, 19, .inr (.inl (vp_updL st.2.1 (18 : Int32).toNatClampNeg ((((((st.1 (16 : Int32).toNatClampNeg) - (st.1 (17 : Int32).toNatClampNeg)) + (st.2.1 (16 : Int32).toNatClampNeg)) ^^^ (((st.1 (16 : Int32).toNatClampNeg) - (st.1 (17 : Int32).toNatClampNeg)) - (st.2.1 (17 : Int32).toNatClampNeg))) ||| (st.2.1 (16 : Int32).toNatClampNeg)) ||| (st.2.1 (17 : Int32).toNatClampNeg)))))), (a3, .inl (cj3, 19, .inr (.inl st.2.2.1))), (a4, .inl (cj4, 19, .inr (.inl st.2.2.2.1))), (a5, .inl (cj5, 19, .inr (.inl (vp_updL st.2.2.2.2.1 (18 : Int32).toNatClampNeg ((st.2.2.2.2.1 (16 : Int32).toNatClampNeg) - (st.2.2.2.2.2 (17 : Int32).toNatClampNeg)))))), (a6, .inl (cj6, 19, .inr (.inl (vp_updL st.2.2.2.2.2 (18 : Int32).toNatClampNeg ((st.2.2.2.2.2 (16 : Int32).toNatClampNeg) - (st.2.2.2.2.1 (17 : Int32).toNatClampNeg))))))]) H := hP
        have hD : va_D A ([(h0, .inr (4, [.int th, .ref a1, .ref a2, .ref a3, .ref a4, .ref a5, .ref a6])), (a1, .inl (cj1, 19, .inr (.inl (vp_updL st.1 (18 : Int32).toNatClampNeg (((st.1 (16 : Int32).toNatClampNeg) - (st.1 (17 : Int32).toNatClampNeg)) &&& (((((((st.1 (16 : Int32).toNatClampNeg) - (st.1 (17 : Int32).toNatClampNeg)) + (st.2.1 (16 : Int32).toNatClampNeg)) ^^^ (((st.1 (16 : Int32).toNatClampNeg) - (st.1 (17 : Int32).toNatClampNeg)) - (st.2.1 (17 : Int32).toNatClampNeg))) ||| (st.2.1 (16 : Int32).toNatClampNeg)) ||| (st.2.1 (17 : Int32).toNatClampNeg)) ^^^ (-1))))))), (a2, .inl (cj2, 19, .inr (.inl (vp_updL st.2.1 (18 : Int32).toNatClampNeg ((((((st.1 (16 : Int32).toNatClampNeg) - (st.1 (17 : Int32).toNatClampNeg)) + (st.2.1 (16 : Int32).toNatClampNeg)) ^^^ (((st.1 (16 : Int32).toNatClampNeg) - (st.1 (17 : Int32).toNatClampNeg)) - (st.2.1 (17 : Int32).toNatClampNeg))) ||| (st.2.1 (16 : Int32).toNatClampNeg)) ||| (st.2.1 (17 : Int32).toNatClampNeg)))))), (a3, .inl (cj3, 19, .inr (.inl st.2.2.1))), (a4, .inl (cj4, 19, .inr (.inl st.2.2.2.1))), (a5, .inl (cj5, 19, .inr (.inl (vp_updL st.2.2.2.2.1 (18 : Int32).toNatClampNeg ((st.2.2.2.2.1 (16 : Int32).toNatClampNeg) - (st.2.2.2.2.2 (17 : Int32).toNatClampNeg)))))), (a6, .inl (cj6, 19, .inr (.inl (vp_updL st.2.2.2.2.2 (18 : Int32).toNatClampNeg ((st.2.2.2.2.2 (16 : Int32).toNatClampNeg) - (st.2.2.2.2.1 (17 : Int32).toNatClampNeg))))))]) := hD
        have e9 : f_M_subtract st = (vp_updL st.1 (18 : Int32).toNatClampNeg (((st.1 (16 : Int32).toNatClampNeg) - (st.1 (17 : Int32).toNatClampNeg)) &&& (((((((st.1 (16 : Int32).toNatClampNeg) - (st.1 (17 : Int32).toNatClampNeg)) + (st.2.1 (16 : Int32).toNatClampNeg)) ^^^ (((st.1 (16 : Int32).toNatClampNeg) - (st.1 (17 : Int32).toNatClampNeg)) - (st.2.1 (17 : Int32).toNatClampNeg))) ||| (st.2.1 (16 : Int32).toNatClampNeg)) ||| (st.2.1 (17 : Int32).toNatClampNeg)) ^^^ (-1))), vp_updL st.2.1 (18 : Int32).toNatClampNeg ((((((st.1 (16 : Int32).toNatClampNeg) - (st.1 (17 : Int32).toNatClampNeg)) + (st.2.1 (16 : Int32).toNatClampNeg)) ^^^ (((st.1 (16 : Int32).toNatClampNeg) - (st.1 (17 : Int32).toNatClampNeg)) - (st.2.1 (17 : Int32).toNatClampNeg))) ||| (st.2.1 (16 : Int32).toNatClampNeg)) ||| (st.2.1 (17 : Int32).toNatClampNeg)), st.2.2.1, st.2.2.2.1, vp_updL st.2.2.2.2.1 (18 : Int32).toNatClampNeg ((st.2.2.2.2.1 (16 : Int32).toNatClampNeg) - (st.2.2.2.2.2 (17 : Int32).toNatClampNeg)), vp_updL st.2.2.2.2.2 (18 : Int32).toNatClampNeg ((st.2.2.2.2.2 (16 : Int32).toNatClampNeg) - (st.2.2.2.2.1 (17 : Int32).toNatClampNeg))) := (if_neg c2).trans ((if_neg c3).trans ((if_pos c4).trans (rfl)))
        rw [e9]
        exact sp_vret C hAe hP hK hD hS dM_subtract_264
      · refine lv_iconst (v := 1) hx hb dM_subtract_234 (by decide) ?_
        refine lv_goto (tgt := 239) hx hb dM_subtract_235 (by decide) ?_
        refine lv_istore (lv' := [(9, .int 1), (7, .long ((st.2.2.2.2.2 (16 : Int32).toNatClampNeg) - (st.2.2.2.2.1 (17 : Int32).toNatClampNeg))), (5, .long ((st.2.2.2.2.1 (16 : Int32).toNatClampNeg) - (st.2.2.2.2.2 (17 : Int32).toNatClampNeg))), (3, .long ((((((st.1 (16 : Int32).toNatClampNeg) - (st.1 (17 : Int32).toNatClampNeg)) + (st.2.1 (16 : Int32).toNatClampNeg)) ^^^ (((st.1 (16 : Int32).toNatClampNeg) - (st.1 (17 : Int32).toNatClampNeg)) - (st.2.1 (17 : Int32).toNatClampNeg))) ||| (st.2.1 (16 : Int32).toNatClampNeg)) ||| (st.2.1 (17 : Int32).toNatClampNeg))), (1, .long ((st.1 (16 : Int32).toNatClampNeg) - (st.1 (17 : Int32).toNatClampNeg))), (0, .ref h0)]) hx hb dM_subtract_239 hl (by decide) rfl (fun ls hl => ?_)
        refine lv_iload hx hb dM_subtract_241 (lv_at hl 0 rfl) ?_
        refine lv_if_ne (tgt := 264) hx hb dM_subtract_243 (by decide) (fun _ => ?_) (fun h9 => absurd h9 (by decide))
        have e9 : f_M_subtract st = (vp_updL st.1 (18 : Int32).toNatClampNeg (((st.1 (16 : Int32).toNatClampNeg) - (st.1 (17 : Int32).toNatClampNeg)) &&& (((((((st.1 (16 : Int32).toNatClampNeg) - (st.1 (17 : Int32).toNatClampNeg)) + (st.2.1 (16 : Int32).toNatClampNeg)) ^^^ (((st.1 (16 : Int32).toNatClampNeg) - (st.1 (17 : Int32).toNatClampNeg)) - (st.2.1 (17 : Int32).toNatClampNeg))) ||| (st.2.1 (16 : Int32).toNatClampNeg)) ||| (st.2.1 (17 : Int32).toNatClampNeg)) ^^^ (-1))), vp_updL st.2.1 (18 : Int32).toNatClampNeg ((((((st.1 (16 : Int32).toNatClampNeg) - (st.1 (17 : Int32).toNatClampNeg)) + (st.2.1 (16 : Int32).toNatClampNeg)) ^^^ (((st.1 (16 : Int32).toNatClampNeg) - (st.1 (17 : Int32).toNatClampNeg)) - (st.2.1 (17 : Int32).toNatClampNeg))) ||| (st.2.1 (16 : Int32).toNatClampNeg)) ||| (st.2.1 (17 : Int32).toNatClampNeg)), st.2.2.1, st.2.2.2.1, st.2.2.2.2.1, st.2.2.2.2.2) := (if_neg c2).trans ((if_neg c3).trans ((if_neg c4).trans (rfl)))
        rw [e9]
        exact sp_vret C hAe hP hK hD hS dM_subtract_264
  · refine lv_aload_n hx hb dM_subtract_94 rfl (lv_at hl 2 rfl) ?_
    refine va_get (D := D) (ci := 4) (v := .ref a3) (C := RM) (T := TM) (N := 7) hx hb hts hi4 hown hK hP 0 rfl rfl 3 (by decide) hk3 (fun _ h9 => h9) rfl dM_subtract_95 ?_
    refine lv_bipush (v := 18) hx hb dM_subtract_98 (by decide) ?_
    refine lv_aload_n hx hb dM_subtract_100 rfl (lv_at hl 2 rfl) ?_
    refine va_get (D := D) (ci := 4) (v := .ref a3) (C := RM) (T := TM) (N := 7) hx hb hts hi4 hown hK hP 0 rfl rfl 3 (by decide) hk3 (fun _ h9 => h9) rfl dM_subtract_101 ?_
    refine lv_bipush (v := 16) hx hb dM_subtract_104 (by decide) ?_
    refine va_lald hx hb hK hP 3 2 rfl rfl (vp_in_iff.mpr (by decide)) dM_subtract_106 ?_
    refine lv_aload_n hx hb dM_subtract_107 rfl (lv_at hl 2 rfl) ?_
    refine va_get (D := D) (ci := 4) (v := .ref a4) (C := RM) (T := TM) (N := 7) hx hb hts hi4 hown hK hP 0 rfl rfl 4 (by decide) hk4 (fun _ h9 => h9) rfl dM_subtract_108 ?_
    refine lv_bipush (v := 17) hx hb dM_subtract_111 (by decide) ?_
    refine va_lald hx hb hK hP 4 3 rfl rfl (vp_in_iff.mpr (by decide)) dM_subtract_113 ?_
    refine lv_lsub hx hb dM_subtract_114 ?_
    refine va_last hx hb hK hP hD hS 3 2 rfl rfl (vp_in_iff.mpr (by decide)) dM_subtract_115 (fun H locs hP hD hS => ?_)
    have hP : va_P D vwCl ([(h0, .inr (4, [.int th, .ref a1, .ref a2, .ref a3, .ref a4, .ref a5, .ref a6])), (a1, .inl (cj1, 19, .inr (.inl (vp_updL st.1 (18 : Int32).toNatClampNeg (((st.1 (16 : Int32).toNatClampNeg) - (st.1 (17 : Int32).toNatClampNeg)) &&& (((((((st.1 (16 : Int32).toNatClampNeg) - (st.1 (17 : Int32).toNatClampNeg)) + (st.2.1 (16 : Int32).toNatClampNeg)) ^^^ (((st.1 (16 : Int32).toNatClampNeg) - (st.1 (17 : Int32).toNatClampNeg)) - (st.2.1 (17 : Int32).toNatClampNeg))) ||| (st.2.1 (16 : Int32).toNatClampNeg)) ||| (st.2.1 (17 : Int32).toNatClampNeg)) ^^^ (-1))))))), (a2, .inl (cj2, 19, .inr (.inl (vp_updL st.2.1 (18 : Int32).toNatClampNeg ((((((st.1 (16 : Int32).toNatClampNeg) - (st.1 (17 : Int32).toNatClampNeg)) + (st.2.1 (16 : Int32).toNatClampNeg)) ^^^ (((st.1 (16 : Int32).toNatClampNeg) - (st.1 (17 : Int32).toNatClampNeg)) - (st.2.1 (17 : Int32).toNatClampNeg))) ||| (st.2.1 (16 : Int32).toNatClampNeg)) ||| (st.2.1 (17 : Int32).toNatClampNeg)))))), (a3, .inl (cj3, 19, .inr (.inl (vp_updL st.2.2.1 (18 : Int32).toNatClampNeg ((st.2.2.1 (16 : Int32).toNatClampNeg) - (st.2.2.2.1 (17 : Int32).toNatClampNeg)))))), (a4, .inl (cj4, 19, .inr (.inl st.2.2.2.1))), (a5, .inl (cj5, 19, .inr (.inl st.2.2.2.2.1))), (a6, .inl (cj6, 19, .inr (.inl st.2.2.2.2.2)))]) H := hP
    have hD : va_D A ([(h0, .inr (4, [.int th, .ref a1, .ref a2, .ref a3, .ref a4, .ref a5, .ref a6])), (a1, .inl (cj1, 19, .inr (.inl (vp_updL st.1 (18 : Int32).toNatClampNeg (((st.1 (16 : Int32).toNatClampNeg) - (st.1 (17 : Int32).toNatClampNeg)) &&& (((((((st.1 (16 : Int32).toNatClampNeg) - (st.1 (17 : Int32).toNatClampNeg)) + (st.2.1 (16 : Int32).toNatClampNeg)) ^^^ (((st.1 (16 : Int32).toNatClampNeg) - (st.1 (17 : Int32).toNatClampNeg)) - (st.2.1 (17 : Int32).toNatClampNeg))) ||| (st.2.1 (16 : Int32).toNatClampNeg)) ||| (st.2.1 (17 : Int32).toNatClampNeg)) ^^^ (-1))))))), (a2, .inl (cj2, 19, .inr (.inl (vp_updL st.2.1 (18 : Int32).toNatClampNeg ((((((st.1 (16 : Int32).toNatClampNeg) - (st.1 (17 : Int32).toNatClampNeg)) + (st.2.1 (16 : Int32).toNatClampNeg)) ^^^ (((st.1 (16 : Int32).toNatClampNeg) - (st.1 (17 : Int32).toNatClampNeg)) - (st.2.1 (17 : Int32).toNatClampNeg))) ||| (st.2.1 (16 : Int32).toNatClampNeg)) ||| (st.2.1 (17 : Int32).toNatClampNeg)))))), (a3, .inl (cj3, 19, .inr (.inl (vp_updL st.2.2.1 (18 : Int32).toNatClampNeg ((st.2.2.1 (16 : Int32).toNatClampNeg) - (st.2.2.2.1 (17 : Int32).toNatClampNeg)))))), (a4, .inl (cj4, 19, .inr (.inl st.2.2.2.1))), (a5, .inl (cj5, 19, .inr (.inl st.2.2.2.2.1))), (a6, .inl (cj6, 19, .inr (.inl st.2.2.2.2.2)))]) := hD
    refine lv_aload_n hx hb dM_subtract_116 rfl (lv_at hl 2 rfl) ?_
    refine va_get (D := D) (ci := 4) (v := .ref a4) (C := RM) (T := TM) (N := 7) hx hb hts hi4 hown hK hP 0 rfl rfl 4 (by decide) hk4 (fun _ h9 => h9) rfl dM_subtract_117 ?_
    refine lv_bipush (v := 18) hx hb dM_subtract_120 (by decide) ?_
    refine lv_aload_n hx hb dM_subtract_122 rfl (lv_at hl 2 rfl) ?_
    refine va_get (D := D) (ci := 4) (v := .ref a4) (C := RM) (T := TM) (N := 7) hx hb hts hi4 hown hK hP 0 rfl rfl 4 (by decide) hk4 (fun _ h9 => h9) rfl dM_subtract_123 ?_
    refine lv_bipush (v := 16) hx hb dM_subtract_126 (by decide) ?_
    refine va_lald hx hb hK hP 4 3 rfl rfl (vp_in_iff.mpr (by decide)) dM_subtract_128 ?_
    refine lv_aload_n hx hb dM_subtract_129 rfl (lv_at hl 2 rfl) ?_
    refine va_get (D := D) (ci := 4) (v := .ref a3) (C := RM) (T := TM) (N := 7) hx hb hts hi4 hown hK hP 0 rfl rfl 3 (by decide) hk3 (fun _ h9 => h9) rfl dM_subtract_130 ?_
    refine lv_bipush (v := 17) hx hb dM_subtract_133 (by decide) ?_
    refine va_lald hx hb hK hP 3 2 rfl rfl (vp_in_iff.mpr (by decide)) dM_subtract_135 ?_
    refine lv_lsub hx hb dM_subtract_136 ?_
    refine va_last hx hb hK hP hD hS 4 3 rfl rfl (vp_in_iff.mpr (by decide)) dM_subtract_137 (fun H locs hP hD hS => ?_)
    have hP : va_P D vwCl ([(h0, .inr (4, [.int th, .ref a1, .ref a2, .ref a3, .ref a4, .ref a5, .ref a6])), (a1, .inl (cj1, 19, .inr (.inl (vp_updL st.1 (18 : Int32).toNatClampNeg (((st.1 (16 : Int32).toNatClampNeg) - (st.1 (17 : Int32).toNatClampNeg)) &&& (((((((st.1 (16 : Int32).toNatClampNeg) - (st.1 (17 : Int32).toNatClampNeg)) + (st.2.1 (16 : Int32).toNatClampNeg)) ^^^ (((st.1 (16 : Int32).toNatClampNeg) - (st.1 (17 : Int32).toNatClampNeg)) - (st.2.1 (17 : Int32).toNatClampNeg))) ||| (st.2.1 (16 : Int32).toNatClampNeg)) ||| (st.2.1 (17 : Int32).toNatClampNeg)) ^^^ (-1))))))), (a2, .inl (cj2, 19, .inr (.inl (vp_updL st.2.1 (18 : Int32).toNatClampNeg ((((((st.1 (16 : Int32).toNatClampNeg) - (st.1 (17 : Int32).toNatClampNeg)) + (st.2.1 (16 : Int32).toNatClampNeg)) ^^^ (((st.1 (16 : Int32).toNatClampNeg) - (st.1 (17 : Int32).toNatClampNeg)) - (st.2.1 (17 : Int32).toNatClampNeg))) ||| (st.2.1 (16 : Int32).toNatClampNeg)) ||| (st.2.1 (17 : Int32).toNatClampNeg)))))), (a3, .inl (cj3, 19, .inr (.inl (vp_updL st.2.2.1 (18 : Int32).toNatClampNeg ((st.2.2.1 (16 : Int32).toNatClampNeg) - (st.2.2.2.1 (17 : Int32).toNatClampNeg)))))), (a4, .inl (cj4, 19, .inr (.inl (vp_updL st.2.2.2.1 (18 : Int32).toNatClampNeg ((st.2.2.2.1 (16 : Int32).toNatClampNeg) - ((vp_updL st.2.2.1 (18 : Int32).toNatClampNeg ((st.2.2.1 (16 : Int32).toNatClampNeg) - (st.2.2.2.1 (17 : Int32).toNatClampNeg))) (17 : Int32).toNatClampNeg)))))), (a5, .inl (cj5, 19, .inr (.inl st.2.2.2.2.1))), (a6, .inl (cj6, 19, .inr (.inl st.2.2.2.2.2)))]) H := hP
    have hD : va_D A ([(h0, .inr (4, [.int th, .ref a1, .ref a2, .ref a3, .ref a4, .ref a5, .ref a6])), (a1, .inl (cj1, 19, .inr (.inl (vp_updL st.1 (18 : Int32).toNatClampNeg (((st.1 (16 : Int32).toNatClampNeg) - (st.1 (17 : Int32).toNatClampNeg)) &&& (((((((st.1 (16 : Int32).toNatClampNeg) - (st.1 (17 : Int32).toNatClampNeg)) + (st.2.1 (16 : Int32).toNatClampNeg)) ^^^ (((st.1 (16 : Int32).toNatClampNeg) - (st.1 (17 : Int32).toNatClampNeg)) - (st.2.1 (17 : Int32).toNatClampNeg))) ||| (st.2.1 (16 : Int32).toNatClampNeg)) ||| (st.2.1 (17 : Int32).toNatClampNeg)) ^^^ (-1))))))), (a2, .inl (cj2, 19, .inr (.inl (vp_updL st.2.1 (18 : Int32).toNatClampNeg ((((((st.1 (16 : Int32).toNatClampNeg) - (st.1 (17 : Int32).toNatClampNeg)) + (st.2.1 (16 : Int32).toNatClampNeg)) ^^^ (((st.1 (16 : Int32).toNatClampNeg) - (st.1 (17 : Int32).toNatClampNeg)) - (st.2.1 (17 : Int32).toNatClampNeg))) ||| (st.2.1 (16 : Int32).toNatClampNeg)) ||| (st.2.1 (17 : Int32).toNatClampNeg)))))), (a3, .inl (cj3, 19, .inr (.inl (vp_updL st.2.2.1 (18 : Int32).toNatClampNeg ((st.2.2.1 (16 : Int32).toNatClampNeg) - (st.2.2.2.1 (17 : Int32).toNatClampNeg)))))), (a4, .inl (cj4, 19, .inr (.inl (vp_updL st.2.2.2.1 (18 : Int32).toNatClampNeg ((st.2.2.2.1 (16 : Int32).toNatClampNeg) - ((vp_updL st.2.2.1 (18 : Int32).toNatClampNeg ((st.2.2.1 (16 : Int32).toNatClampNeg) - (st.2.2.2.1 (17 : Int32).toNatClampNeg))) (17 : Int32).toNatClampNeg)))))), (a5, .inl (cj5, 19, .inr (.inl st.2.2.2.2.1))), (a6, .inl (cj6, 19, .inr (.inl st.2.2.2.2.2)))]) := hD
    refine lv_aload_n hx hb dM_subtract_138 rfl (lv_at hl 2 rfl) ?_
    refine va_get (D := D) (ci := 4) (v := .ref a5) (C := RM) (T := TM) (N := 7) hx hb hts hi4 hown hK hP 0 rfl rfl 5 (by decide) hk5 (fun _ h9 => h9) rfl dM_subtract_139 ?_
    refine lv_bipush (v := 16) hx hb dM_subtract_142 (by decide) ?_
    refine va_lald hx hb hK hP 5 4 rfl rfl (vp_in_iff.mpr (by decide)) dM_subtract_144 ?_
    refine lv_aload_n hx hb dM_subtract_145 rfl (lv_at hl 2 rfl) ?_
    refine va_get (D := D) (ci := 4) (v := .ref a6) (C := RM) (T := TM) (N := 7) hx hb hts hi4 hown hK hP 0 rfl rfl 6 (by decide) hk6 (fun _ h9 => h9) rfl dM_subtract_146 ?_
    refine lv_bipush (v := 17) hx hb dM_subtract_149 (by decide) ?_
    refine va_lald hx hb hK hP 6 5 rfl rfl (vp_in_iff.mpr (by decide)) dM_subtract_151 ?_
    refine lv_lsub hx hb dM_subtract_152 ?_
    refine lv_lstore (lv' := [(5, .long ((st.2.2.2.2.1 (16 : Int32).toNatClampNeg) - (st.2.2.2.2.2 (17 : Int32).toNatClampNeg))), (3, .long ((((((st.1 (16 : Int32).toNatClampNeg) - (st.1 (17 : Int32).toNatClampNeg)) + (st.2.1 (16 : Int32).toNatClampNeg)) ^^^ (((st.1 (16 : Int32).toNatClampNeg) - (st.1 (17 : Int32).toNatClampNeg)) - (st.2.1 (17 : Int32).toNatClampNeg))) ||| (st.2.1 (16 : Int32).toNatClampNeg)) ||| (st.2.1 (17 : Int32).toNatClampNeg))), (1, .long ((st.1 (16 : Int32).toNatClampNeg) - (st.1 (17 : Int32).toNatClampNeg))), (0, .ref h0)]) hx hb dM_subtract_153 hl (by decide) rfl (fun ls hl => ?_)
    refine lv_aload_n hx hb dM_subtract_155 rfl (lv_at hl 3 rfl) ?_
    refine va_get (D := D) (ci := 4) (v := .ref a6) (C := RM) (T := TM) (N := 7) hx hb hts hi4 hown hK hP 0 rfl rfl 6 (by decide) hk6 (fun _ h9 => h9) rfl dM_subtract_156 ?_
    refine lv_bipush (v := 16) hx hb dM_subtract_159 (by decide) ?_
    refine va_lald hx hb hK hP 6 5 rfl rfl (vp_in_iff.mpr (by decide)) dM_subtract_161 ?_
    refine lv_aload_n hx hb dM_subtract_162 rfl (lv_at hl 3 rfl) ?_
    refine va_get (D := D) (ci := 4) (v := .ref a5) (C := RM) (T := TM) (N := 7) hx hb hts hi4 hown hK hP 0 rfl rfl 5 (by decide) hk5 (fun _ h9 => h9) rfl dM_subtract_163 ?_
    refine lv_bipush (v := 17) hx hb dM_subtract_166 (by decide) ?_
    refine va_lald hx hb hK hP 5 4 rfl rfl (vp_in_iff.mpr (by decide)) dM_subtract_168 ?_
    refine lv_lsub hx hb dM_subtract_169 ?_
    refine lv_lstore (lv' := [(7, .long ((st.2.2.2.2.2 (16 : Int32).toNatClampNeg) - (st.2.2.2.2.1 (17 : Int32).toNatClampNeg))), (5, .long ((st.2.2.2.2.1 (16 : Int32).toNatClampNeg) - (st.2.2.2.2.2 (17 : Int32).toNatClampNeg))), (3, .long ((((((st.1 (16 : Int32).toNatClampNeg) - (st.1 (17 : Int32).toNatClampNeg)) + (st.2.1 (16 : Int32).toNatClampNeg)) ^^^ (((st.1 (16 : Int32).toNatClampNeg) - (st.1 (17 : Int32).toNatClampNeg)) - (st.2.1 (17 : Int32).toNatClampNeg))) ||| (st.2.1 (16 : Int32).toNatClampNeg)) ||| (st.2.1 (17 : Int32).toNatClampNeg))), (1, .long ((st.1 (16 : Int32).toNatClampNeg) - (st.1 (17 : Int32).toNatClampNeg))), (0, .ref h0)]) hx hb dM_subtract_170 hl (by decide) rfl (fun ls hl => ?_)
    refine lv_aload_n hx hb dM_subtract_172 rfl (lv_at hl 4 rfl) ?_
    refine va_get (D := D) (ci := 4) (v := .ref a5) (C := RM) (T := TM) (N := 7) hx hb hts hi4 hown hK hP 0 rfl rfl 5 (by decide) hk5 (fun _ h9 => h9) rfl dM_subtract_173 ?_
    refine lv_bipush (v := 16) hx hb dM_subtract_176 (by decide) ?_
    refine va_lald hx hb hK hP 5 4 rfl rfl (vp_in_iff.mpr (by decide)) dM_subtract_178 ?_
    refine lv_aload_n hx hb dM_subtract_179 rfl (lv_at hl 4 rfl) ?_
    refine va_get (D := D) (ci := 4) (v := .ref a6) (C := RM) (T := TM) (N := 7) hx hb hts hi4 hown hK hP 0 rfl rfl 6 (by decide) hk6 (fun _ h9 => h9) rfl dM_subtract_180 ?_
    refine lv_bipush (v := 17) hx hb dM_subtract_183 (by decide) ?_
    refine va_lald hx hb hK hP 6 5 rfl rfl (vp_in_iff.mpr (by decide)) dM_subtract_185 ?_
    refine lv_lxor hx hb dM_subtract_186 ?_
    refine lv_aload_n hx hb dM_subtract_187 rfl (lv_at hl 4 rfl) ?_
    refine va_get (D := D) (ci := 4) (v := .ref a5) (C := RM) (T := TM) (N := 7) hx hb hts hi4 hown hK hP 0 rfl rfl 5 (by decide) hk5 (fun _ h9 => h9) rfl dM_subtract_188 ?_
    refine lv_bipush (v := 16) hx hb dM_subtract_191 (by decide) ?_
    refine va_lald hx hb hK hP 5 4 rfl rfl (vp_in_iff.mpr (by decide)) dM_subtract_193 ?_
    refine lv_lload hx hb dM_subtract_194 (lv_at hl 1 rfl) ?_
    refine lv_lxor hx hb dM_subtract_196 ?_
    refine lv_land hx hb dM_subtract_197 ?_
    refine lv_lconst (v := 0) hx hb dM_subtract_198 (by decide) ?_
    refine W.lcmp hx hb dM_subtract_199 ?_
    refine lv_if_lt (tgt := 234) hx hb dM_subtract_200 (by decide) (fun c5 => ?_) (fun c5 => ?_)
    · refine lv_iconst (v := 1) hx hb dM_subtract_234 (by decide) ?_
      refine lv_goto (tgt := 239) hx hb dM_subtract_235 (by decide) ?_
      refine lv_istore (lv' := [(9, .int 1), (7, .long ((st.2.2.2.2.2 (16 : Int32).toNatClampNeg) - (st.2.2.2.2.1 (17 : Int32).toNatClampNeg))), (5, .long ((st.2.2.2.2.1 (16 : Int32).toNatClampNeg) - (st.2.2.2.2.2 (17 : Int32).toNatClampNeg))), (3, .long ((((((st.1 (16 : Int32).toNatClampNeg) - (st.1 (17 : Int32).toNatClampNeg)) + (st.2.1 (16 : Int32).toNatClampNeg)) ^^^ (((st.1 (16 : Int32).toNatClampNeg) - (st.1 (17 : Int32).toNatClampNeg)) - (st.2.1 (17 : Int32).toNatClampNeg))) ||| (st.2.1 (16 : Int32).toNatClampNeg)) ||| (st.2.1 (17 : Int32).toNatClampNeg))), (1, .long ((st.1 (16 : Int32).toNatClampNeg) - (st.1 (17 : Int32).toNatClampNeg))), (0, .ref h0)]) hx hb dM_subtract_239 hl (by decide) rfl (fun ls hl => ?_)
      refine lv_iload hx hb dM_subtract_241 (lv_at hl 0 rfl) ?_
      refine lv_if_ne (tgt := 264) hx hb dM_subtract_243 (by decide) (fun _ => ?_) (fun h9 => absurd h9 (by decide))
      have e9 : f_M_subtract st = (vp_updL st.1 (18 : Int32).toNatClampNeg (((st.1 (16 : Int32).toNatClampNeg) - (st.1 (17 : Int32).toNatClampNeg)) &&& (((((((st.1 (16 : Int32).toNatClampNeg) - (st.1 (17 : Int32).toNatClampNeg)) + (st.2.1 (16 : Int32).toNatClampNeg)) ^^^ (((st.1 (16 : Int32).toNatClampNeg) - (st.1 (17 : Int32).toNatClampNeg)) - (st.2.1 (17 : Int32).toNatClampNeg))) ||| (st.2.1 (16 : Int32).toNatClampNeg)) ||| (st.2.1 (17 : Int32).toNatClampNeg)) ^^^ (-1))), vp_updL st.2.1 (18 : Int32).toNatClampNeg ((((((st.1 (16 : Int32).toNatClampNeg) - (st.1 (17 : Int32).toNatClampNeg)) + (st.2.1 (16 : Int32).toNatClampNeg)) ^^^ (((st.1 (16 : Int32).toNatClampNeg) - (st.1 (17 : Int32).toNatClampNeg)) - (st.2.1 (17 : Int32).toNatClampNeg))) ||| (st.2.1 (16 : Int32).toNatClampNeg)) ||| (st.2.1 (17 : Int32).toNatClampNeg)), vp_updL st.2.2.1 (18 : Int32).toNatClampNeg ((st.2.2.1 (16 : Int32).toNatClampNeg) - (st.2.2.2.1 (17 : Int32).toNatClampNeg)), vp_updL st.2.2.2.1 (18 : Int32).toNatClampNeg ((st.2.2.2.1 (16 : Int32).toNatClampNeg) - ((vp_updL st.2.2.1 (18 : Int32).toNatClampNeg ((st.2.2.1 (16 : Int32).toNatClampNeg) - (st.2.2.2.1 (17 : Int32).toNatClampNeg))) (17 : Int32).toNatClampNeg)), st.2.2.2.2.1, st.2.2.2.2.2) := (if_pos c2).trans ((if_pos c5).trans (rfl))
      rw [e9]
      exact sp_vret C hAe hP hK hD hS dM_subtract_264
    · refine lv_aload_n hx hb dM_subtract_203 rfl (lv_at hl 4 rfl) ?_
      refine va_get (D := D) (ci := 4) (v := .ref a6) (C := RM) (T := TM) (N := 7) hx hb hts hi4 hown hK hP 0 rfl rfl 6 (by decide) hk6 (fun _ h9 => h9) rfl dM_subtract_204 ?_
      refine lv_bipush (v := 16) hx hb dM_subtract_207 (by decide) ?_
      refine va_lald hx hb hK hP 6 5 rfl rfl (vp_in_iff.mpr (by decide)) dM_subtract_209 ?_
      refine lv_aload_n hx hb dM_subtract_210 rfl (lv_at hl 4 rfl) ?_
      refine va_get (D := D) (ci := 4) (v := .ref a5) (C := RM) (T := TM) (N := 7) hx hb hts hi4 hown hK hP 0 rfl rfl 5 (by decide) hk5 (fun _ h9 => h9) rfl dM_subtract_211 ?_
      refine lv_bipush (v := 17) hx hb dM_subtract_214 (by decide) ?_
      refine va_lald hx hb hK hP 5 4 rfl rfl (vp_in_iff.mpr (by decide)) dM_subtract_216 ?_
      refine lv_lxor hx hb dM_subtract_217 ?_
      refine lv_aload_n hx hb dM_subtract_218 rfl (lv_at hl 4 rfl) ?_
      refine va_get (D := D) (ci := 4) (v := .ref a6) (C := RM) (T := TM) (N := 7) hx hb hts hi4 hown hK hP 0 rfl rfl 6 (by decide) hk6 (fun _ h9 => h9) rfl dM_subtract_219 ?_
      refine lv_bipush (v := 16) hx hb dM_subtract_222 (by decide) ?_
      refine va_lald hx hb hK hP 6 5 rfl rfl (vp_in_iff.mpr (by decide)) dM_subtract_224 ?_
      refine lv_lload hx hb dM_subtract_225 (lv_at hl 0 rfl) ?_
      refine lv_lxor hx hb dM_subtract_227 ?_
      refine lv_land hx hb dM_subtract_228 ?_
      refine lv_lconst (v := 0) hx hb dM_subtract_229 (by decide) ?_
      refine W.lcmp hx hb dM_subtract_230 ?_
      refine lv_if_ge (tgt := 238) hx hb dM_subtract_231 (by decide) (fun c6 => ?_) (fun c6 => ?_)
      · refine lv_iconst (v := 0) hx hb dM_subtract_238 (by decide) ?_
        refine lv_istore (lv' := [(9, .int 0), (7, .long ((st.2.2.2.2.2 (16 : Int32).toNatClampNeg) - (st.2.2.2.2.1 (17 : Int32).toNatClampNeg))), (5, .long ((st.2.2.2.2.1 (16 : Int32).toNatClampNeg) - (st.2.2.2.2.2 (17 : Int32).toNatClampNeg))), (3, .long ((((((st.1 (16 : Int32).toNatClampNeg) - (st.1 (17 : Int32).toNatClampNeg)) + (st.2.1 (16 : Int32).toNatClampNeg)) ^^^ (((st.1 (16 : Int32).toNatClampNeg) - (st.1 (17 : Int32).toNatClampNeg)) - (st.2.1 (17 : Int32).toNatClampNeg))) ||| (st.2.1 (16 : Int32).toNatClampNeg)) ||| (st.2.1 (17 : Int32).toNatClampNeg))), (1, .long ((st.1 (16 : Int32).toNatClampNeg) - (st.1 (17 : Int32).toNatClampNeg))), (0, .ref h0)]) hx hb dM_subtract_239 hl (by decide) rfl (fun ls hl => ?_)
        refine lv_iload hx hb dM_subtract_241 (lv_at hl 0 rfl) ?_
        refine lv_if_ne (tgt := 264) hx hb dM_subtract_243 (by decide) (fun h9 => absurd h9 (by decide)) (fun _ => ?_)
        refine lv_aload_n hx hb dM_subtract_246 rfl (lv_at hl 5 rfl) ?_
        refine va_get (D := D) (ci := 4) (v := .ref a5) (C := RM) (T := TM) (N := 7) hx hb hts hi4 hown hK hP 0 rfl rfl 5 (by decide) hk5 (fun _ h9 => h9) rfl dM_subtract_247 ?_
        refine lv_bipush (v := 18) hx hb dM_subtract_250 (by decide) ?_
        refine lv_lload hx hb dM_subtract_252 (lv_at hl 2 rfl) ?_
        refine va_last hx hb hK hP hD hS 5 4 rfl rfl (vp_in_iff.mpr (by decide)) dM_subtract_254 (fun H locs hP hD hS => ?_)
        have hP : va_P D vwCl ([(h0, .inr (4, [.int th, .ref a1, .ref a2, .ref a3, .ref a4, .ref a5, .ref a6])), (a1, .inl (cj1, 19, .inr (.inl (vp_updL st.1 (18 : Int32).toNatClampNeg (((st.1 (16 : Int32).toNatClampNeg) - (st.1 (17 : Int32).toNatClampNeg)) &&& (((((((st.1 (16 : Int32).toNatClampNeg) - (st.1 (17 : Int32).toNatClampNeg)) + (st.2.1 (16 : Int32).toNatClampNeg)) ^^^ (((st.1 (16 : Int32).toNatClampNeg) - (st.1 (17 : Int32).toNatClampNeg)) - (st.2.1 (17 : Int32).toNatClampNeg))) ||| (st.2.1 (16 : Int32).toNatClampNeg)) ||| (st.2.1 (17 : Int32).toNatClampNeg)) ^^^ (-1))))))), (a2, .inl (cj2, 19, .inr (.inl (vp_updL st.2.1 (18 : Int32).toNatClampNeg ((((((st.1 (16 : Int32).toNatClampNeg) - (st.1 (17 : Int32).toNatClampNeg)) + (st.2.1 (16 : Int32).toNatClampNeg)) ^^^ (((st.1 (16 : Int32).toNatClampNeg) - (st.1 (17 : Int32).toNatClampNeg)) - (st.2.1 (17 : Int32).toNatClampNeg))) ||| (st.2.1 (16 : Int32).toNatClampNeg)) ||| (st.2.1 (17 : Int32).toNatClampNeg)))))), (a3, .inl (cj3, 19, .inr (.inl (vp_updL st.2.2.1 (18 : Int32).toNatClampNeg ((st.2.2.1 (16 : Int32).toNatClampNeg) - (st.2.2.2.1 (17 : Int32).toNatClampNeg)))))), (a4, .inl (cj4, 19, .inr (.inl (vp_updL st.2.2.2.1 (18 : Int32).toNatClampNeg ((st.2.2.2.1 (16 : Int32).toNatClampNeg) - ((vp_updL st.2.2.1 (18 : Int32).toNatClampNeg ((st.2.2.1 (16 : Int32).toNatClampNeg) - (st.2.2.2.1 (17 : Int32).toNatClampNeg))) (17 : Int32).toNatClampNeg)))))), (a5, .inl (cj5, 19, .inr (.inl (vp_updL st.2.2.2.2.1 (18 : Int32).toNatClampNeg ((st.2.2.2.2.1 (16 : Int32).toNatClampNeg) - (st.2.2.2.2.2 (17 : Int32).toNatClampNeg)))))), (a6, .inl (cj6, 19, .inr (.inl st.2.2.2.2.2)))]) H := hP
        have hD : va_D A ([(h0, .inr (4, [.int th, .ref a1, .ref a2, .ref a3, .ref a4, .ref a5, .ref a6])), (a1, .inl (cj1, 19, .inr (.inl (vp_updL st.1 (18 : Int32).toNatClampNeg (((st.1 (16 : Int32).toNatClampNeg) - (st.1 (17 : Int32).toNatClampNeg)) &&& (((((((st.1 (16 : Int32).toNatClampNeg) - (st.1 (17 : Int32).toNatClampNeg)) + (st.2.1 (16 : Int32).toNatClampNeg)) ^^^ (((st.1 (16 : Int32).toNatClampNeg) - (st.1 (17 : Int32).toNatClampNeg)) - (st.2.1 (17 : Int32).toNatClampNeg))) ||| (st.2.1 (16 : Int32).toNatClampNeg)) ||| (st.2.1 (17 : Int32).toNatClampNeg)) ^^^ (-1))))))), (a2, .inl (cj2, 19, .inr (.inl (vp_updL st.2.1 (18 : Int32).toNatClampNeg ((((((st.1 (16 : Int32).toNatClampNeg) - (st.1 (17 : Int32).toNatClampNeg)) + (st.2.1 (16 : Int32).toNatClampNeg)) ^^^ (((st.1 (16 : Int32).toNatClampNeg) - (st.1 (17 : Int32).toNatClampNeg)) - (st.2.1 (17 : Int32).toNatClampNeg))) ||| (st.2.1 (16 : Int32).toNatClampNeg)) ||| (st.2.1 (17 : Int32).toNatClampNeg)))))), (a3, .inl (cj3, 19, .inr (.inl (vp_updL st.2.2.1 (18 : Int32).toNatClampNeg ((st.2.2.1 (16 : Int32).toNatClampNeg) - (st.2.2.2.1 (17 : Int32).toNatClampNeg)))))), (a4, .inl (cj4, 19, .inr (.inl (vp_updL st.2.2.2.1 (18 : Int32).toNatClampNeg ((st.2.2.2.1 (16 : Int32).toNatClampNeg) - ((vp_updL st.2.2.1 (18 : Int32).toNatClampNeg ((st.2.2.1 (16 : Int32).toNatClampNeg) - (st.2.2.2.1 (17 : Int32).toNatClampNeg))) (17 : Int32).toNatClampNeg)))))), (a5, .inl (cj5, 19, .inr (.inl (vp_updL st.2.2.2.2.1 (18 : Int32).toNatClampNeg ((st.2.2.2.2.1 (16 : Int32).toNatClampNeg) - (st.2.2.2.2.2 (17 : Int32).toNatClampNeg)))))), (a6, .inl (cj6, 19, .inr (.inl st.2.2.2.2.2)))]) := hD
        refine lv_aload_n hx hb dM_subtract_255 rfl (lv_at hl 5 rfl) ?_
        refine va_get (D := D) (ci := 4) (v := .ref a6) (C := RM) (T := TM) (N := 7) hx hb hts hi4 hown hK hP 0 rfl rfl 6 (by decide) hk6 (fun _ h9 => h9) rfl dM_subtract_256 ?_
        refine lv_bipush (v := 18) hx hb dM_subtract_259 (by decide) ?_
        refine lv_lload hx hb dM_subtract_261 (lv_at hl 1 rfl) ?_
        refine va_last hx hb hK hP hD hS 6 5 rfl rfl (vp_in_iff.mpr (by decide)) dM_subtract_263 (fun H locs hP hD hS => ?_)
        have hP : va_P D vwCl ([(h0, .inr (4, [.int th, .ref a1, .ref a2, .ref a3, .ref a4, .ref a5, .ref a6])), (a1, .inl (cj1, 19, .inr (.inl (vp_updL st.1 (18 : Int32).toNatClampNeg (((st.1 (16 : Int32).toNatClampNeg) - (st.1 (17 : Int32).toNatClampNeg)) &&& (((((((st.1 (16 : Int32).toNatClampNeg) - (st.1 (17 : Int32).toNatClampNeg)) + (st.2.1 (16 : Int32).toNatClampNeg)) ^^^ (((st.1 (16 : Int32).toNatClampNeg) - (st.1 (17 : Int32).toNatClampNeg)) - (st.2.1 (17 : Int32).toNatClampNeg))) ||| (st.2.1 (16 : Int32).toNatClampNeg)) ||| (st.2.1 (17 : Int32).toNatClampNeg)) ^^^ (-1))))))), (a2, .inl (cj2, 19, .inr (.inl (vp_updL st.2.1 (18 : Int32).toNatClampNeg ((((((st.1 (16 : Int32).toNatClampNeg) - (st.1 (17 : Int32).toNatClampNeg)) + (st.2.1 (16 : Int32).toNatClampNeg)) ^^^ (((st.1 (16 : Int32).toNatClampNeg) - (st.1 (17 : Int32).toNatClampNeg)) - (st.2.1 (17 : Int32).toNatClampNeg))) ||| (st.2.1 (16 : Int32).toNatClampNeg)) ||| (st.2.1 (17 : Int32).toNatClampNeg)))))), (a3, .inl (cj3, 19, .inr (.inl (vp_updL st.2.2.1 (18 : Int32).toNatClampNeg ((st.2.2.1 (16 : Int32).toNatClampNeg) - (st.2.2.2.1 (17 : Int32).toNatClampNeg)))))), (a4, .inl (cj4, 19, .inr (.inl (vp_updL st.2.2.2.1 (18 : Int32).toNatClampNeg ((st.2.2.2.1 (16 : Int32).toNatClampNeg) - ((vp_updL st.2.2.1 (18 : Int32).toNatClampNeg ((st.2.2.1 (16 : Int32).toNatClampNeg) - (st.2.2.2.1 (17 : Int32).toNatClampNeg))) (17 : Int32).toNatClampNeg)))))), (a5, .inl (cj5, 19, .inr (.inl (vp_updL st.2.2.2.2.1 (18 : Int32).toNatClampNeg ((st.2.2.2.2.1 (16 : Int32).toNatClampNeg) - (st.2.2.2.2.2 (17 : Int32).toNatClampNeg)))))), (a6, .inl (cj6, 19, .inr (.inl (vp_updL st.2.2.2.2.2 (18 : Int32).toNatClampNeg ((st.2.2.2.2.2 (16 : Int32).toNatClampNeg) - (st.2.2.2.2.1 (17 : Int32).toNatClampNeg))))))]) H := hP
        have hD : va_D A ([(h0, .inr (4, [.int th, .ref a1, .ref a2, .ref a3, .ref a4, .ref a5, .ref a6])), (a1, .inl (cj1, 19, .inr (.inl (vp_updL st.1 (18 : Int32).toNatClampNeg (((st.1 (16 : Int32).toNatClampNeg) - (st.1 (17 : Int32).toNatClampNeg)) &&& (((((((st.1 (16 : Int32).toNatClampNeg) - (st.1 (17 : Int32).toNatClampNeg)) + (st.2.1 (16 : Int32).toNatClampNeg)) ^^^ (((st.1 (16 : Int32).toNatClampNeg) - (st.1 (17 : Int32).toNatClampNeg)) - (st.2.1 (17 : Int32).toNatClampNeg))) ||| (st.2.1 (16 : Int32).toNatClampNeg)) ||| (st.2.1 (17 : Int32).toNatClampNeg)) ^^^ (-1))))))), (a2, .inl (cj2, 19, .inr (.inl (vp_updL st.2.1 (18 : Int32).toNatClampNeg ((((((st.1 (16 : Int32).toNatClampNeg) - (st.1 (17 : Int32).toNatClampNeg)) + (st.2.1 (16 : Int32).toNatClampNeg)) ^^^ (((st.1 (16 : Int32).toNatClampNeg) - (st.1 (17 : Int32).toNatClampNeg)) - (st.2.1 (17 : Int32).toNatClampNeg))) ||| (st.2.1 (16 : Int32).toNatClampNeg)) ||| (st.2.1 (17 : Int32).toNatClampNeg)))))), (a3, .inl (cj3, 19, .inr (.inl (vp_updL st.2.2.1 (18 : Int32).toNatClampNeg ((st.2.2.1 (16 : Int32).toNatClampNeg) - (st.2.2.2.1 (17 : Int32).toNatClampNeg)))))), (a4, .inl (cj4, 19, .inr (.inl (vp_updL st.2.2.2.1 (18 : Int32).toNatClampNeg ((st.2.2.2.1 (16 : Int32).toNatClampNeg) - ((vp_updL st.2.2.1 (18 : Int32).toNatClampNeg ((st.2.2.1 (16 : Int32).toNatClampNeg) - (st.2.2.2.1 (17 : Int32).toNatClampNeg))) (17 : Int32).toNatClampNeg)))))), (a5, .inl (cj5, 19, .inr (.inl (vp_updL st.2.2.2.2.1 (18 : Int32).toNatClampNeg ((st.2.2.2.2.1 (16 : Int32).toNatClampNeg) - (st.2.2.2.2.2 (17 : Int32).toNatClampNeg)))))), (a6, .inl (cj6, 19, .inr (.inl (vp_updL st.2.2.2.2.2 (18 : Int32).toNatClampNeg ((st.2.2.2.2.2 (16 : Int32).toNatClampNeg) - (st.2.2.2.2.1 (17 : Int32).toNatClampNeg))))))]) := hD
        have e9 : f_M_subtract st = (vp_updL st.1 (18 : Int32).toNatClampNeg (((st.1 (16 : Int32).toNatClampNeg) - (st.1 (17 : Int32).toNatClampNeg)) &&& (((((((st.1 (16 : Int32).toNatClampNeg) - (st.1 (17 : Int32).toNatClampNeg)) + (st.2.1 (16 : Int32).toNatClampNeg)) ^^^ (((st.1 (16 : Int32).toNatClampNeg) - (st.1 (17 : Int32).toNatClampNeg)) - (st.2.1 (17 : Int32).toNatClampNeg))) ||| (st.2.1 (16 : Int32).toNatClampNeg)) ||| (st.2.1 (17 : Int32).toNatClampNeg)) ^^^ (-1))), vp_updL st.2.1 (18 : Int32).toNatClampNeg ((((((st.1 (16 : Int32).toNatClampNeg) - (st.1 (17 : Int32).toNatClampNeg)) + (st.2.1 (16 : Int32).toNatClampNeg)) ^^^ (((st.1 (16 : Int32).toNatClampNeg) - (st.1 (17 : Int32).toNatClampNeg)) - (st.2.1 (17 : Int32).toNatClampNeg))) ||| (st.2.1 (16 : Int32).toNatClampNeg)) ||| (st.2.1 (17 : Int32).toNatClampNeg)), vp_updL st.2.2.1 (18 : Int32).toNatClampNeg ((st.2.2.1 (16 : Int32).toNatClampNeg) - (st.2.2.2.1 (17 : Int32).toNatClampNeg)), vp_updL st.2.2.2.1 (18 : Int32).toNatClampNeg ((st.2.2.2.1 (16 : Int32).toNatClampNeg) - ((vp_updL st.2.2.1 (18 : Int32).toNatClampNeg ((st.2.2.1 (16 : Int32).toNatClampNeg) - (st.2.2.2.1 (17 : Int32).toNatClampNeg))) (17 : Int32).toNatClampNeg)), vp_updL st.2.2.2.2.1 (18 : Int32).toNatClampNeg ((st.2.2.2.2.1 (16 : Int32).toNatClampNeg) - (st.2.2.2.2.2 (17 : Int32).toNatClampNeg)), vp_updL st.2.2.2.2.2 (18 : Int32).toNatClampNeg ((st.2.2.2.2.2 (16 : Int32).toNatClampNeg) - (st.2.2.2.2.1 (17 : Int32).toNatClampNeg))) := (if_pos c2).trans ((if_neg c5).trans ((if_pos c6).trans (rfl)))
        rw [e9]
        exact sp_vret C hAe hP hK hD hS dM_subtract_264
      · refine lv_iconst (v := 1) hx hb dM_subtract_234 (by decide) ?_
        refine lv_goto (tgt := 239) hx hb dM_subtract_235 (by decide) ?_
        refine lv_istore (lv' := [(9, .int 1), (7, .long ((st.2.2.2.2.2 (16 : Int32).toNatClampNeg) - (st.2.2.2.2.1 (17 : Int32).toNatClampNeg))), (5, .long ((st.2.2.2.2.1 (16 : Int32).toNatClampNeg) - (st.2.2.2.2.2 (17 : Int32).toNatClampNeg))), (3, .long ((((((st.1 (16 : Int32).toNatClampNeg) - (st.1 (17 : Int32).toNatClampNeg)) + (st.2.1 (16 : Int32).toNatClampNeg)) ^^^ (((st.1 (16 : Int32).toNatClampNeg) - (st.1 (17 : Int32).toNatClampNeg)) - (st.2.1 (17 : Int32).toNatClampNeg))) ||| (st.2.1 (16 : Int32).toNatClampNeg)) ||| (st.2.1 (17 : Int32).toNatClampNeg))), (1, .long ((st.1 (16 : Int32).toNatClampNeg) - (st.1 (17 : Int32).toNatClampNeg))), (0, .ref h0)]) hx hb dM_subtract_239 hl (by decide) rfl (fun ls hl => ?_)
        refine lv_iload hx hb dM_subtract_241 (lv_at hl 0 rfl) ?_
        refine lv_if_ne (tgt := 264) hx hb dM_subtract_243 (by decide) (fun _ => ?_) (fun h9 => absurd h9 (by decide))
        have e9 : f_M_subtract st = (vp_updL st.1 (18 : Int32).toNatClampNeg (((st.1 (16 : Int32).toNatClampNeg) - (st.1 (17 : Int32).toNatClampNeg)) &&& (((((((st.1 (16 : Int32).toNatClampNeg) - (st.1 (17 : Int32).toNatClampNeg)) + (st.2.1 (16 : Int32).toNatClampNeg)) ^^^ (((st.1 (16 : Int32).toNatClampNeg) - (st.1 (17 : Int32).toNatClampNeg)) - (st.2.1 (17 : Int32).toNatClampNeg))) ||| (st.2.1 (16 : Int32).toNatClampNeg)) ||| (st.2.1 (17 : Int32).toNatClampNeg)) ^^^ (-1))), vp_updL st.2.1 (18 : Int32).toNatClampNeg ((((((st.1 (16 : Int32).toNatClampNeg) - (st.1 (17 : Int32).toNatClampNeg)) + (st.2.1 (16 : Int32).toNatClampNeg)) ^^^ (((st.1 (16 : Int32).toNatClampNeg) - (st.1 (17 : Int32).toNatClampNeg)) - (st.2.1 (17 : Int32).toNatClampNeg))) ||| (st.2.1 (16 : Int32).toNatClampNeg)) ||| (st.2.1 (17 : Int32).toNatClampNeg)), vp_updL st.2.2.1 (18 : Int32).toNatClampNeg ((st.2.2.1 (16 : Int32).toNatClampNeg) - (st.2.2.2.1 (17 : Int32).toNatClampNeg)), vp_updL st.2.2.2.1 (18 : Int32).toNatClampNeg ((st.2.2.2.1 (16 : Int32).toNatClampNeg) - ((vp_updL st.2.2.1 (18 : Int32).toNatClampNeg ((st.2.2.1 (16 : Int32).toNatClampNeg) - (st.2.2.2.1 (17 : Int32).toNatClampNeg))) (17 : Int32).toNatClampNeg)), st.2.2.2.2.1, st.2.2.2.2.2) := (if_pos c2).trans ((if_neg c5).trans ((if_neg c6).trans (rfl)))
        rw [e9]
        exact sp_vret C hAe hP hK hD hS dM_subtract_264
