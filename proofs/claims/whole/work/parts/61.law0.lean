theorem wm_555 : (.constantLong RL 27 4294967295 : Cond) ∈ wsG := wG_of 826 (by decide +kernel) (by decide +kernel)
theorem wm_556 : (.methodLink RL 29 yX0_exact : Cond) ∈ wsG := wG_of 168 (by decide +kernel) (by decide +kernel)
theorem wm_557 : (.instanceMethod yX0_exact : Cond) ∈ wsG := wG_of 169 (by decide +kernel) (by decide +kernel)
theorem wm_558 : (.selects RX0 yX0_exact yX0_exact : Cond) ∈ wsG := wG_of 170 (by decide +kernel) (by decide +kernel)
theorem wm_559 : (.code yX0_exact cX0_exact 4 (some .boolean) : Cond) ∈ wsG := wG_of 171 (by decide +kernel) (by decide +kernel)
theorem wm_560 : (.methodLink RL 32 yM_exact : Cond) ∈ wsG := wG_of 634 (by decide +kernel) (by decide +kernel)
theorem wm_561 : (.instanceMethod yM_exact : Cond) ∈ wsG := wG_of 635 (by decide +kernel) (by decide +kernel)
theorem wm_562 : (.selects RM yM_exact yM_exact : Cond) ∈ wsG := wG_of 636 (by decide +kernel) (by decide +kernel)
theorem wm_563 : (.code yM_exact cM_exact 4 (some .boolean) : Cond) ∈ wsG := wG_of 637 (by decide +kernel) (by decide +kernel)
theorem wm_564 : (.methodLink RL 33 yX0_any : Cond) ∈ wsG := wG_of 191 (by decide +kernel) (by decide +kernel)
theorem wm_565 : (.instanceMethod yX0_any : Cond) ∈ wsG := wG_of 192 (by decide +kernel) (by decide +kernel)
theorem wm_566 : (.selects RX0 yX0_any yX0_any : Cond) ∈ wsG := wG_of 193 (by decide +kernel) (by decide +kernel)
theorem wm_567 : (.code yX0_any cX0_any 2 (some .boolean) : Cond) ∈ wsG := wG_of 194 (by decide +kernel) (by decide +kernel)
theorem wm_568 : (.methodLink RL 37 yM_any : Cond) ∈ wsG := wG_of 645 (by decide +kernel) (by decide +kernel)
theorem wm_569 : (.instanceMethod yM_any : Cond) ∈ wsG := wG_of 646 (by decide +kernel) (by decide +kernel)
theorem wm_570 : (.selects RM yM_any yM_any : Cond) ∈ wsG := wG_of 647 (by decide +kernel) (by decide +kernel)
theorem wm_571 : (.code yM_any cM_any 2 (some .boolean) : Cond) ∈ wsG := wG_of 648 (by decide +kernel) (by decide +kernel)
theorem wm_572 : (.methodLink RL 38 yX0_bits : Cond) ∈ wsG := wG_of 202 (by decide +kernel) (by decide +kernel)
theorem wm_573 : (.instanceMethod yX0_bits : Cond) ∈ wsG := wG_of 203 (by decide +kernel) (by decide +kernel)
theorem wm_574 : (.selects RX0 yX0_bits yX0_bits : Cond) ∈ wsG := wG_of 204 (by decide +kernel) (by decide +kernel)
theorem wm_575 : (.code yX0_bits cX0_bits 7 (some .boolean) : Cond) ∈ wsG := wG_of 205 (by decide +kernel) (by decide +kernel)
theorem wm_576 : (.methodLink RL 42 yM_bits : Cond) ∈ wsG := wG_of 656 (by decide +kernel) (by decide +kernel)
theorem wm_577 : (.instanceMethod yM_bits : Cond) ∈ wsG := wG_of 657 (by decide +kernel) (by decide +kernel)
theorem wm_578 : (.selects RM yM_bits yM_bits : Cond) ∈ wsG := wG_of 658 (by decide +kernel) (by decide +kernel)
theorem wm_579 : (.code yM_bits cM_bits 6 (some .boolean) : Cond) ∈ wsG := wG_of 659 (by decide +kernel) (by decide +kernel)
theorem wm_580 : (.methodLink RL 43 yX0_bounds : Cond) ∈ wsG := wG_of 269 (by decide +kernel) (by decide +kernel)
theorem wm_581 : (.instanceMethod yX0_bounds : Cond) ∈ wsG := wG_of 270 (by decide +kernel) (by decide +kernel)
theorem wm_582 : (.selects RX0 yX0_bounds yX0_bounds : Cond) ∈ wsG := wG_of 271 (by decide +kernel) (by decide +kernel)
theorem wm_583 : (.code yX0_bounds cX0_bounds 8 (some .boolean) : Cond) ∈ wsG := wG_of 272 (by decide +kernel) (by decide +kernel)
theorem wm_584 : (.methodLink RL 47 yM_bounds : Cond) ∈ wsG := wG_of 696 (by decide +kernel) (by decide +kernel)
theorem wm_585 : (.instanceMethod yM_bounds : Cond) ∈ wsG := wG_of 697 (by decide +kernel) (by decide +kernel)
theorem wm_586 : (.selects RM yM_bounds yM_bounds : Cond) ∈ wsG := wG_of 698 (by decide +kernel) (by decide +kernel)
theorem wm_587 : (.code yM_bounds cM_bounds 7 (some .boolean) : Cond) ∈ wsG := wG_of 699 (by decide +kernel) (by decide +kernel)
theorem wm_588 : (.methodLink RL 48 yX0_operate : Cond) ∈ wsG := wG_of 276 (by decide +kernel) (by decide +kernel)
theorem wm_589 : (.instanceMethod yX0_operate : Cond) ∈ wsG := wG_of 277 (by decide +kernel) (by decide +kernel)
theorem wm_590 : (.selects RX0 yX0_operate yX0_operate : Cond) ∈ wsG := wG_of 278 (by decide +kernel) (by decide +kernel)
theorem wm_591 : (.code yX0_operate cX0_operate 6 (some .boolean) : Cond) ∈ wsG := wG_of 279 (by decide +kernel) (by decide +kernel)
theorem wm_592 : (.methodLink RL 52 yM_operate : Cond) ∈ wsG := wG_of 700 (by decide +kernel) (by decide +kernel)
theorem wm_593 : (.instanceMethod yM_operate : Cond) ∈ wsG := wG_of 701 (by decide +kernel) (by decide +kernel)
theorem wm_594 : (.selects RM yM_operate yM_operate : Cond) ∈ wsG := wG_of 702 (by decide +kernel) (by decide +kernel)
theorem wm_595 : (.code yM_operate cM_operate 6 (some .boolean) : Cond) ∈ wsG := wG_of 703 (by decide +kernel) (by decide +kernel)
theorem wm_596 : (.methodLink RL 53 yX0_holds : Cond) ∈ wsG := wG_of 415 (by decide +kernel) (by decide +kernel)
theorem wm_597 : (.instanceMethod yX0_holds : Cond) ∈ wsG := wG_of 416 (by decide +kernel) (by decide +kernel)
theorem wm_598 : (.selects RX0 yX0_holds yX0_holds : Cond) ∈ wsG := wG_of 417 (by decide +kernel) (by decide +kernel)
theorem wm_599 : (.code yX0_holds cX0_holds 5 (some .boolean) : Cond) ∈ wsG := wG_of 418 (by decide +kernel) (by decide +kernel)
theorem wm_600 : (.methodLink RL 57 yM_holds : Cond) ∈ wsG := wG_of 778 (by decide +kernel) (by decide +kernel)
theorem wm_601 : (.instanceMethod yM_holds : Cond) ∈ wsG := wG_of 779 (by decide +kernel) (by decide +kernel)
theorem wm_602 : (.selects RM yM_holds yM_holds : Cond) ∈ wsG := wG_of 780 (by decide +kernel) (by decide +kernel)
theorem wm_603 : (.code yM_holds cM_holds 9 (some .boolean) : Cond) ∈ wsG := wG_of 781 (by decide +kernel) (by decide +kernel)
theorem wm_604 : (.methodLink RL 58 yL_look : Cond) ∈ wsG := wG_of 504 (by decide +kernel) (by decide +kernel)
theorem wm_605 : (.static yL_look : Cond) ∈ wsG := wG_of 505 (by decide +kernel) (by decide +kernel)
theorem wm_606 : (.initialized RL : Cond) ∈ wsG := wG_of 60 (by decide +kernel) (by decide +kernel)
theorem wm_607 : (.methodLink RL 63 yM_look : Cond) ∈ wsG := wG_of 814 (by decide +kernel) (by decide +kernel)
theorem wm_608 : (.instanceMethod yM_look : Cond) ∈ wsG := wG_of 815 (by decide +kernel) (by decide +kernel)
theorem wm_609 : (.selects RM yM_look yM_look : Cond) ∈ wsG := wG_of 816 (by decide +kernel) (by decide +kernel)
theorem wm_610 : (.code yM_look cM_look 3 (some .long) : Cond) ∈ wsG := wG_of 817 (by decide +kernel) (by decide +kernel)
theorem wm_611 : (.methodLink RL 64 yM_thrown : Cond) ∈ wsG := wG_of 630 (by decide +kernel) (by decide +kernel)
theorem wm_612 : (.instanceMethod yM_thrown : Cond) ∈ wsG := wG_of 631 (by decide +kernel) (by decide +kernel)
theorem wm_613 : (.selects RM yM_thrown yM_thrown : Cond) ∈ wsG := wG_of 632 (by decide +kernel) (by decide +kernel)
theorem wm_614 : (.code yM_thrown cM_thrown 1 (some .int) : Cond) ∈ wsG := wG_of 633 (by decide +kernel) (by decide +kernel)
theorem wm_615 : (.methodLink RL 68 yL_has : Cond) ∈ wsG := wG_of 579 (by decide +kernel) (by decide +kernel)
theorem wm_616 : (.static yL_has : Cond) ∈ wsG := wG_of 580 (by decide +kernel) (by decide +kernel)
theorem wm_617 : (.methodLink RL 71 yM_has : Cond) ∈ wsG := wG_of 818 (by decide +kernel) (by decide +kernel)
theorem wm_618 : (.instanceMethod yM_has : Cond) ∈ wsG := wG_of 819 (by decide +kernel) (by decide +kernel)
theorem wm_619 : (.selects RM yM_has yM_has : Cond) ∈ wsG := wG_of 820 (by decide +kernel) (by decide +kernel)
theorem wm_620 : (.code yM_has cM_has 4 (some .boolean) : Cond) ∈ wsG := wG_of 821 (by decide +kernel) (by decide +kernel)
theorem wm_621 : (.methodLink RL 72 yL_covers : Cond) ∈ wsG := wG_of 590 (by decide +kernel) (by decide +kernel)
theorem wm_622 : (.static yL_covers : Cond) ∈ wsG := wG_of 591 (by decide +kernel) (by decide +kernel)
theorem wm_623 : (.methodLink RL 74 yM_covers : Cond) ∈ wsG := wG_of 822 (by decide +kernel) (by decide +kernel)
theorem wm_624 : (.instanceMethod yM_covers : Cond) ∈ wsG := wG_of 823 (by decide +kernel) (by decide +kernel)
theorem wm_625 : (.selects RM yM_covers yM_covers : Cond) ∈ wsG := wG_of 824 (by decide +kernel) (by decide +kernel)
theorem wm_626 : (.code yM_covers cM_covers 4 (some .boolean) : Cond) ∈ wsG := wG_of 825 (by decide +kernel) (by decide +kernel)
theorem dL_law_23 : decode cL_law 23 = .ok (.iload 4, 2) := by decide +kernel
theorem dL_law_25 : decode cL_law 25 = .ok (.aload_n 0, 1) := by decide +kernel
theorem dL_law_26 : decode cL_law 26 = .ok (.arraylength, 1) := by decide +kernel
theorem dL_law_27 : decode cL_law 27 = .ok (.bipush 7, 2) := by decide +kernel
theorem dL_law_29 : decode cL_law 29 = .ok (.isub, 1) := by decide +kernel
theorem dL_law_30 : decode cL_law 30 = .ok (.if_icmp .gt 833, 3) := by decide +kernel
theorem dL_law_33 : decode cL_law 33 = .ok (.aload_n 0, 1) := by decide +kernel
theorem dL_law_34 : decode cL_law 34 = .ok (.iload 4, 2) := by decide +kernel
theorem dL_law_36 : decode cL_law 36 = .ok (.iaload, 1) := by decide +kernel
theorem dL_law_37 : decode cL_law 37 = .ok (.bipush 15, 2) := by decide +kernel
theorem dL_law_39 : decode cL_law 39 = .ok (.iand, 1) := by decide +kernel
theorem dL_law_40 : decode cL_law 40 = .ok (.tableswitch 817 0 8 #[52, 121, 146, 259, 402, 491, 568, 635, 742], 52) := by decide +kernel
theorem dL_law_92 : decode cL_law 92 = .ok (.aload_n 1, 1) := by decide +kernel
theorem dL_law_93 : decode cL_law 93 = .ok (.aload_n 0, 1) := by decide +kernel
theorem dL_law_94 : decode cL_law 94 = .ok (.iload 4, 2) := by decide +kernel
theorem dL_law_96 : decode cL_law 96 = .ok (.iconst 1, 1) := by decide +kernel
theorem dL_law_97 : decode cL_law 97 = .ok (.iadd, 1) := by decide +kernel
theorem dL_law_98 : decode cL_law 98 = .ok (.iaload, 1) := by decide +kernel
theorem dL_law_99 : decode cL_law 99 = .ok (.aload_n 0, 1) := by decide +kernel
theorem dL_law_100 : decode cL_law 100 = .ok (.iload 4, 2) := by decide +kernel
theorem dL_law_102 : decode cL_law 102 = .ok (.iconst 2, 1) := by decide +kernel
theorem dL_law_103 : decode cL_law 103 = .ok (.iadd, 1) := by decide +kernel
theorem dL_law_104 : decode cL_law 104 = .ok (.iaload, 1) := by decide +kernel
theorem dL_law_105 : decode cL_law 105 = .ok (.i2l, 1) := by decide +kernel
theorem dL_law_106 : decode cL_law 106 = .ok (.bipush 32, 2) := by decide +kernel
theorem dL_law_108 : decode cL_law 108 = .ok (.lshl, 1) := by decide +kernel
theorem dL_law_109 : decode cL_law 109 = .ok (.aload_n 0, 1) := by decide +kernel
theorem dL_law_110 : decode cL_law 110 = .ok (.iload 4, 2) := by decide +kernel
theorem dL_law_112 : decode cL_law 112 = .ok (.iconst 3, 1) := by decide +kernel
theorem dL_law_113 : decode cL_law 113 = .ok (.iadd, 1) := by decide +kernel
theorem dL_law_114 : decode cL_law 114 = .ok (.iaload, 1) := by decide +kernel
theorem dL_law_115 : decode cL_law 115 = .ok (.i2l, 1) := by decide +kernel
theorem dL_law_116 : decode cL_law 116 = .ok (.ldc2_w 27, 3) := by decide +kernel
theorem dL_law_119 : decode cL_law 119 = .ok (.land, 1) := by decide +kernel
theorem dL_law_120 : decode cL_law 120 = .ok (.lor, 1) := by decide +kernel
theorem dL_law_121 : decode cL_law 121 = .ok (.invokevirtual 29, 3) := by decide +kernel
theorem dL_law_124 : decode cL_law 124 = .ok (.aload_n 2, 1) := by decide +kernel
theorem dL_law_125 : decode cL_law 125 = .ok (.aload_n 0, 1) := by decide +kernel
theorem dL_law_126 : decode cL_law 126 = .ok (.iload 4, 2) := by decide +kernel
theorem dL_law_128 : decode cL_law 128 = .ok (.iconst 1, 1) := by decide +kernel
theorem dL_law_129 : decode cL_law 129 = .ok (.iadd, 1) := by decide +kernel
theorem dL_law_130 : decode cL_law 130 = .ok (.iaload, 1) := by decide +kernel
theorem dL_law_131 : decode cL_law 131 = .ok (.aload_n 0, 1) := by decide +kernel
theorem dL_law_132 : decode cL_law 132 = .ok (.iload 4, 2) := by decide +kernel
theorem dL_law_134 : decode cL_law 134 = .ok (.iconst 2, 1) := by decide +kernel
theorem dL_law_135 : decode cL_law 135 = .ok (.iadd, 1) := by decide +kernel
theorem dL_law_136 : decode cL_law 136 = .ok (.iaload, 1) := by decide +kernel
theorem dL_law_137 : decode cL_law 137 = .ok (.i2l, 1) := by decide +kernel
theorem dL_law_138 : decode cL_law 138 = .ok (.bipush 32, 2) := by decide +kernel
theorem dL_law_140 : decode cL_law 140 = .ok (.lshl, 1) := by decide +kernel
theorem dL_law_141 : decode cL_law 141 = .ok (.aload_n 0, 1) := by decide +kernel
theorem dL_law_142 : decode cL_law 142 = .ok (.iload 4, 2) := by decide +kernel
theorem dL_law_144 : decode cL_law 144 = .ok (.iconst 3, 1) := by decide +kernel
theorem dL_law_145 : decode cL_law 145 = .ok (.iadd, 1) := by decide +kernel
theorem dL_law_146 : decode cL_law 146 = .ok (.iaload, 1) := by decide +kernel
theorem dL_law_147 : decode cL_law 147 = .ok (.i2l, 1) := by decide +kernel
theorem dL_law_148 : decode cL_law 148 = .ok (.ldc2_w 27, 3) := by decide +kernel
theorem dL_law_151 : decode cL_law 151 = .ok (.land, 1) := by decide +kernel
theorem dL_law_152 : decode cL_law 152 = .ok (.lor, 1) := by decide +kernel
theorem dL_law_153 : decode cL_law 153 = .ok (.invokevirtual 32, 3) := by decide +kernel
theorem dL_law_156 : decode cL_law 156 = .ok (.if_icmp .eq 701, 3) := by decide +kernel
theorem dL_law_161 : decode cL_law 161 = .ok (.aload_n 1, 1) := by decide +kernel
theorem dL_law_162 : decode cL_law 162 = .ok (.aload_n 0, 1) := by decide +kernel
theorem dL_law_163 : decode cL_law 163 = .ok (.iload 4, 2) := by decide +kernel
theorem dL_law_165 : decode cL_law 165 = .ok (.iconst 1, 1) := by decide +kernel
theorem dL_law_166 : decode cL_law 166 = .ok (.iadd, 1) := by decide +kernel
theorem dL_law_167 : decode cL_law 167 = .ok (.iaload, 1) := by decide +kernel
theorem dL_law_168 : decode cL_law 168 = .ok (.invokevirtual 33, 3) := by decide +kernel
theorem dL_law_171 : decode cL_law 171 = .ok (.aload_n 2, 1) := by decide +kernel
theorem dL_law_172 : decode cL_law 172 = .ok (.aload_n 0, 1) := by decide +kernel
theorem dL_law_173 : decode cL_law 173 = .ok (.iload 4, 2) := by decide +kernel
theorem dL_law_175 : decode cL_law 175 = .ok (.iconst 1, 1) := by decide +kernel
theorem dL_law_176 : decode cL_law 176 = .ok (.iadd, 1) := by decide +kernel
theorem dL_law_177 : decode cL_law 177 = .ok (.iaload, 1) := by decide +kernel
theorem dL_law_178 : decode cL_law 178 = .ok (.invokevirtual 37, 3) := by decide +kernel
theorem dL_law_181 : decode cL_law 181 = .ok (.if_icmp .eq 676, 3) := by decide +kernel
theorem dL_law_186 : decode cL_law 186 = .ok (.aload_n 1, 1) := by decide +kernel
theorem dL_law_187 : decode cL_law 187 = .ok (.aload_n 0, 1) := by decide +kernel
theorem dL_law_188 : decode cL_law 188 = .ok (.iload 4, 2) := by decide +kernel
theorem dL_law_190 : decode cL_law 190 = .ok (.iconst 1, 1) := by decide +kernel
theorem dL_law_191 : decode cL_law 191 = .ok (.iadd, 1) := by decide +kernel
theorem dL_law_192 : decode cL_law 192 = .ok (.iaload, 1) := by decide +kernel
theorem dL_law_193 : decode cL_law 193 = .ok (.aload_n 0, 1) := by decide +kernel
theorem dL_law_194 : decode cL_law 194 = .ok (.iload 4, 2) := by decide +kernel
theorem dL_law_196 : decode cL_law 196 = .ok (.iconst 2, 1) := by decide +kernel
theorem dL_law_197 : decode cL_law 197 = .ok (.iadd, 1) := by decide +kernel
theorem dL_law_198 : decode cL_law 198 = .ok (.iaload, 1) := by decide +kernel
theorem dL_law_199 : decode cL_law 199 = .ok (.i2l, 1) := by decide +kernel
theorem dL_law_200 : decode cL_law 200 = .ok (.bipush 32, 2) := by decide +kernel
theorem dL_law_202 : decode cL_law 202 = .ok (.lshl, 1) := by decide +kernel
theorem dL_law_203 : decode cL_law 203 = .ok (.aload_n 0, 1) := by decide +kernel
theorem dL_law_204 : decode cL_law 204 = .ok (.iload 4, 2) := by decide +kernel
theorem dL_law_206 : decode cL_law 206 = .ok (.iconst 3, 1) := by decide +kernel
theorem dL_law_207 : decode cL_law 207 = .ok (.iadd, 1) := by decide +kernel
theorem dL_law_208 : decode cL_law 208 = .ok (.iaload, 1) := by decide +kernel
theorem dL_law_209 : decode cL_law 209 = .ok (.i2l, 1) := by decide +kernel
theorem dL_law_210 : decode cL_law 210 = .ok (.ldc2_w 27, 3) := by decide +kernel
theorem dL_law_213 : decode cL_law 213 = .ok (.land, 1) := by decide +kernel
theorem dL_law_214 : decode cL_law 214 = .ok (.lor, 1) := by decide +kernel
theorem dL_law_215 : decode cL_law 215 = .ok (.aload_n 0, 1) := by decide +kernel
theorem dL_law_216 : decode cL_law 216 = .ok (.iload 4, 2) := by decide +kernel
theorem dL_law_218 : decode cL_law 218 = .ok (.iconst 4, 1) := by decide +kernel
theorem dL_law_219 : decode cL_law 219 = .ok (.iadd, 1) := by decide +kernel
theorem dL_law_220 : decode cL_law 220 = .ok (.iaload, 1) := by decide +kernel
theorem dL_law_221 : decode cL_law 221 = .ok (.i2l, 1) := by decide +kernel
theorem dL_law_222 : decode cL_law 222 = .ok (.bipush 32, 2) := by decide +kernel
theorem dL_law_224 : decode cL_law 224 = .ok (.lshl, 1) := by decide +kernel
theorem dL_law_225 : decode cL_law 225 = .ok (.aload_n 0, 1) := by decide +kernel
theorem dL_law_226 : decode cL_law 226 = .ok (.iload 4, 2) := by decide +kernel
theorem dL_law_228 : decode cL_law 228 = .ok (.iconst 5, 1) := by decide +kernel
theorem dL_law_229 : decode cL_law 229 = .ok (.iadd, 1) := by decide +kernel
theorem dL_law_230 : decode cL_law 230 = .ok (.iaload, 1) := by decide +kernel
theorem dL_law_231 : decode cL_law 231 = .ok (.i2l, 1) := by decide +kernel
theorem dL_law_232 : decode cL_law 232 = .ok (.ldc2_w 27, 3) := by decide +kernel
theorem dL_law_235 : decode cL_law 235 = .ok (.land, 1) := by decide +kernel
theorem dL_law_236 : decode cL_law 236 = .ok (.lor, 1) := by decide +kernel
theorem dL_law_237 : decode cL_law 237 = .ok (.invokevirtual 38, 3) := by decide +kernel
theorem dL_law_240 : decode cL_law 240 = .ok (.aload_n 2, 1) := by decide +kernel
theorem dL_law_241 : decode cL_law 241 = .ok (.aload_n 0, 1) := by decide +kernel
theorem dL_law_242 : decode cL_law 242 = .ok (.iload 4, 2) := by decide +kernel
theorem dL_law_244 : decode cL_law 244 = .ok (.iconst 1, 1) := by decide +kernel
theorem dL_law_245 : decode cL_law 245 = .ok (.iadd, 1) := by decide +kernel
theorem dL_law_246 : decode cL_law 246 = .ok (.iaload, 1) := by decide +kernel
theorem dL_law_247 : decode cL_law 247 = .ok (.aload_n 0, 1) := by decide +kernel
theorem dL_law_248 : decode cL_law 248 = .ok (.iload 4, 2) := by decide +kernel
theorem dL_law_250 : decode cL_law 250 = .ok (.iconst 2, 1) := by decide +kernel
theorem dL_law_251 : decode cL_law 251 = .ok (.iadd, 1) := by decide +kernel
theorem dL_law_252 : decode cL_law 252 = .ok (.iaload, 1) := by decide +kernel
theorem dL_law_253 : decode cL_law 253 = .ok (.i2l, 1) := by decide +kernel
theorem dL_law_254 : decode cL_law 254 = .ok (.bipush 32, 2) := by decide +kernel
theorem dL_law_256 : decode cL_law 256 = .ok (.lshl, 1) := by decide +kernel
theorem dL_law_257 : decode cL_law 257 = .ok (.aload_n 0, 1) := by decide +kernel
theorem dL_law_258 : decode cL_law 258 = .ok (.iload 4, 2) := by decide +kernel
theorem dL_law_260 : decode cL_law 260 = .ok (.iconst 3, 1) := by decide +kernel
theorem dL_law_261 : decode cL_law 261 = .ok (.iadd, 1) := by decide +kernel
theorem dL_law_262 : decode cL_law 262 = .ok (.iaload, 1) := by decide +kernel
theorem dL_law_263 : decode cL_law 263 = .ok (.i2l, 1) := by decide +kernel
theorem dL_law_264 : decode cL_law 264 = .ok (.ldc2_w 27, 3) := by decide +kernel
theorem dL_law_267 : decode cL_law 267 = .ok (.land, 1) := by decide +kernel
theorem dL_law_268 : decode cL_law 268 = .ok (.lor, 1) := by decide +kernel
theorem dL_law_269 : decode cL_law 269 = .ok (.aload_n 0, 1) := by decide +kernel
theorem dL_law_270 : decode cL_law 270 = .ok (.iload 4, 2) := by decide +kernel
theorem dL_law_272 : decode cL_law 272 = .ok (.iconst 4, 1) := by decide +kernel
theorem dL_law_273 : decode cL_law 273 = .ok (.iadd, 1) := by decide +kernel
theorem dL_law_274 : decode cL_law 274 = .ok (.iaload, 1) := by decide +kernel
theorem dL_law_275 : decode cL_law 275 = .ok (.i2l, 1) := by decide +kernel
theorem dL_law_276 : decode cL_law 276 = .ok (.bipush 32, 2) := by decide +kernel
theorem dL_law_278 : decode cL_law 278 = .ok (.lshl, 1) := by decide +kernel
theorem dL_law_279 : decode cL_law 279 = .ok (.aload_n 0, 1) := by decide +kernel
theorem dL_law_280 : decode cL_law 280 = .ok (.iload 4, 2) := by decide +kernel
theorem dL_law_282 : decode cL_law 282 = .ok (.iconst 5, 1) := by decide +kernel
theorem dL_law_283 : decode cL_law 283 = .ok (.iadd, 1) := by decide +kernel
theorem dL_law_284 : decode cL_law 284 = .ok (.iaload, 1) := by decide +kernel
theorem dL_law_285 : decode cL_law 285 = .ok (.i2l, 1) := by decide +kernel
theorem dL_law_286 : decode cL_law 286 = .ok (.ldc2_w 27, 3) := by decide +kernel
theorem dL_law_289 : decode cL_law 289 = .ok (.land, 1) := by decide +kernel
theorem dL_law_290 : decode cL_law 290 = .ok (.lor, 1) := by decide +kernel
theorem dL_law_291 : decode cL_law 291 = .ok (.invokevirtual 42, 3) := by decide +kernel
theorem dL_law_294 : decode cL_law 294 = .ok (.if_icmp .eq 563, 3) := by decide +kernel
theorem dL_law_299 : decode cL_law 299 = .ok (.aload_n 1, 1) := by decide +kernel
theorem dL_law_300 : decode cL_law 300 = .ok (.aload_n 0, 1) := by decide +kernel
theorem dL_law_301 : decode cL_law 301 = .ok (.iload 4, 2) := by decide +kernel
theorem dL_law_303 : decode cL_law 303 = .ok (.iconst 1, 1) := by decide +kernel
theorem dL_law_304 : decode cL_law 304 = .ok (.iadd, 1) := by decide +kernel
theorem dL_law_305 : decode cL_law 305 = .ok (.iaload, 1) := by decide +kernel
theorem dL_law_306 : decode cL_law 306 = .ok (.aload_n 0, 1) := by decide +kernel
theorem dL_law_307 : decode cL_law 307 = .ok (.iload 4, 2) := by decide +kernel
theorem dL_law_309 : decode cL_law 309 = .ok (.iconst 2, 1) := by decide +kernel
theorem dL_law_310 : decode cL_law 310 = .ok (.iadd, 1) := by decide +kernel
theorem dL_law_311 : decode cL_law 311 = .ok (.iaload, 1) := by decide +kernel
theorem dL_law_312 : decode cL_law 312 = .ok (.i2l, 1) := by decide +kernel
theorem dL_law_313 : decode cL_law 313 = .ok (.bipush 32, 2) := by decide +kernel
theorem dL_law_315 : decode cL_law 315 = .ok (.lshl, 1) := by decide +kernel
theorem dL_law_316 : decode cL_law 316 = .ok (.aload_n 0, 1) := by decide +kernel
theorem dL_law_317 : decode cL_law 317 = .ok (.iload 4, 2) := by decide +kernel
theorem dL_law_319 : decode cL_law 319 = .ok (.iconst 3, 1) := by decide +kernel
theorem dL_law_320 : decode cL_law 320 = .ok (.iadd, 1) := by decide +kernel
theorem dL_law_321 : decode cL_law 321 = .ok (.iaload, 1) := by decide +kernel
theorem dL_law_322 : decode cL_law 322 = .ok (.i2l, 1) := by decide +kernel
theorem dL_law_323 : decode cL_law 323 = .ok (.ldc2_w 27, 3) := by decide +kernel
theorem dL_law_326 : decode cL_law 326 = .ok (.land, 1) := by decide +kernel
theorem dL_law_327 : decode cL_law 327 = .ok (.lor, 1) := by decide +kernel
theorem dL_law_328 : decode cL_law 328 = .ok (.aload_n 0, 1) := by decide +kernel
theorem dL_law_329 : decode cL_law 329 = .ok (.iload 4, 2) := by decide +kernel
theorem dL_law_331 : decode cL_law 331 = .ok (.iconst 4, 1) := by decide +kernel
theorem dL_law_332 : decode cL_law 332 = .ok (.iadd, 1) := by decide +kernel
theorem dL_law_333 : decode cL_law 333 = .ok (.iaload, 1) := by decide +kernel
theorem dL_law_334 : decode cL_law 334 = .ok (.i2l, 1) := by decide +kernel
theorem dL_law_335 : decode cL_law 335 = .ok (.bipush 32, 2) := by decide +kernel
theorem dL_law_337 : decode cL_law 337 = .ok (.lshl, 1) := by decide +kernel
theorem dL_law_338 : decode cL_law 338 = .ok (.aload_n 0, 1) := by decide +kernel
theorem dL_law_339 : decode cL_law 339 = .ok (.iload 4, 2) := by decide +kernel
theorem dL_law_341 : decode cL_law 341 = .ok (.iconst 5, 1) := by decide +kernel
theorem dL_law_342 : decode cL_law 342 = .ok (.iadd, 1) := by decide +kernel
theorem dL_law_343 : decode cL_law 343 = .ok (.iaload, 1) := by decide +kernel
theorem dL_law_344 : decode cL_law 344 = .ok (.i2l, 1) := by decide +kernel
theorem dL_law_345 : decode cL_law 345 = .ok (.ldc2_w 27, 3) := by decide +kernel
theorem dL_law_348 : decode cL_law 348 = .ok (.land, 1) := by decide +kernel
theorem dL_law_349 : decode cL_law 349 = .ok (.lor, 1) := by decide +kernel
theorem dL_law_350 : decode cL_law 350 = .ok (.aload_n 0, 1) := by decide +kernel
theorem dL_law_351 : decode cL_law 351 = .ok (.iload 4, 2) := by decide +kernel
theorem dL_law_353 : decode cL_law 353 = .ok (.bipush 6, 2) := by decide +kernel
theorem dL_law_355 : decode cL_law 355 = .ok (.iadd, 1) := by decide +kernel
theorem dL_law_356 : decode cL_law 356 = .ok (.iaload, 1) := by decide +kernel
theorem dL_law_357 : decode cL_law 357 = .ok (.ifCond .eq 7, 3) := by decide +kernel
theorem dL_law_360 : decode cL_law 360 = .ok (.iconst 1, 1) := by decide +kernel
theorem dL_law_361 : decode cL_law 361 = .ok (.goto 4, 3) := by decide +kernel
theorem dL_law_364 : decode cL_law 364 = .ok (.iconst 0, 1) := by decide +kernel
theorem dL_law_365 : decode cL_law 365 = .ok (.invokevirtual 43, 3) := by decide +kernel
theorem dL_law_368 : decode cL_law 368 = .ok (.aload_n 2, 1) := by decide +kernel
theorem dL_law_369 : decode cL_law 369 = .ok (.aload_n 0, 1) := by decide +kernel
theorem dL_law_370 : decode cL_law 370 = .ok (.iload 4, 2) := by decide +kernel
theorem dL_law_372 : decode cL_law 372 = .ok (.iconst 1, 1) := by decide +kernel
theorem dL_law_373 : decode cL_law 373 = .ok (.iadd, 1) := by decide +kernel
theorem dL_law_374 : decode cL_law 374 = .ok (.iaload, 1) := by decide +kernel
theorem dL_law_375 : decode cL_law 375 = .ok (.aload_n 0, 1) := by decide +kernel
theorem dL_law_376 : decode cL_law 376 = .ok (.iload 4, 2) := by decide +kernel
theorem dL_law_378 : decode cL_law 378 = .ok (.iconst 2, 1) := by decide +kernel
theorem dL_law_379 : decode cL_law 379 = .ok (.iadd, 1) := by decide +kernel
theorem dL_law_380 : decode cL_law 380 = .ok (.iaload, 1) := by decide +kernel
theorem dL_law_381 : decode cL_law 381 = .ok (.i2l, 1) := by decide +kernel
theorem dL_law_382 : decode cL_law 382 = .ok (.bipush 32, 2) := by decide +kernel
theorem dL_law_384 : decode cL_law 384 = .ok (.lshl, 1) := by decide +kernel
theorem dL_law_385 : decode cL_law 385 = .ok (.aload_n 0, 1) := by decide +kernel
theorem dL_law_386 : decode cL_law 386 = .ok (.iload 4, 2) := by decide +kernel
theorem dL_law_388 : decode cL_law 388 = .ok (.iconst 3, 1) := by decide +kernel
theorem dL_law_389 : decode cL_law 389 = .ok (.iadd, 1) := by decide +kernel
theorem dL_law_390 : decode cL_law 390 = .ok (.iaload, 1) := by decide +kernel
theorem dL_law_391 : decode cL_law 391 = .ok (.i2l, 1) := by decide +kernel
theorem dL_law_392 : decode cL_law 392 = .ok (.ldc2_w 27, 3) := by decide +kernel
theorem dL_law_395 : decode cL_law 395 = .ok (.land, 1) := by decide +kernel
theorem dL_law_396 : decode cL_law 396 = .ok (.lor, 1) := by decide +kernel
theorem dL_law_397 : decode cL_law 397 = .ok (.aload_n 0, 1) := by decide +kernel
theorem dL_law_398 : decode cL_law 398 = .ok (.iload 4, 2) := by decide +kernel
theorem dL_law_400 : decode cL_law 400 = .ok (.iconst 4, 1) := by decide +kernel
theorem dL_law_401 : decode cL_law 401 = .ok (.iadd, 1) := by decide +kernel
theorem dL_law_402 : decode cL_law 402 = .ok (.iaload, 1) := by decide +kernel
theorem dL_law_403 : decode cL_law 403 = .ok (.i2l, 1) := by decide +kernel
theorem dL_law_404 : decode cL_law 404 = .ok (.bipush 32, 2) := by decide +kernel
theorem dL_law_406 : decode cL_law 406 = .ok (.lshl, 1) := by decide +kernel
theorem dL_law_407 : decode cL_law 407 = .ok (.aload_n 0, 1) := by decide +kernel
theorem dL_law_408 : decode cL_law 408 = .ok (.iload 4, 2) := by decide +kernel
theorem dL_law_410 : decode cL_law 410 = .ok (.iconst 5, 1) := by decide +kernel
theorem dL_law_411 : decode cL_law 411 = .ok (.iadd, 1) := by decide +kernel
theorem dL_law_412 : decode cL_law 412 = .ok (.iaload, 1) := by decide +kernel
theorem dL_law_413 : decode cL_law 413 = .ok (.i2l, 1) := by decide +kernel
theorem dL_law_414 : decode cL_law 414 = .ok (.ldc2_w 27, 3) := by decide +kernel
theorem dL_law_417 : decode cL_law 417 = .ok (.land, 1) := by decide +kernel
theorem dL_law_418 : decode cL_law 418 = .ok (.lor, 1) := by decide +kernel
theorem dL_law_419 : decode cL_law 419 = .ok (.aload_n 0, 1) := by decide +kernel
theorem dL_law_420 : decode cL_law 420 = .ok (.iload 4, 2) := by decide +kernel
theorem dL_law_422 : decode cL_law 422 = .ok (.bipush 6, 2) := by decide +kernel
theorem dL_law_424 : decode cL_law 424 = .ok (.iadd, 1) := by decide +kernel
theorem dL_law_425 : decode cL_law 425 = .ok (.iaload, 1) := by decide +kernel
theorem dL_law_426 : decode cL_law 426 = .ok (.ifCond .eq 7, 3) := by decide +kernel
theorem dL_law_429 : decode cL_law 429 = .ok (.iconst 1, 1) := by decide +kernel
theorem dL_law_430 : decode cL_law 430 = .ok (.goto 4, 3) := by decide +kernel
theorem dL_law_433 : decode cL_law 433 = .ok (.iconst 0, 1) := by decide +kernel
theorem dL_law_434 : decode cL_law 434 = .ok (.invokevirtual 47, 3) := by decide +kernel
theorem dL_law_437 : decode cL_law 437 = .ok (.if_icmp .eq 420, 3) := by decide +kernel
theorem dL_law_442 : decode cL_law 442 = .ok (.aload_n 1, 1) := by decide +kernel
theorem dL_law_443 : decode cL_law 443 = .ok (.aload_n 0, 1) := by decide +kernel
theorem dL_law_444 : decode cL_law 444 = .ok (.iload 4, 2) := by decide +kernel
theorem dL_law_446 : decode cL_law 446 = .ok (.iconst 1, 1) := by decide +kernel
theorem dL_law_447 : decode cL_law 447 = .ok (.iadd, 1) := by decide +kernel
theorem dL_law_448 : decode cL_law 448 = .ok (.iaload, 1) := by decide +kernel
theorem dL_law_449 : decode cL_law 449 = .ok (.aload_n 0, 1) := by decide +kernel
theorem dL_law_450 : decode cL_law 450 = .ok (.iload 4, 2) := by decide +kernel
theorem dL_law_452 : decode cL_law 452 = .ok (.iconst 2, 1) := by decide +kernel
theorem dL_law_453 : decode cL_law 453 = .ok (.iadd, 1) := by decide +kernel
theorem dL_law_454 : decode cL_law 454 = .ok (.iaload, 1) := by decide +kernel
theorem dL_law_455 : decode cL_law 455 = .ok (.aload_n 0, 1) := by decide +kernel
theorem dL_law_456 : decode cL_law 456 = .ok (.iload 4, 2) := by decide +kernel
theorem dL_law_458 : decode cL_law 458 = .ok (.iconst 3, 1) := by decide +kernel
theorem dL_law_459 : decode cL_law 459 = .ok (.iadd, 1) := by decide +kernel
theorem dL_law_460 : decode cL_law 460 = .ok (.iaload, 1) := by decide +kernel
theorem dL_law_461 : decode cL_law 461 = .ok (.aload_n 0, 1) := by decide +kernel
theorem dL_law_462 : decode cL_law 462 = .ok (.iload 4, 2) := by decide +kernel
theorem dL_law_464 : decode cL_law 464 = .ok (.iconst 4, 1) := by decide +kernel
theorem dL_law_465 : decode cL_law 465 = .ok (.iadd, 1) := by decide +kernel
theorem dL_law_466 : decode cL_law 466 = .ok (.iaload, 1) := by decide +kernel
theorem dL_law_467 : decode cL_law 467 = .ok (.aload_n 0, 1) := by decide +kernel
theorem dL_law_468 : decode cL_law 468 = .ok (.iload 4, 2) := by decide +kernel
theorem dL_law_470 : decode cL_law 470 = .ok (.iconst 5, 1) := by decide +kernel
theorem dL_law_471 : decode cL_law 471 = .ok (.iadd, 1) := by decide +kernel
theorem dL_law_472 : decode cL_law 472 = .ok (.iaload, 1) := by decide +kernel
theorem dL_law_473 : decode cL_law 473 = .ok (.ifCond .eq 7, 3) := by decide +kernel
theorem dL_law_476 : decode cL_law 476 = .ok (.iconst 1, 1) := by decide +kernel
theorem dL_law_477 : decode cL_law 477 = .ok (.goto 4, 3) := by decide +kernel
theorem dL_law_480 : decode cL_law 480 = .ok (.iconst 0, 1) := by decide +kernel
theorem dL_law_481 : decode cL_law 481 = .ok (.invokevirtual 48, 3) := by decide +kernel
theorem dL_law_484 : decode cL_law 484 = .ok (.aload_n 2, 1) := by decide +kernel
theorem dL_law_485 : decode cL_law 485 = .ok (.aload_n 0, 1) := by decide +kernel
theorem dL_law_486 : decode cL_law 486 = .ok (.iload 4, 2) := by decide +kernel
theorem dL_law_488 : decode cL_law 488 = .ok (.iconst 1, 1) := by decide +kernel
theorem dL_law_489 : decode cL_law 489 = .ok (.iadd, 1) := by decide +kernel
theorem dL_law_490 : decode cL_law 490 = .ok (.iaload, 1) := by decide +kernel
theorem dL_law_491 : decode cL_law 491 = .ok (.aload_n 0, 1) := by decide +kernel
theorem dL_law_492 : decode cL_law 492 = .ok (.iload 4, 2) := by decide +kernel
theorem dL_law_494 : decode cL_law 494 = .ok (.iconst 2, 1) := by decide +kernel
theorem dL_law_495 : decode cL_law 495 = .ok (.iadd, 1) := by decide +kernel
theorem dL_law_496 : decode cL_law 496 = .ok (.iaload, 1) := by decide +kernel
theorem dL_law_497 : decode cL_law 497 = .ok (.aload_n 0, 1) := by decide +kernel
theorem dL_law_498 : decode cL_law 498 = .ok (.iload 4, 2) := by decide +kernel
theorem dL_law_500 : decode cL_law 500 = .ok (.iconst 3, 1) := by decide +kernel
theorem dL_law_501 : decode cL_law 501 = .ok (.iadd, 1) := by decide +kernel
theorem dL_law_502 : decode cL_law 502 = .ok (.iaload, 1) := by decide +kernel
theorem dL_law_503 : decode cL_law 503 = .ok (.aload_n 0, 1) := by decide +kernel
theorem dL_law_504 : decode cL_law 504 = .ok (.iload 4, 2) := by decide +kernel
theorem dL_law_506 : decode cL_law 506 = .ok (.iconst 4, 1) := by decide +kernel
theorem dL_law_507 : decode cL_law 507 = .ok (.iadd, 1) := by decide +kernel
theorem dL_law_508 : decode cL_law 508 = .ok (.iaload, 1) := by decide +kernel
theorem dL_law_509 : decode cL_law 509 = .ok (.aload_n 0, 1) := by decide +kernel
theorem dL_law_510 : decode cL_law 510 = .ok (.iload 4, 2) := by decide +kernel
theorem dL_law_512 : decode cL_law 512 = .ok (.iconst 5, 1) := by decide +kernel
theorem dL_law_513 : decode cL_law 513 = .ok (.iadd, 1) := by decide +kernel
theorem dL_law_514 : decode cL_law 514 = .ok (.iaload, 1) := by decide +kernel
theorem dL_law_515 : decode cL_law 515 = .ok (.ifCond .eq 7, 3) := by decide +kernel
theorem dL_law_518 : decode cL_law 518 = .ok (.iconst 1, 1) := by decide +kernel
theorem dL_law_519 : decode cL_law 519 = .ok (.goto 4, 3) := by decide +kernel
theorem dL_law_522 : decode cL_law 522 = .ok (.iconst 0, 1) := by decide +kernel
theorem dL_law_523 : decode cL_law 523 = .ok (.invokevirtual 52, 3) := by decide +kernel
theorem dL_law_526 : decode cL_law 526 = .ok (.if_icmp .eq 331, 3) := by decide +kernel
theorem dL_law_531 : decode cL_law 531 = .ok (.aload_n 1, 1) := by decide +kernel
theorem dL_law_532 : decode cL_law 532 = .ok (.aload_n 0, 1) := by decide +kernel
theorem dL_law_533 : decode cL_law 533 = .ok (.iload 4, 2) := by decide +kernel
theorem dL_law_535 : decode cL_law 535 = .ok (.iconst 1, 1) := by decide +kernel
theorem dL_law_536 : decode cL_law 536 = .ok (.iadd, 1) := by decide +kernel
theorem dL_law_537 : decode cL_law 537 = .ok (.iaload, 1) := by decide +kernel
theorem dL_law_538 : decode cL_law 538 = .ok (.aload_n 0, 1) := by decide +kernel
theorem dL_law_539 : decode cL_law 539 = .ok (.iload 4, 2) := by decide +kernel
theorem dL_law_541 : decode cL_law 541 = .ok (.iconst 2, 1) := by decide +kernel
theorem dL_law_542 : decode cL_law 542 = .ok (.iadd, 1) := by decide +kernel
theorem dL_law_543 : decode cL_law 543 = .ok (.iaload, 1) := by decide +kernel
theorem dL_law_544 : decode cL_law 544 = .ok (.aload_n 0, 1) := by decide +kernel
theorem dL_law_545 : decode cL_law 545 = .ok (.iload 4, 2) := by decide +kernel
theorem dL_law_547 : decode cL_law 547 = .ok (.iconst 3, 1) := by decide +kernel
theorem dL_law_548 : decode cL_law 548 = .ok (.iadd, 1) := by decide +kernel
theorem dL_law_549 : decode cL_law 549 = .ok (.iaload, 1) := by decide +kernel
theorem dL_law_550 : decode cL_law 550 = .ok (.aload_n 0, 1) := by decide +kernel
theorem dL_law_551 : decode cL_law 551 = .ok (.iload 4, 2) := by decide +kernel
theorem dL_law_553 : decode cL_law 553 = .ok (.iconst 4, 1) := by decide +kernel
theorem dL_law_554 : decode cL_law 554 = .ok (.iadd, 1) := by decide +kernel
theorem dL_law_555 : decode cL_law 555 = .ok (.iaload, 1) := by decide +kernel
theorem dL_law_556 : decode cL_law 556 = .ok (.ifCond .eq 7, 3) := by decide +kernel
theorem dL_law_559 : decode cL_law 559 = .ok (.iconst 1, 1) := by decide +kernel
theorem dL_law_560 : decode cL_law 560 = .ok (.goto 4, 3) := by decide +kernel
theorem dL_law_563 : decode cL_law 563 = .ok (.iconst 0, 1) := by decide +kernel
theorem dL_law_564 : decode cL_law 564 = .ok (.invokevirtual 53, 3) := by decide +kernel
theorem dL_law_567 : decode cL_law 567 = .ok (.aload_n 2, 1) := by decide +kernel
theorem dL_law_568 : decode cL_law 568 = .ok (.aload_n 0, 1) := by decide +kernel
theorem dL_law_569 : decode cL_law 569 = .ok (.iload 4, 2) := by decide +kernel
theorem dL_law_571 : decode cL_law 571 = .ok (.iconst 1, 1) := by decide +kernel
theorem dL_law_572 : decode cL_law 572 = .ok (.iadd, 1) := by decide +kernel
theorem dL_law_573 : decode cL_law 573 = .ok (.iaload, 1) := by decide +kernel
theorem dL_law_574 : decode cL_law 574 = .ok (.aload_n 0, 1) := by decide +kernel
theorem dL_law_575 : decode cL_law 575 = .ok (.iload 4, 2) := by decide +kernel
theorem dL_law_577 : decode cL_law 577 = .ok (.iconst 2, 1) := by decide +kernel
theorem dL_law_578 : decode cL_law 578 = .ok (.iadd, 1) := by decide +kernel
theorem dL_law_579 : decode cL_law 579 = .ok (.iaload, 1) := by decide +kernel
theorem dL_law_580 : decode cL_law 580 = .ok (.aload_n 0, 1) := by decide +kernel
theorem dL_law_581 : decode cL_law 581 = .ok (.iload 4, 2) := by decide +kernel
theorem dL_law_583 : decode cL_law 583 = .ok (.iconst 3, 1) := by decide +kernel
theorem dL_law_584 : decode cL_law 584 = .ok (.iadd, 1) := by decide +kernel
theorem dL_law_585 : decode cL_law 585 = .ok (.iaload, 1) := by decide +kernel
theorem dL_law_586 : decode cL_law 586 = .ok (.aload_n 0, 1) := by decide +kernel
theorem dL_law_587 : decode cL_law 587 = .ok (.iload 4, 2) := by decide +kernel
theorem dL_law_589 : decode cL_law 589 = .ok (.iconst 4, 1) := by decide +kernel
theorem dL_law_590 : decode cL_law 590 = .ok (.iadd, 1) := by decide +kernel
theorem dL_law_591 : decode cL_law 591 = .ok (.iaload, 1) := by decide +kernel
theorem dL_law_592 : decode cL_law 592 = .ok (.ifCond .eq 7, 3) := by decide +kernel
theorem dL_law_595 : decode cL_law 595 = .ok (.iconst 1, 1) := by decide +kernel
theorem dL_law_596 : decode cL_law 596 = .ok (.goto 4, 3) := by decide +kernel
theorem dL_law_599 : decode cL_law 599 = .ok (.iconst 0, 1) := by decide +kernel
theorem dL_law_600 : decode cL_law 600 = .ok (.invokevirtual 57, 3) := by decide +kernel
theorem dL_law_603 : decode cL_law 603 = .ok (.if_icmp .eq 254, 3) := by decide +kernel
theorem dL_law_608 : decode cL_law 608 = .ok (.aload_n 1, 1) := by decide +kernel
theorem dL_law_609 : decode cL_law 609 = .ok (.aload_n 0, 1) := by decide +kernel
theorem dL_law_610 : decode cL_law 610 = .ok (.iload 4, 2) := by decide +kernel
theorem dL_law_612 : decode cL_law 612 = .ok (.iconst 1, 1) := by decide +kernel
theorem dL_law_613 : decode cL_law 613 = .ok (.iadd, 1) := by decide +kernel
theorem dL_law_614 : decode cL_law 614 = .ok (.iaload, 1) := by decide +kernel
theorem dL_law_615 : decode cL_law 615 = .ok (.aload_n 0, 1) := by decide +kernel
theorem dL_law_616 : decode cL_law 616 = .ok (.iload 4, 2) := by decide +kernel
theorem dL_law_618 : decode cL_law 618 = .ok (.iconst 2, 1) := by decide +kernel
theorem dL_law_619 : decode cL_law 619 = .ok (.iadd, 1) := by decide +kernel
theorem dL_law_620 : decode cL_law 620 = .ok (.iaload, 1) := by decide +kernel
theorem dL_law_621 : decode cL_law 621 = .ok (.aload_n 3, 1) := by decide +kernel
theorem dL_law_622 : decode cL_law 622 = .ok (.invokestatic 58, 3) := by decide +kernel
theorem dL_law_625 : decode cL_law 625 = .ok (.istore 5, 2) := by decide +kernel
theorem dL_law_627 : decode cL_law 627 = .ok (.aload_n 2, 1) := by decide +kernel
theorem dL_law_628 : decode cL_law 628 = .ok (.aload_n 0, 1) := by decide +kernel
theorem dL_law_629 : decode cL_law 629 = .ok (.iload 4, 2) := by decide +kernel
theorem dL_law_631 : decode cL_law 631 = .ok (.iconst 1, 1) := by decide +kernel
theorem dL_law_632 : decode cL_law 632 = .ok (.iadd, 1) := by decide +kernel
theorem dL_law_633 : decode cL_law 633 = .ok (.iaload, 1) := by decide +kernel
theorem dL_law_634 : decode cL_law 634 = .ok (.aload_n 0, 1) := by decide +kernel
theorem dL_law_635 : decode cL_law 635 = .ok (.iload 4, 2) := by decide +kernel
theorem dL_law_637 : decode cL_law 637 = .ok (.iconst 2, 1) := by decide +kernel
theorem dL_law_638 : decode cL_law 638 = .ok (.iadd, 1) := by decide +kernel
theorem dL_law_639 : decode cL_law 639 = .ok (.iaload, 1) := by decide +kernel
theorem dL_law_640 : decode cL_law 640 = .ok (.invokevirtual 63, 3) := by decide +kernel
theorem dL_law_643 : decode cL_law 643 = .ok (.lstore 6, 2) := by decide +kernel
theorem dL_law_645 : decode cL_law 645 = .ok (.aload_n 2, 1) := by decide +kernel
theorem dL_law_646 : decode cL_law 646 = .ok (.invokevirtual 64, 3) := by decide +kernel
theorem dL_law_649 : decode cL_law 649 = .ok (.iload 5, 2) := by decide +kernel
theorem dL_law_651 : decode cL_law 651 = .ok (.if_icmp .eq 5, 3) := by decide +kernel
theorem dL_law_656 : decode cL_law 656 = .ok (.iload 5, 2) := by decide +kernel
theorem dL_law_658 : decode cL_law 658 = .ok (.ifCond .ne 14, 3) := by decide +kernel
theorem dL_law_661 : decode cL_law 661 = .ok (.aload_n 3, 1) := by decide +kernel
theorem dL_law_662 : decode cL_law 662 = .ok (.iconst 0, 1) := by decide +kernel
theorem dL_law_663 : decode cL_law 663 = .ok (.laload, 1) := by decide +kernel
theorem dL_law_664 : decode cL_law 664 = .ok (.lload 6, 2) := by decide +kernel
theorem dL_law_666 : decode cL_law 666 = .ok (.lcmp, 1) := by decide +kernel
theorem dL_law_667 : decode cL_law 667 = .ok (.ifCond .eq 5, 3) := by decide +kernel
theorem dL_law_672 : decode cL_law 672 = .ok (.goto 185, 3) := by decide +kernel
theorem dL_law_675 : decode cL_law 675 = .ok (.aload_n 1, 1) := by decide +kernel
theorem dL_law_676 : decode cL_law 676 = .ok (.aload_n 0, 1) := by decide +kernel
theorem dL_law_677 : decode cL_law 677 = .ok (.iload 4, 2) := by decide +kernel
theorem dL_law_679 : decode cL_law 679 = .ok (.iconst 1, 1) := by decide +kernel
theorem dL_law_680 : decode cL_law 680 = .ok (.iadd, 1) := by decide +kernel
theorem dL_law_681 : decode cL_law 681 = .ok (.iaload, 1) := by decide +kernel
theorem dL_law_682 : decode cL_law 682 = .ok (.aload_n 0, 1) := by decide +kernel
theorem dL_law_683 : decode cL_law 683 = .ok (.iload 4, 2) := by decide +kernel
theorem dL_law_685 : decode cL_law 685 = .ok (.iconst 2, 1) := by decide +kernel
theorem dL_law_686 : decode cL_law 686 = .ok (.iadd, 1) := by decide +kernel
theorem dL_law_687 : decode cL_law 687 = .ok (.iaload, 1) := by decide +kernel
theorem dL_law_688 : decode cL_law 688 = .ok (.i2l, 1) := by decide +kernel
theorem dL_law_689 : decode cL_law 689 = .ok (.bipush 32, 2) := by decide +kernel
theorem dL_law_691 : decode cL_law 691 = .ok (.lshl, 1) := by decide +kernel
theorem dL_law_692 : decode cL_law 692 = .ok (.aload_n 0, 1) := by decide +kernel
theorem dL_law_693 : decode cL_law 693 = .ok (.iload 4, 2) := by decide +kernel
theorem dL_law_695 : decode cL_law 695 = .ok (.iconst 3, 1) := by decide +kernel
theorem dL_law_696 : decode cL_law 696 = .ok (.iadd, 1) := by decide +kernel
theorem dL_law_697 : decode cL_law 697 = .ok (.iaload, 1) := by decide +kernel
theorem dL_law_698 : decode cL_law 698 = .ok (.i2l, 1) := by decide +kernel
theorem dL_law_699 : decode cL_law 699 = .ok (.ldc2_w 27, 3) := by decide +kernel
theorem dL_law_702 : decode cL_law 702 = .ok (.land, 1) := by decide +kernel
theorem dL_law_703 : decode cL_law 703 = .ok (.lor, 1) := by decide +kernel
theorem dL_law_704 : decode cL_law 704 = .ok (.aload_n 3, 1) := by decide +kernel
theorem dL_law_705 : decode cL_law 705 = .ok (.invokestatic 68, 3) := by decide +kernel
theorem dL_law_708 : decode cL_law 708 = .ok (.istore 5, 2) := by decide +kernel
theorem dL_law_710 : decode cL_law 710 = .ok (.aload_n 2, 1) := by decide +kernel
theorem dL_law_711 : decode cL_law 711 = .ok (.aload_n 0, 1) := by decide +kernel
theorem dL_law_712 : decode cL_law 712 = .ok (.iload 4, 2) := by decide +kernel
theorem dL_law_714 : decode cL_law 714 = .ok (.iconst 1, 1) := by decide +kernel
theorem dL_law_715 : decode cL_law 715 = .ok (.iadd, 1) := by decide +kernel
theorem dL_law_716 : decode cL_law 716 = .ok (.iaload, 1) := by decide +kernel
theorem dL_law_717 : decode cL_law 717 = .ok (.aload_n 0, 1) := by decide +kernel
theorem dL_law_718 : decode cL_law 718 = .ok (.iload 4, 2) := by decide +kernel
theorem dL_law_720 : decode cL_law 720 = .ok (.iconst 2, 1) := by decide +kernel
theorem dL_law_721 : decode cL_law 721 = .ok (.iadd, 1) := by decide +kernel
theorem dL_law_722 : decode cL_law 722 = .ok (.iaload, 1) := by decide +kernel
theorem dL_law_723 : decode cL_law 723 = .ok (.i2l, 1) := by decide +kernel
theorem dL_law_724 : decode cL_law 724 = .ok (.bipush 32, 2) := by decide +kernel
theorem dL_law_726 : decode cL_law 726 = .ok (.lshl, 1) := by decide +kernel
theorem dL_law_727 : decode cL_law 727 = .ok (.aload_n 0, 1) := by decide +kernel
theorem dL_law_728 : decode cL_law 728 = .ok (.iload 4, 2) := by decide +kernel
theorem dL_law_730 : decode cL_law 730 = .ok (.iconst 3, 1) := by decide +kernel
theorem dL_law_731 : decode cL_law 731 = .ok (.iadd, 1) := by decide +kernel
theorem dL_law_732 : decode cL_law 732 = .ok (.iaload, 1) := by decide +kernel
theorem dL_law_733 : decode cL_law 733 = .ok (.i2l, 1) := by decide +kernel
theorem dL_law_734 : decode cL_law 734 = .ok (.ldc2_w 27, 3) := by decide +kernel
theorem dL_law_737 : decode cL_law 737 = .ok (.land, 1) := by decide +kernel
theorem dL_law_738 : decode cL_law 738 = .ok (.lor, 1) := by decide +kernel
theorem dL_law_739 : decode cL_law 739 = .ok (.invokevirtual 71, 3) := by decide +kernel
theorem dL_law_742 : decode cL_law 742 = .ok (.istore 6, 2) := by decide +kernel
theorem dL_law_744 : decode cL_law 744 = .ok (.aload_n 2, 1) := by decide +kernel
theorem dL_law_745 : decode cL_law 745 = .ok (.invokevirtual 64, 3) := by decide +kernel
theorem dL_law_748 : decode cL_law 748 = .ok (.iload 5, 2) := by decide +kernel
theorem dL_law_750 : decode cL_law 750 = .ok (.if_icmp .eq 5, 3) := by decide +kernel
theorem dL_law_755 : decode cL_law 755 = .ok (.iload 5, 2) := by decide +kernel
theorem dL_law_757 : decode cL_law 757 = .ok (.ifCond .ne 22, 3) := by decide +kernel
theorem dL_law_760 : decode cL_law 760 = .ok (.aload_n 3, 1) := by decide +kernel
theorem dL_law_761 : decode cL_law 761 = .ok (.iconst 0, 1) := by decide +kernel
theorem dL_law_762 : decode cL_law 762 = .ok (.laload, 1) := by decide +kernel
theorem dL_law_763 : decode cL_law 763 = .ok (.iload 6, 2) := by decide +kernel
theorem dL_law_765 : decode cL_law 765 = .ok (.ifCond .eq 7, 3) := by decide +kernel
theorem dL_law_768 : decode cL_law 768 = .ok (.lconst 1, 1) := by decide +kernel
theorem dL_law_769 : decode cL_law 769 = .ok (.goto 4, 3) := by decide +kernel
theorem dL_law_772 : decode cL_law 772 = .ok (.lconst 0, 1) := by decide +kernel
theorem dL_law_773 : decode cL_law 773 = .ok (.lcmp, 1) := by decide +kernel
theorem dL_law_774 : decode cL_law 774 = .ok (.ifCond .eq 5, 3) := by decide +kernel
theorem dL_law_779 : decode cL_law 779 = .ok (.goto 78, 3) := by decide +kernel
theorem dL_law_782 : decode cL_law 782 = .ok (.aload_n 1, 1) := by decide +kernel
theorem dL_law_783 : decode cL_law 783 = .ok (.aload_n 0, 1) := by decide +kernel
theorem dL_law_784 : decode cL_law 784 = .ok (.iload 4, 2) := by decide +kernel
theorem dL_law_786 : decode cL_law 786 = .ok (.iconst 1, 1) := by decide +kernel
theorem dL_law_787 : decode cL_law 787 = .ok (.iadd, 1) := by decide +kernel
theorem dL_law_788 : decode cL_law 788 = .ok (.iaload, 1) := by decide +kernel
theorem dL_law_789 : decode cL_law 789 = .ok (.aload_n 0, 1) := by decide +kernel
theorem dL_law_790 : decode cL_law 790 = .ok (.iload 4, 2) := by decide +kernel
theorem dL_law_792 : decode cL_law 792 = .ok (.iconst 2, 1) := by decide +kernel
theorem dL_law_793 : decode cL_law 793 = .ok (.iadd, 1) := by decide +kernel
theorem dL_law_794 : decode cL_law 794 = .ok (.iaload, 1) := by decide +kernel
theorem dL_law_795 : decode cL_law 795 = .ok (.aload_n 3, 1) := by decide +kernel
theorem dL_law_796 : decode cL_law 796 = .ok (.invokestatic 72, 3) := by decide +kernel
theorem dL_law_799 : decode cL_law 799 = .ok (.istore 5, 2) := by decide +kernel
theorem dL_law_801 : decode cL_law 801 = .ok (.aload_n 2, 1) := by decide +kernel
theorem dL_law_802 : decode cL_law 802 = .ok (.aload_n 0, 1) := by decide +kernel
theorem dL_law_803 : decode cL_law 803 = .ok (.iload 4, 2) := by decide +kernel
theorem dL_law_805 : decode cL_law 805 = .ok (.iconst 1, 1) := by decide +kernel
theorem dL_law_806 : decode cL_law 806 = .ok (.iadd, 1) := by decide +kernel
theorem dL_law_807 : decode cL_law 807 = .ok (.iaload, 1) := by decide +kernel
theorem dL_law_808 : decode cL_law 808 = .ok (.aload_n 0, 1) := by decide +kernel
theorem dL_law_809 : decode cL_law 809 = .ok (.iload 4, 2) := by decide +kernel
theorem dL_law_811 : decode cL_law 811 = .ok (.iconst 2, 1) := by decide +kernel
theorem dL_law_812 : decode cL_law 812 = .ok (.iadd, 1) := by decide +kernel
theorem dL_law_813 : decode cL_law 813 = .ok (.iaload, 1) := by decide +kernel
theorem dL_law_814 : decode cL_law 814 = .ok (.invokevirtual 74, 3) := by decide +kernel
theorem dL_law_817 : decode cL_law 817 = .ok (.istore 6, 2) := by decide +kernel
theorem dL_law_819 : decode cL_law 819 = .ok (.aload_n 2, 1) := by decide +kernel
theorem dL_law_820 : decode cL_law 820 = .ok (.invokevirtual 64, 3) := by decide +kernel
theorem dL_law_823 : decode cL_law 823 = .ok (.iload 5, 2) := by decide +kernel
theorem dL_law_825 : decode cL_law 825 = .ok (.if_icmp .eq 5, 3) := by decide +kernel
theorem dL_law_830 : decode cL_law 830 = .ok (.iload 5, 2) := by decide +kernel
theorem dL_law_832 : decode cL_law 832 = .ok (.ifCond .ne 22, 3) := by decide +kernel
theorem dL_law_835 : decode cL_law 835 = .ok (.aload_n 3, 1) := by decide +kernel
theorem dL_law_836 : decode cL_law 836 = .ok (.iconst 0, 1) := by decide +kernel
theorem dL_law_837 : decode cL_law 837 = .ok (.laload, 1) := by decide +kernel
theorem dL_law_838 : decode cL_law 838 = .ok (.iload 6, 2) := by decide +kernel
theorem dL_law_840 : decode cL_law 840 = .ok (.ifCond .eq 7, 3) := by decide +kernel
theorem dL_law_843 : decode cL_law 843 = .ok (.lconst 1, 1) := by decide +kernel
theorem dL_law_844 : decode cL_law 844 = .ok (.goto 4, 3) := by decide +kernel
theorem dL_law_847 : decode cL_law 847 = .ok (.lconst 0, 1) := by decide +kernel
theorem dL_law_848 : decode cL_law 848 = .ok (.lcmp, 1) := by decide +kernel
theorem dL_law_849 : decode cL_law 849 = .ok (.ifCond .eq 5, 3) := by decide +kernel
theorem dL_law_854 : decode cL_law 854 = .ok (.goto 3, 3) := by decide +kernel
theorem dL_law_857 : decode cL_law 857 = .ok (.iinc 4 7, 3) := by decide +kernel
theorem dL_law_860 : decode cL_law 860 = .ok (.goto (-837), 3) := by decide +kernel
theorem dL_law_863 : decode cL_law 863 = .ok (.iconst 1, 1) := by decide +kernel
theorem dL_law_864 : decode cL_law 864 = .ok (.ireturn, 1) := by decide +kernel
/-! THE CLAIM OUT OF ONE WALK OF THE LAW'S BODY. Your part is whole_start (and what it stands on); all else here is the same for every law, but numbers. -/
def R_law : String := "RangeDeskLaw"
def lw_P (b : Addr) (xs : List Int32) (args : Array Value) (s : State) : Prop := args = #[.ref b] ∧ s.IntsAt b xs ∧ xs.length ≤ 3584 ∧ (Jvm.Cond.and given_1 narrow_1).before args s = true
def lw_Q (_ : Array Value) (s : State) (o : Outcome) (t : State) : Prop := o = .returned (some (.int 1)) ∧ Framed s o t [] 645548 7159459
def lw_Z (below : List Frame) (a : Array Value) (s : State) : State → Prop := fun t => ∃ o, t.status = .running ∧ Ended t below o ∧ lw_Q a s o t
/-- the law's own end, with 1 on the stack, nothing written that was there before, its room as the claim has it -/
theorem lw_ret {p : Program} {l : Launch} {e : Env} {s : State} {m : MethodId} {below : List Frame} {meth : Method} {c : Code} {b : Nat} (hx : p.tables.exec = Jvm.exec) (hb : c.code = code) (hr : meth.sig.returnType = ret) (hlocks : meth.locks = false) {pc : Nat} {H : Heap} {ls : Array Slot} (hdg : decode code pc = .ok (.ireturn, 1)) : W p l e room_1 s m #[Value.ref b] below meth c H [] 645548 7159459 (lw_Z below #[Value.ref b] s) (F0 m pc ls [.int 1]) := by
  intro T hT X
  obtain ⟨fs, hret, hrun, hended, hW, hframe⟩ := X.leave (v := some (.int 1)) (hlocks := hlocks) (fun h => by rw [hr] at h; cases h)
  have hmeth' : T.vm.method? m = some meth := X.method'
  refine ⟨T.setFrames fs, ?_, .returned (some (.int 1)), hrun, hended, rfl, ⟨_, rfl⟩, hW, hframe⟩
  jvm_step X.here [X.here.top, hx, hb, hdg, hmeth', hr, ret, narrow_b1]
  (try refine ⟨rfl, ?_⟩); (try refine ⟨rfl, ?_⟩)
  first | (intro acts; rw [hret _ acts rfl rfl rfl]) | rw [hret _ _ rfl rfl rfl]
  exact Steps.refl _
/-- what holds at the law's entry: the machine, the code, the tables' words (any of lw_tbl by 'hts w (by decide +kernel)'), the script of L ints xs at the cell b, what the Statement gives of the start (any of its parts by flat_of_before) -/
def lw_At (p : Program) (s : State) (m : MethodId) (meth : Method) (c : Code) (b L : Nat) (xs : Nat → Int32) : Prop :=
  p.tables.exec = Jvm.exec ∧ c.code = code ∧ meth.sig.returnType = ret ∧ c.maxLocals = 8 ∧ s.vm.findClass R_law = some m.cls ∧ (∀ w ∈ lw_tbl, w.before #[Value.ref b] s = true) ∧ va_X b L xs s s.heap ∧ b < s.heap.size ∧ meth.locks = false ∧ (Jvm.Cond.and given_1 narrow_1).before #[Value.ref b] s = true
theorem k_M_exact (l : Launch) (D : va_G) (r : Nat → Nat) (cj : Nat → ClassId) (th : Int32) (st : Md) (p1 : Int32) (p2 : Int64) : sp_M l yM_exact wsM_exact ({ frames := 1, cells := 0, slots := 0, locals := 23 }) D [.ref (r 0), .int p1, .long p2] (md_W r cj th st) [(cj 1, .long), (cj 2, .long), (cj 3, .long), (cj 4, .long), (cj 5, .long), (cj 6, .long)] (sp_Qz D (md_W r cj th st) (md_W r cj 0 (f_M_exact st p1 p2).1) [(cj 1, .long), (cj 2, .long), (cj 3, .long), (cj 4, .long), (cj 5, .long), (cj 6, .long)] ((f_M_exact st p1 p2).2)) := c_M_exact l D (r 0) (r 1) (r 2) (r 3) (r 4) (r 5) (r 6) (cj 1) (cj 2) (cj 3) (cj 4) (cj 5) (cj 6) th st p1 p2
theorem k_M_any (l : Launch) (D : va_G) (r : Nat → Nat) (cj : Nat → ClassId) (th : Int32) (st : Md) (p1 : Int32) : sp_M l yM_any wsM_any ({ frames := 1, cells := 0, slots := 0, locals := 21 }) D [.ref (r 0), .int p1] (md_W r cj th st) [(cj 1, .long), (cj 2, .long), (cj 3, .long), (cj 4, .long), (cj 5, .long), (cj 6, .long)] (sp_Qz D (md_W r cj th st) (md_W r cj 0 (f_M_any st p1).1) [(cj 1, .long), (cj 2, .long), (cj 3, .long), (cj 4, .long), (cj 5, .long), (cj 6, .long)] ((f_M_any st p1).2)) := c_M_any l D (r 0) (r 1) (r 2) (r 3) (r 4) (r 5) (r 6) (cj 1) (cj 2) (cj 3) (cj 4) (cj 5) (cj 6) th st p1
theorem k_M_bits (l : Launch) (D : va_G) (r : Nat → Nat) (cj : Nat → ClassId) (th : Int32) (st : Md) (p1 : Int32) (p2 : Int64) (p3 : Int64) : sp_M l yM_bits wsM_bits ({ frames := 4, cells := 0, slots := 0, locals := 90 }) D [.ref (r 0), .int p1, .long p2, .long p3] (md_W r cj th st) [(cj 1, .long), (cj 2, .long), (cj 3, .long), (cj 4, .long), (cj 5, .long), (cj 6, .long)] (sp_Qz D (md_W r cj th st) (md_W r cj 0 (f_M_bits st p1 p2 p3).1) [(cj 1, .long), (cj 2, .long), (cj 3, .long), (cj 4, .long), (cj 5, .long), (cj 6, .long)] ((f_M_bits st p1 p2 p3).2)) := c_M_bits l D (r 0) (r 1) (r 2) (r 3) (r 4) (r 5) (r 6) (cj 1) (cj 2) (cj 3) (cj 4) (cj 5) (cj 6) th st p1 p2 p3
theorem k_M_bounds (l : Launch) (D : va_G) (r : Nat → Nat) (cj : Nat → ClassId) (th : Int32) (st : Md) (p1 : Int32) (p2 : Int64) (p3 : Int64) (p4 : Int32) : sp_M l yM_bounds wsM_bounds ({ frames := 4, cells := 0, slots := 0, locals := 90 }) D [.ref (r 0), .int p1, .long p2, .long p3, .int p4] (md_W r cj th st) [(cj 1, .long), (cj 2, .long), (cj 3, .long), (cj 4, .long), (cj 5, .long), (cj 6, .long)] (sp_Qz D (md_W r cj th st) (md_W r cj 0 (f_M_bounds st p1 p2 p3 p4).1) [(cj 1, .long), (cj 2, .long), (cj 3, .long), (cj 4, .long), (cj 5, .long), (cj 6, .long)] ((f_M_bounds st p1 p2 p3 p4).2)) := c_M_bounds l D (r 0) (r 1) (r 2) (r 3) (r 4) (r 5) (r 6) (cj 1) (cj 2) (cj 3) (cj 4) (cj 5) (cj 6) th st p1 p2 p3 p4
theorem k_M_operate (l : Launch) (D : va_G) (r : Nat → Nat) (cj : Nat → ClassId) (th : Int32) (st : Md) (p1 : Int32) (p2 : Int32) (p3 : Int32) (p4 : Int32) (p5 : Int32) : sp_M l yM_operate wsM_operate ({ frames := 5, cells := 0, slots := 0, locals := 121 }) D [.ref (r 0), .int p1, .int p2, .int p3, .int p4, .int p5] (md_W r cj th st) [(cj 1, .long), (cj 2, .long), (cj 3, .long), (cj 4, .long), (cj 5, .long), (cj 6, .long)] (sp_Qz D (md_W r cj th st) (md_W r cj 0 (f_M_operate st p1 p2 p3 p4 p5).1) [(cj 1, .long), (cj 2, .long), (cj 3, .long), (cj 4, .long), (cj 5, .long), (cj 6, .long)] ((f_M_operate st p1 p2 p3 p4 p5).2)) := c_M_operate l D (r 0) (r 1) (r 2) (r 3) (r 4) (r 5) (r 6) (cj 1) (cj 2) (cj 3) (cj 4) (cj 5) (cj 6) th st p1 p2 p3 p4 p5
theorem k_M_holds (l : Launch) (D : va_G) (r : Nat → Nat) (cj : Nat → ClassId) (th : Int32) (st : Md) (p1 : Int32) (p2 : Int32) (p3 : Int32) (p4 : Int32) : sp_M l yM_holds wsM_holds ({ frames := 5, cells := 0, slots := 0, locals := 121 }) D [.ref (r 0), .int p1, .int p2, .int p3, .int p4] (md_W r cj th st) [(cj 1, .long), (cj 2, .long), (cj 3, .long), (cj 4, .long), (cj 5, .long), (cj 6, .long)] (sp_Qz D (md_W r cj th st) (md_W r cj 0 (f_M_holds st p1 p2 p3 p4).1) [(cj 1, .long), (cj 2, .long), (cj 3, .long), (cj 4, .long), (cj 5, .long), (cj 6, .long)] ((f_M_holds st p1 p2 p3 p4).2)) := c_M_holds l D (r 0) (r 1) (r 2) (r 3) (r 4) (r 5) (r 6) (cj 1) (cj 2) (cj 3) (cj 4) (cj 5) (cj 6) th st p1 p2 p3 p4
theorem k_M_look (l : Launch) (D : va_G) (r : Nat → Nat) (cj : Nat → ClassId) (th : Int32) (st : Md) (p1 : Int32) (p2 : Int32) : sp_M l yM_look wsM_look ({ frames := 1, cells := 0, slots := 0, locals := 20 }) D [.ref (r 0), .int p1, .int p2] (md_W r cj th st) [(cj 1, .long), (cj 2, .long), (cj 3, .long), (cj 4, .long), (cj 5, .long), (cj 6, .long)] (sp_Ql D (md_W r cj th st) (md_W r cj (f_M_look st p1 p2).1 st) [(cj 1, .long), (cj 2, .long), (cj 3, .long), (cj 4, .long), (cj 5, .long), (cj 6, .long)] ((f_M_look st p1 p2).2)) := c_M_look l D (r 0) (r 1) (r 2) (r 3) (r 4) (r 5) (r 6) (cj 1) (cj 2) (cj 3) (cj 4) (cj 5) (cj 6) th st p1 p2
theorem k_M_has (l : Launch) (D : va_G) (r : Nat → Nat) (cj : Nat → ClassId) (th : Int32) (st : Md) (p1 : Int32) (p2 : Int64) : sp_M l yM_has wsM_has ({ frames := 1, cells := 0, slots := 0, locals := 23 }) D [.ref (r 0), .int p1, .long p2] (md_W r cj th st) [(cj 1, .long), (cj 2, .long), (cj 3, .long), (cj 4, .long), (cj 5, .long), (cj 6, .long)] (sp_Qz D (md_W r cj th st) (md_W r cj (f_M_has st p1 p2).1 st) [(cj 1, .long), (cj 2, .long), (cj 3, .long), (cj 4, .long), (cj 5, .long), (cj 6, .long)] ((f_M_has st p1 p2).2)) := c_M_has l D (r 0) (r 1) (r 2) (r 3) (r 4) (r 5) (r 6) (cj 1) (cj 2) (cj 3) (cj 4) (cj 5) (cj 6) th st p1 p2
theorem k_M_covers (l : Launch) (D : va_G) (r : Nat → Nat) (cj : Nat → ClassId) (th : Int32) (st : Md) (p1 : Int32) (p2 : Int32) : sp_M l yM_covers wsM_covers ({ frames := 1, cells := 0, slots := 0, locals := 23 }) D [.ref (r 0), .int p1, .int p2] (md_W r cj th st) [(cj 1, .long), (cj 2, .long), (cj 3, .long), (cj 4, .long), (cj 5, .long), (cj 6, .long)] (sp_Qz D (md_W r cj th st) (md_W r cj (f_M_covers st p1 p2).1 st) [(cj 1, .long), (cj 2, .long), (cj 3, .long), (cj 4, .long), (cj 5, .long), (cj 6, .long)] ((f_M_covers st p1 p2).2)) := c_M_covers l D (r 0) (r 1) (r 2) (r 3) (r 4) (r 5) (r 6) (cj 1) (cj 2) (cj 3) (cj 4) (cj 5) (cj 6) th st p1 p2
theorem k_M_thrown (l : Launch) (D : va_G) (r : Nat → Nat) (cj : Nat → ClassId) (th : Int32) (st : Md)  : sp_M l yM_thrown wsM_thrown ({ frames := 0, cells := 0, slots := 0, locals := 0 }) D [.ref (r 0)] (md_W r cj th st) [(cj 1, .long), (cj 2, .long), (cj 3, .long), (cj 4, .long), (cj 5, .long), (cj 6, .long)] (sp_Qi D (md_W r cj th st) (md_W r cj th st) [(cj 1, .long), (cj 2, .long), (cj 3, .long), (cj 4, .long), (cj 5, .long), (cj 6, .long)] (th)) := c_M_thrown l D (r 0) (r 1) (r 2) (r 3) (r 4) (r 5) (r 6) (cj 1) (cj 2) (cj 3) (cj 4) (cj 5) (cj 6) th st 
abbrev lw_T (cA : ClassId) (cj : Nat → ClassId) (cO : ClassId) : List (ClassId × FieldType) := [(cj 1, .long), (cj 2, .long), (cj 3, .long), (cj 4, .long), (cj 5, .long), (cj 6, .long), (cA, .object RX1), (cO, .long)]
abbrev lw_Wd (q : Nat → Nat) (cA : ClassId) (ad : Nat → Nat) (r : Nat → Nat) (cj : Nat → ClassId) (o : Nat) (cO : ClassId) (sg : Nat → Nm) (x : Nx) (th : Int32) (st : Md) (f : Nat → Int64) : va_W := md_W r cj th st ++ (dk_W q cA ad sg x ++ ou_W o cO f)
/-- the law at pc, at index i of the script, whatever desk and reference hold, so long as they hold the same -/
def lw_J (p : Program) (l : Launch) (e : Env) (s : State) (m : MethodId) (below : List Frame) (meth : Method) (c : Code) (b : Nat) (D : va_G) (q : Nat → Nat) (cA : ClassId) (ad : Nat → Nat) (r : Nat → Nat) (cj : Nat → ClassId) (o : Nat) (cO : ClassId) (i : Int32) (pc cells slots : Nat) : Prop := ∀ (sg : Nat → Nm) (x : Nx) (th : Int32) (st : Md) (f : Nat → Int64) (H : Heap) (locs : List Loc) (ls : Array Slot), x_rel sg st → x_inv sg → va_P D vwCl (lw_Wd q cA ad r cj o cO sg x th st f) H → va_D (fun z => s.heap.size ≤ z) (lw_Wd q cA ad r cj o cO sg x th st f) → va_S (fun z => s.heap.size ≤ z) s.heap H locs → lv_has ls 8 [(4, .int i), (0, .ref b), (1, .ref (q 0)), (2, .ref (r 0)), (3, .ref o)] → W p l e room_1 s m #[Value.ref b] below meth c H locs cells slots (lw_Z below #[Value.ref b] s) (F0 m pc ls [])
def lw_F (p : Program) (l : Launch) (s : State) (m : MethodId) (meth : Method) (c : Code) (b L : Nat) (xs : Nat → Int32) (D : va_G) (cA : ClassId) (cj : Nat → ClassId) (cO : ClassId) : Prop := sp_C p s m meth c #[Value.ref b] cL_law 8 RL ret wsG ∧ va_X b L xs s s.heap ∧ b < s.heap.size ∧ va_K D vwCl (lw_T cA cj cO) s ∧ sx_Z s ∧ l.stackTraces = false
def lw_in (i : Int32) (L : Nat) : Prop := vp_in i L ∧ vp_in (i + 1) L ∧ vp_in (i + 2) L ∧ vp_in (i + 3) L ∧ vp_in (i + 4) L ∧ vp_in (i + 5) L ∧ vp_in (i + 6) L
theorem md_len {r : Nat → Nat} {cj : Nat → ClassId} {th : Int32} {st : Md} : (md_W r cj th st).length = 7 := rfl
theorem lo_at {q : Nat → Nat} {cA : ClassId} {ad : Nat → Nat} {r : Nat → Nat} {cj : Nat → ClassId} {o : Nat} {cO : ClassId} {sg : Nat → Nm} {x : Nx} {th : Int32} {st : Md} {f : Nat → Int64} : (lw_Wd q cA ad r cj o cO sg x th st f)[32]? = some (o, .inl (cO, 1, .inr (.inl f))) := by
  rw [List.getElem?_append_right (by rw [md_len]; decide), md_len]
  exact ou_at
theorem wG_i : ∀ w ∈ wsG, w ∈ wsG := fun _ h => h
theorem lw_hws {s : State} {args : Array Value} {kw : Cond} (hts : ∀ w ∈ wsG, w.before args s = true) (hk : kw ∈ wsG) : ∀ w ∈ kw :: wsG, ∀ (a' : Array Value) (U : State), s.WarmedH U.vm → w.before a' U = true := fun w hw a' U hW => by
  have hm : w ∈ wsG := (List.mem_cons.mp hw).elim (fun e => by rw [e]; exact hk) id
  exact word_at hW (wG_good hm) (hts w hm)
theorem lw_nlen {d : String} {n : Nat} (e : (parseMethodDescriptor d).map (fun z => z.parameters.length) = some n) : ∀ sig, parseMethodDescriptor d = some sig → n = sig.parameters.length := fun sig h => by
  rw [h] at e
  exact (Option.some.inj e).symm
section LWT
variable {p : Program} {l : Launch} {e : Env} {R : Room} {s : State} {m : MethodId} {args : Array Value} {below : List Frame} {meth : Method} {c : Code} {H : Heap} {locs : List Loc} {cells slots : Nat} {Q : State → Prop} {pc : Nat} {ls : Array Slot} {rest : List Value}
theorem lw_topi {x y : Int32} (h : y = x) (k : W p l e R s m args below meth c H locs cells slots Q (F0 m pc ls (.int y :: rest))) : W p l e R s m args below meth c H locs cells slots Q (F0 m pc ls (.int x :: rest)) := by
  subst h
  exact k
theorem lw_topl {x y : Int64} (h : y = x) (k : W p l e R s m args below meth c H locs cells slots Q (F0 m pc ls (.long y :: rest))) : W p l e R s m args below meth c H locs cells slots Q (F0 m pc ls (.long x :: rest)) := by
  subst h
  exact k
end LWT
