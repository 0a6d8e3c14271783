theorem wm_202 : (.code yX2_add cX2_add 7 none : Cond) ∈ wsG := wG_of 329 (by decide +kernel) (by decide +kernel)
theorem wm_203 : (.methodLink RX2 46 yX2_add : Cond) ∈ wsG := wG_of 326 (by decide +kernel) (by decide +kernel)
theorem wm_204 : (.instanceMethod yX2_add : Cond) ∈ wsG := wG_of 328 (by decide +kernel) (by decide +kernel)
theorem wm_205 : (.selects RX2 yX2_add yX2_add : Cond) ∈ wsG := wG_of 10 (by decide +kernel) (by decide +kernel)
theorem wm_206 : (.code yX2_multiply cX2_multiply 2 none : Cond) ∈ wsG := wG_of 344 (by decide +kernel) (by decide +kernel)
theorem wm_207 : (.methodLink RX2 52 yX2_multiply : Cond) ∈ wsG := wG_of 341 (by decide +kernel) (by decide +kernel)
theorem wm_208 : (.instanceMethod yX2_multiply : Cond) ∈ wsG := wG_of 343 (by decide +kernel) (by decide +kernel)
theorem wm_209 : (.selects RX2 yX2_multiply yX2_multiply : Cond) ∈ wsG := wG_of 12 (by decide +kernel) (by decide +kernel)
theorem wm_210 : (.code yX2_divide cX2_divide 1 none : Cond) ∈ wsG := wG_of 357 (by decide +kernel) (by decide +kernel)
theorem wm_211 : (.methodLink RX2 55 yX2_divide : Cond) ∈ wsG := wG_of 354 (by decide +kernel) (by decide +kernel)
theorem wm_212 : (.instanceMethod yX2_divide : Cond) ∈ wsG := wG_of 356 (by decide +kernel) (by decide +kernel)
theorem wm_213 : (.selects RX2 yX2_divide yX2_divide : Cond) ∈ wsG := wG_of 13 (by decide +kernel) (by decide +kernel)
theorem wm_214 : (.code yX2_rest cX2_rest 1 none : Cond) ∈ wsG := wG_of 364 (by decide +kernel) (by decide +kernel)
theorem wm_215 : (.methodLink RX2 58 yX2_rest : Cond) ∈ wsG := wG_of 361 (by decide +kernel) (by decide +kernel)
theorem wm_216 : (.instanceMethod yX2_rest : Cond) ∈ wsG := wG_of 363 (by decide +kernel) (by decide +kernel)
theorem wm_217 : (.selects RX2 yX2_rest yX2_rest : Cond) ∈ wsG := wG_of 14 (by decide +kernel) (by decide +kernel)
theorem wm_218 : (.code yX2_or cX2_or 3 none : Cond) ∈ wsG := wG_of 375 (by decide +kernel) (by decide +kernel)
theorem wm_219 : (.methodLink RX2 64 yX2_or : Cond) ∈ wsG := wG_of 372 (by decide +kernel) (by decide +kernel)
theorem wm_220 : (.instanceMethod yX2_or : Cond) ∈ wsG := wG_of 374 (by decide +kernel) (by decide +kernel)
theorem wm_221 : (.selects RX2 yX2_or yX2_or : Cond) ∈ wsG := wG_of 16 (by decide +kernel) (by decide +kernel)
theorem wm_222 : (.code yX2_xor cX2_xor 3 none : Cond) ∈ wsG := wG_of 382 (by decide +kernel) (by decide +kernel)
theorem wm_223 : (.methodLink RX2 67 yX2_xor : Cond) ∈ wsG := wG_of 379 (by decide +kernel) (by decide +kernel)
theorem wm_224 : (.instanceMethod yX2_xor : Cond) ∈ wsG := wG_of 381 (by decide +kernel) (by decide +kernel)
theorem wm_225 : (.selects RX2 yX2_xor yX2_xor : Cond) ∈ wsG := wG_of 17 (by decide +kernel) (by decide +kernel)
theorem wm_226 : (.code yX2_negate cX2_negate 1 none : Cond) ∈ wsG := wG_of 386 (by decide +kernel) (by decide +kernel)
theorem wm_227 : (.methodLink RX2 70 yX2_negate : Cond) ∈ wsG := wG_of 383 (by decide +kernel) (by decide +kernel)
theorem wm_228 : (.instanceMethod yX2_negate : Cond) ∈ wsG := wG_of 385 (by decide +kernel) (by decide +kernel)
theorem wm_229 : (.selects RX2 yX2_negate yX2_negate : Cond) ∈ wsG := wG_of 18 (by decide +kernel) (by decide +kernel)
theorem wm_230 : (.code yX2_byteCount cX2_byteCount 1 (some .int) : Cond) ∈ wsG := wG_of 390 (by decide +kernel) (by decide +kernel)
theorem wm_231 : (.methodLink RX2 73 yX2_byteCount : Cond) ∈ wsG := wG_of 387 (by decide +kernel) (by decide +kernel)
theorem wm_232 : (.instanceMethod yX2_byteCount : Cond) ∈ wsG := wG_of 389 (by decide +kernel) (by decide +kernel)
theorem wm_233 : (.selects RX2 yX2_byteCount yX2_byteCount : Cond) ∈ wsG := wG_of 19 (by decide +kernel) (by decide +kernel)
theorem wm_234 : (.code yX2_swap cX2_swap 2 none : Cond) ∈ wsG := wG_of 400 (by decide +kernel) (by decide +kernel)
theorem wm_235 : (.methodLink RX2 77 yX2_swap : Cond) ∈ wsG := wG_of 397 (by decide +kernel) (by decide +kernel)
theorem wm_236 : (.instanceMethod yX2_swap : Cond) ∈ wsG := wG_of 399 (by decide +kernel) (by decide +kernel)
theorem wm_237 : (.selects RX2 yX2_swap yX2_swap : Cond) ∈ wsG := wG_of 20 (by decide +kernel) (by decide +kernel)
theorem wm_238 : (.code yX2_cut cX2_cut 2 none : Cond) ∈ wsG := wG_of 412 (by decide +kernel) (by decide +kernel)
theorem wm_239 : (.methodLink RX2 80 yX2_cut : Cond) ∈ wsG := wG_of 409 (by decide +kernel) (by decide +kernel)
theorem wm_240 : (.instanceMethod yX2_cut : Cond) ∈ wsG := wG_of 411 (by decide +kernel) (by decide +kernel)
theorem wm_241 : (.selects RX2 yX2_cut yX2_cut : Cond) ∈ wsG := wG_of 21 (by decide +kernel) (by decide +kernel)
theorem wm_242 : (.code yX1_becomeAny cX1_becomeAny 1 none : Cond) ∈ wsG := wG_of 198 (by decide +kernel) (by decide +kernel)
theorem wm_243 : (.methodLink RX2 31 yX1_becomeAny : Cond) ∈ wsG := wG_of 294 (by decide +kernel) (by decide +kernel)
theorem wm_244 : (.instanceMethod yX1_becomeAny : Cond) ∈ wsG := wG_of 196 (by decide +kernel) (by decide +kernel)
theorem wm_245 : (.selects RX1 yX1_becomeAny yX1_becomeAny : Cond) ∈ wsG := wG_of 197 (by decide +kernel) (by decide +kernel)
theorem wm_246 : (.code yX2_shift cX2_shift 4 none : Cond) ∈ wsG := wG_of 298 (by decide +kernel) (by decide +kernel)
theorem wm_247 : (.methodLink RX2 34 yX2_shift : Cond) ∈ wsG := wG_of 295 (by decide +kernel) (by decide +kernel)
theorem wm_248 : (.instanceMethod yX2_shift : Cond) ∈ wsG := wG_of 297 (by decide +kernel) (by decide +kernel)
theorem wm_249 : (.selects RX2 yX2_shift yX2_shift : Cond) ∈ wsG := wG_of 5 (by decide +kernel) (by decide +kernel)
theorem wm_250 : (.methodLink RX2 42 yX1_settle : Cond) ∈ wsG := wG_of 413 (by decide +kernel) (by decide +kernel)
theorem wm_251 : (.code yX2_apply cX2_apply 2 none : Cond) ∈ wsG := wG_of 325 (by decide +kernel) (by decide +kernel)
theorem wm_252 : (.methodLink RX2 38 yX2_apply : Cond) ∈ wsG := wG_of 322 (by decide +kernel) (by decide +kernel)
theorem wm_253 : (.instanceMethod yX2_apply : Cond) ∈ wsG := wG_of 324 (by decide +kernel) (by decide +kernel)
theorem wm_254 : (.selects RX2 yX2_apply yX2_apply : Cond) ∈ wsG := wG_of 9 (by decide +kernel) (by decide +kernel)
theorem wm_255 : (.code yX1_narrow cX1_narrow 1 none : Cond) ∈ wsG := wG_of 291 (by decide +kernel) (by decide +kernel)
theorem wm_256 : (.methodLink RX2 28 yX1_narrow : Cond) ∈ wsG := wG_of 288 (by decide +kernel) (by decide +kernel)
theorem wm_257 : (.instanceMethod yX1_narrow : Cond) ∈ wsG := wG_of 289 (by decide +kernel) (by decide +kernel)
theorem wm_258 : (.selects RX1 yX1_narrow yX1_narrow : Cond) ∈ wsG := wG_of 290 (by decide +kernel) (by decide +kernel)
theorem dX2_apply_0 : decode cX2_apply 0 = .ok (.iload_n 1, 1) := by decide +kernel
theorem dX2_apply_1 : decode cX2_apply 1 = .ok (.tableswitch 174 0 14 #[75, 82, 89, 96, 103, 110, 117, 124, 174, 174, 174, 131, 138, 152, 163], 75) := by decide +kernel
theorem dX2_apply_76 : decode cX2_apply 76 = .ok (.aload_n 0, 1) := by decide +kernel
theorem dX2_apply_77 : decode cX2_apply 77 = .ok (.invokevirtual 46, 3) := by decide +kernel
theorem dX2_apply_80 : decode cX2_apply 80 = .ok (.goto 95, 3) := by decide +kernel
theorem dX2_apply_83 : decode cX2_apply 83 = .ok (.aload_n 0, 1) := by decide +kernel
theorem dX2_apply_84 : decode cX2_apply 84 = .ok (.invokevirtual 49, 3) := by decide +kernel
theorem dX2_apply_87 : decode cX2_apply 87 = .ok (.goto 88, 3) := by decide +kernel
theorem dX2_apply_90 : decode cX2_apply 90 = .ok (.aload_n 0, 1) := by decide +kernel
theorem dX2_apply_91 : decode cX2_apply 91 = .ok (.invokevirtual 52, 3) := by decide +kernel
theorem dX2_apply_94 : decode cX2_apply 94 = .ok (.goto 81, 3) := by decide +kernel
theorem dX2_apply_97 : decode cX2_apply 97 = .ok (.aload_n 0, 1) := by decide +kernel
theorem dX2_apply_98 : decode cX2_apply 98 = .ok (.invokevirtual 55, 3) := by decide +kernel
theorem dX2_apply_101 : decode cX2_apply 101 = .ok (.goto 74, 3) := by decide +kernel
theorem dX2_apply_104 : decode cX2_apply 104 = .ok (.aload_n 0, 1) := by decide +kernel
theorem dX2_apply_105 : decode cX2_apply 105 = .ok (.invokevirtual 58, 3) := by decide +kernel
theorem dX2_apply_108 : decode cX2_apply 108 = .ok (.goto 67, 3) := by decide +kernel
theorem dX2_apply_111 : decode cX2_apply 111 = .ok (.aload_n 0, 1) := by decide +kernel
theorem dX2_apply_112 : decode cX2_apply 112 = .ok (.invokevirtual 61, 3) := by decide +kernel
theorem dX2_apply_115 : decode cX2_apply 115 = .ok (.goto 60, 3) := by decide +kernel
theorem dX2_apply_118 : decode cX2_apply 118 = .ok (.aload_n 0, 1) := by decide +kernel
theorem dX2_apply_119 : decode cX2_apply 119 = .ok (.invokevirtual 64, 3) := by decide +kernel
theorem dX2_apply_122 : decode cX2_apply 122 = .ok (.goto 53, 3) := by decide +kernel
theorem dX2_apply_125 : decode cX2_apply 125 = .ok (.aload_n 0, 1) := by decide +kernel
theorem dX2_apply_126 : decode cX2_apply 126 = .ok (.invokevirtual 67, 3) := by decide +kernel
theorem dX2_apply_129 : decode cX2_apply 129 = .ok (.goto 46, 3) := by decide +kernel
theorem dX2_apply_132 : decode cX2_apply 132 = .ok (.aload_n 0, 1) := by decide +kernel
theorem dX2_apply_133 : decode cX2_apply 133 = .ok (.invokevirtual 70, 3) := by decide +kernel
theorem dX2_apply_136 : decode cX2_apply 136 = .ok (.goto 39, 3) := by decide +kernel
theorem dX2_apply_139 : decode cX2_apply 139 = .ok (.aload_n 0, 1) := by decide +kernel
theorem dX2_apply_140 : decode cX2_apply 140 = .ok (.getfield 21, 3) := by decide +kernel
theorem dX2_apply_143 : decode cX2_apply 143 = .ok (.aload_n 0, 1) := by decide +kernel
theorem dX2_apply_144 : decode cX2_apply 144 = .ok (.getfield 18, 3) := by decide +kernel
theorem dX2_apply_147 : decode cX2_apply 147 = .ok (.invokevirtual 24, 3) := by decide +kernel
theorem dX2_apply_150 : decode cX2_apply 150 = .ok (.goto 25, 3) := by decide +kernel
theorem dX2_apply_153 : decode cX2_apply 153 = .ok (.aload_n 0, 1) := by decide +kernel
theorem dX2_apply_154 : decode cX2_apply 154 = .ok (.aload_n 0, 1) := by decide +kernel
theorem dX2_apply_155 : decode cX2_apply 155 = .ok (.invokevirtual 73, 3) := by decide +kernel
theorem dX2_apply_158 : decode cX2_apply 158 = .ok (.invokevirtual 77, 3) := by decide +kernel
theorem dX2_apply_161 : decode cX2_apply 161 = .ok (.goto 14, 3) := by decide +kernel
theorem dX2_apply_164 : decode cX2_apply 164 = .ok (.aload_n 0, 1) := by decide +kernel
theorem dX2_apply_165 : decode cX2_apply 165 = .ok (.aload_n 0, 1) := by decide +kernel
theorem dX2_apply_166 : decode cX2_apply 166 = .ok (.invokevirtual 73, 3) := by decide +kernel
theorem dX2_apply_169 : decode cX2_apply 169 = .ok (.invokevirtual 80, 3) := by decide +kernel
theorem dX2_apply_172 : decode cX2_apply 172 = .ok (.goto 3, 3) := by decide +kernel
theorem dX2_apply_175 : decode cX2_apply 175 = .ok (.return_, 1) := by decide +kernel
theorem dX2_compute_0 : decode cX2_compute 0 = .ok (.aload_n 0, 1) := by decide +kernel
theorem dX2_compute_1 : decode cX2_compute 1 = .ok (.getfield 12, 3) := by decide +kernel
theorem dX2_compute_4 : decode cX2_compute 4 = .ok (.aload_n 2, 1) := by decide +kernel
theorem dX2_compute_5 : decode cX2_compute 5 = .ok (.invokevirtual 24, 3) := by decide +kernel
theorem dX2_compute_8 : decode cX2_compute 8 = .ok (.aload_n 0, 1) := by decide +kernel
theorem dX2_compute_9 : decode cX2_compute 9 = .ok (.getfield 18, 3) := by decide +kernel
theorem dX2_compute_12 : decode cX2_compute 12 = .ok (.aload_n 3, 1) := by decide +kernel
theorem dX2_compute_13 : decode cX2_compute 13 = .ok (.invokevirtual 24, 3) := by decide +kernel
theorem dX2_compute_16 : decode cX2_compute 16 = .ok (.iload 4, 2) := by decide +kernel
theorem dX2_compute_18 : decode cX2_compute 18 = .ok (.ifCond .eq 17, 3) := by decide +kernel
theorem dX2_compute_21 : decode cX2_compute 21 = .ok (.aload_n 0, 1) := by decide +kernel
theorem dX2_compute_22 : decode cX2_compute 22 = .ok (.getfield 12, 3) := by decide +kernel
theorem dX2_compute_25 : decode cX2_compute 25 = .ok (.invokevirtual 28, 3) := by decide +kernel
theorem dX2_compute_28 : decode cX2_compute 28 = .ok (.aload_n 0, 1) := by decide +kernel
theorem dX2_compute_29 : decode cX2_compute 29 = .ok (.getfield 18, 3) := by decide +kernel
theorem dX2_compute_32 : decode cX2_compute 32 = .ok (.invokevirtual 28, 3) := by decide +kernel
theorem dX2_compute_35 : decode cX2_compute 35 = .ok (.aload_n 0, 1) := by decide +kernel
theorem dX2_compute_36 : decode cX2_compute 36 = .ok (.getfield 21, 3) := by decide +kernel
theorem dX2_compute_39 : decode cX2_compute 39 = .ok (.invokevirtual 31, 3) := by decide +kernel
theorem dX2_compute_42 : decode cX2_compute 42 = .ok (.iload_n 1, 1) := by decide +kernel
theorem dX2_compute_43 : decode cX2_compute 43 = .ok (.bipush 8, 2) := by decide +kernel
theorem dX2_compute_45 : decode cX2_compute 45 = .ok (.if_icmp .eq 15, 3) := by decide +kernel
theorem dX2_compute_48 : decode cX2_compute 48 = .ok (.iload_n 1, 1) := by decide +kernel
theorem dX2_compute_49 : decode cX2_compute 49 = .ok (.bipush 9, 2) := by decide +kernel
theorem dX2_compute_51 : decode cX2_compute 51 = .ok (.if_icmp .eq 9, 3) := by decide +kernel
theorem dX2_compute_54 : decode cX2_compute 54 = .ok (.iload_n 1, 1) := by decide +kernel
theorem dX2_compute_55 : decode cX2_compute 55 = .ok (.bipush 10, 2) := by decide +kernel
theorem dX2_compute_57 : decode cX2_compute 57 = .ok (.if_icmp .ne 13, 3) := by decide +kernel
theorem dX2_compute_60 : decode cX2_compute 60 = .ok (.aload_n 0, 1) := by decide +kernel
theorem dX2_compute_61 : decode cX2_compute 61 = .ok (.iload_n 1, 1) := by decide +kernel
theorem dX2_compute_62 : decode cX2_compute 62 = .ok (.iload 4, 2) := by decide +kernel
theorem dX2_compute_64 : decode cX2_compute 64 = .ok (.invokevirtual 34, 3) := by decide +kernel
theorem dX2_compute_67 : decode cX2_compute 67 = .ok (.goto 8, 3) := by decide +kernel
theorem dX2_compute_70 : decode cX2_compute 70 = .ok (.aload_n 0, 1) := by decide +kernel
theorem dX2_compute_71 : decode cX2_compute 71 = .ok (.iload_n 1, 1) := by decide +kernel
theorem dX2_compute_72 : decode cX2_compute 72 = .ok (.invokevirtual 38, 3) := by decide +kernel
theorem dX2_compute_75 : decode cX2_compute 75 = .ok (.aload_n 0, 1) := by decide +kernel
theorem dX2_compute_76 : decode cX2_compute 76 = .ok (.getfield 21, 3) := by decide +kernel
theorem dX2_compute_79 : decode cX2_compute 79 = .ok (.invokevirtual 42, 3) := by decide +kernel
theorem dX2_compute_82 : decode cX2_compute 82 = .ok (.ifCond .ne 10, 3) := by decide +kernel
theorem dX2_compute_85 : decode cX2_compute 85 = .ok (.aload_n 0, 1) := by decide +kernel
theorem dX2_compute_86 : decode cX2_compute 86 = .ok (.getfield 21, 3) := by decide +kernel
theorem dX2_compute_89 : decode cX2_compute 89 = .ok (.invokevirtual 31, 3) := by decide +kernel
theorem dX2_compute_92 : decode cX2_compute 92 = .ok (.iload 4, 2) := by decide +kernel
theorem dX2_compute_94 : decode cX2_compute 94 = .ok (.ifCond .eq 10, 3) := by decide +kernel
theorem dX2_compute_97 : decode cX2_compute 97 = .ok (.aload_n 0, 1) := by decide +kernel
theorem dX2_compute_98 : decode cX2_compute 98 = .ok (.getfield 21, 3) := by decide +kernel
theorem dX2_compute_101 : decode cX2_compute 101 = .ok (.invokevirtual 28, 3) := by decide +kernel
theorem dX2_compute_104 : decode cX2_compute 104 = .ok (.aload_n 0, 1) := by decide +kernel
theorem dX2_compute_105 : decode cX2_compute 105 = .ok (.getfield 21, 3) := by decide +kernel
theorem dX2_compute_108 : decode cX2_compute 108 = .ok (.areturn, 1) := by decide +kernel
def f_X2_apply (n0 : Nm) (n1 : Nm) (n2 : Nm) (p1 : Int32) : Nm × Nm × Nm :=
  if p1 = 0 then (n0, n1, (f_X2_add n0 n1 n2))
  else if p1 = 1 then (n0, n1, (f_X2_subtract n0 n1 n2))
  else if p1 = 2 then (n0, n1, (f_X2_multiply n0 n1 n2))
  else if p1 = 3 then (n0, n1, (f_X2_divide n0 n1 n2))
  else if p1 = 4 then (n0, n1, (f_X2_rest n0 n1 n2))
  else if p1 = 5 then (n0, n1, (f_X2_and n0 n1 n2))
  else if p1 = 6 then (n0, n1, (f_X2_or n0 n1 n2))
  else if p1 = 7 then (n0, n1, (f_X2_xor n0 n1 n2))
  else if p1 = 8 then (n0, n1, n2)
  else if p1 = 9 then (n0, n1, n2)
  else if p1 = 10 then (n0, n1, n2)
  else if p1 = 11 then (((f_X2_negate n0 n1 n2).1), ((f_X2_negate n0 n1 n2).2.1), ((f_X2_negate n0 n1 n2).2.2))
  else if p1 = 12 then (n0, n1, (f_X1_become n2 n1))
  else if p1 = 13 then (n0, n1, (f_X2_swap n0 n1 n2 (f_X2_byteCount n0 n1 n2)))
  else if p1 = 14 then (n0, ((f_X2_cut n0 n1 n2 (f_X2_byteCount n0 n1 n2)).1), ((f_X2_cut n0 n1 n2 (f_X2_byteCount n0 n1 n2)).2))
  else (n0, n1, n2)
set_option maxHeartbeats 4000000 in
set_option maxRecDepth 100000 in
theorem c_X2_apply (l : Launch) (D : va_G) (h0 : Nat) (h1 : Nat) (h2 : Nat) (h3 : Nat) (n0 : Nm) (n1 : Nm) (n2 : Nm) (p1 : Int32) : sp_M l yX2_apply wsX2_apply ({ frames := 4, cells := 0, slots := 0, locals := 89 }) D [.ref h0, .int p1] ([(h0, .inr (2, [.ref h1, .ref h2, .ref h3])), (h1, .inr (1, nm_fs n0)), (h2, .inr (1, nm_fs n1)), (h3, .inr (1, nm_fs n2))]) [] (sp_Qv D ([(h0, .inr (2, [.ref h1, .ref h2, .ref h3])), (h1, .inr (1, nm_fs n0)), (h2, .inr (1, nm_fs n1)), (h3, .inr (1, nm_fs n2))]) ([(h0, .inr (2, [.ref h1, .ref h2, .ref h3])), (h1, .inr (1, nm_fs ((f_X2_apply n0 n1 n2 p1).1))), (h2, .inr (1, nm_fs ((f_X2_apply n0 n1 n2 p1).2.1))), (h3, .inr (1, nm_fs ((f_X2_apply n0 n1 n2 p1).2.2)))]) []) := by
  refine sp_ofW (cc := cX2_apply) (nL := 2) (ret := none) (own := RX2) (by decide) rfl rfl (Nat.le_of_ble_eq_true rfl) ?_
  intro p e s m below meth c A ls hAe hnm C hA hP hK hD hS hl
  have hx := C.1
  have hb := C.2.1
  have hown := C.2.2.2.2.1
  have hts := C.2.2.2.2.2.1
  have hl : lv_has ls 2 [(0, .ref h0), (1, .int p1)] := hl
  have hi2 : ∀ w ∈ u_ws RX2 TX2 3, w ∈ wsX2_apply := fun w h => List.mem_cons_of_mem _ (inX2 w h)
  have hk0 := hts _ (List.mem_cons_of_mem _ wm_110)
  have hk1 := hts _ (List.mem_cons_of_mem _ wm_109)
  refine lv_iload_n hx hb dX2_apply_0 rfl (lv_at hl 1 rfl) ?_
  by_cases c1 : p1 = 0
  · refine lv_tableIn (tgt := 76) hx hb dX2_apply_1 (by rw [c1]; decide) (by rw [c1]; decide) (by rw [c1]; rfl) (by decide) ?_
    refine lv_aload_n hx hb dX2_apply_76 rfl (lv_at hl 0 rfl) ?_
    refine sp_callv (sp_runV (As := []) (rest := []) C (c_X2_add l D h0 h1 h2 h3 n0 n1 n2) (cwV 0 hts (gV wG_c wm_203 wm_204 wm_205 wm_122 wm_202) rfl rfl rfl (by decide +kernel) ⟨Nat.le_of_ble_eq_true rfl, Nat.le_of_ble_eq_true rfl⟩) hK hP hD [0, 1, 2, 3] (by decide) rfl [] rfl 0 2 rfl rfl rfl rfl hl.1 rfl (Nat.le_of_ble_eq_true rfl) dX2_apply_77 ⟨Nat.le_of_ble_eq_true rfl, Nat.le_of_ble_eq_true rfl⟩) hP hD hS hA [0, 1, 2, 3] rfl (sp_fc (sp_fc (sp_fc (sp_fc sp_f0)))) (fun H locs hP hD hS => ?_)
    have hP : va_P D vwCl ([(h0, .inr (2, [.ref h1, .ref h2, .ref h3])), (h1, .inr (1, nm_fs n0)), (h2, .inr (1, nm_fs n1)), (h3, .inr (1, nm_fs (f_X2_add n0 n1 n2)))]) H := hP
    have hD : va_D A ([(h0, .inr (2, [.ref h1, .ref h2, .ref h3])), (h1, .inr (1, nm_fs n0)), (h2, .inr (1, nm_fs n1)), (h3, .inr (1, nm_fs (f_X2_add n0 n1 n2)))]) := hD
    refine lv_goto (tgt := 175) hx hb dX2_apply_80 (by decide) ?_
    have e9 : f_X2_apply n0 n1 n2 p1 = (n0, n1, (f_X2_add n0 n1 n2)) := (if_pos c1).trans (rfl)
    rw [e9]
    exact sp_vret C hAe hP hK hD hS dX2_apply_175
  · by_cases c2 : p1 = 1
    · refine lv_tableIn (tgt := 83) hx hb dX2_apply_1 (by rw [c2]; decide) (by rw [c2]; decide) (by rw [c2]; rfl) (by decide) ?_
      refine lv_aload_n hx hb dX2_apply_83 rfl (lv_at hl 0 rfl) ?_
      refine sp_callv (sp_runV (As := []) (rest := []) C (c_X2_subtract l D h0 h1 h2 h3 n0 n1 n2) (cwV 0 hts (gV wG_c wm_189 wm_190 wm_191 wm_122 wm_188) rfl rfl rfl (by decide +kernel) ⟨Nat.le_of_ble_eq_true rfl, Nat.le_of_ble_eq_true rfl⟩) hK hP hD [0, 1, 2, 3] (by decide) rfl [] rfl 0 2 rfl rfl rfl rfl hl.1 rfl (Nat.le_of_ble_eq_true rfl) dX2_apply_84 ⟨Nat.le_of_ble_eq_true rfl, Nat.le_of_ble_eq_true rfl⟩) hP hD hS hA [0, 1, 2, 3] rfl (sp_fc (sp_fc (sp_fc (sp_fc sp_f0)))) (fun H locs hP hD hS => ?_)
      have hP : va_P D vwCl ([(h0, .inr (2, [.ref h1, .ref h2, .ref h3])), (h1, .inr (1, nm_fs n0)), (h2, .inr (1, nm_fs n1)), (h3, .inr (1, nm_fs (f_X2_subtract n0 n1 n2)))]) H := hP
      have hD : va_D A ([(h0, .inr (2, [.ref h1, .ref h2, .ref h3])), (h1, .inr (1, nm_fs n0)), (h2, .inr (1, nm_fs n1)), (h3, .inr (1, nm_fs (f_X2_subtract n0 n1 n2)))]) := hD
      refine lv_goto (tgt := 175) hx hb dX2_apply_87 (by decide) ?_
      have e9 : f_X2_apply n0 n1 n2 p1 = (n0, n1, (f_X2_subtract n0 n1 n2)) := (if_neg c1).trans ((if_pos c2).trans (rfl))
      rw [e9]
      exact sp_vret C hAe hP hK hD hS dX2_apply_175
    · by_cases c3 : p1 = 2
      · refine lv_tableIn (tgt := 90) hx hb dX2_apply_1 (by rw [c3]; decide) (by rw [c3]; decide) (by rw [c3]; rfl) (by decide) ?_
        refine lv_aload_n hx hb dX2_apply_90 rfl (lv_at hl 0 rfl) ?_
        refine sp_callv (sp_runV (As := []) (rest := []) C (c_X2_multiply l D h0 h1 h2 h3 n0 n1 n2) (cwV 0 hts (gV wG_c wm_207 wm_208 wm_209 wm_122 wm_206) rfl rfl rfl (by decide +kernel) ⟨Nat.le_of_ble_eq_true rfl, Nat.le_of_ble_eq_true rfl⟩) hK hP hD [0, 1, 2, 3] (by decide) rfl [] rfl 0 2 rfl rfl rfl rfl hl.1 rfl (Nat.le_of_ble_eq_true rfl) dX2_apply_91 ⟨Nat.le_of_ble_eq_true rfl, Nat.le_of_ble_eq_true rfl⟩) hP hD hS hA [0, 1, 2, 3] rfl (sp_fc (sp_fc (sp_fc (sp_fc sp_f0)))) (fun H locs hP hD hS => ?_)
        have hP : va_P D vwCl ([(h0, .inr (2, [.ref h1, .ref h2, .ref h3])), (h1, .inr (1, nm_fs n0)), (h2, .inr (1, nm_fs n1)), (h3, .inr (1, nm_fs (f_X2_multiply n0 n1 n2)))]) H := hP
        have hD : va_D A ([(h0, .inr (2, [.ref h1, .ref h2, .ref h3])), (h1, .inr (1, nm_fs n0)), (h2, .inr (1, nm_fs n1)), (h3, .inr (1, nm_fs (f_X2_multiply n0 n1 n2)))]) := hD
        refine lv_goto (tgt := 175) hx hb dX2_apply_94 (by decide) ?_
        have e9 : f_X2_apply n0 n1 n2 p1 = (n0, n1, (f_X2_multiply n0 n1 n2)) := (if_neg c1).trans ((if_neg c2).trans ((if_pos c3).trans (rfl)))
        rw [e9]
        exact sp_vret C hAe hP hK hD hS dX2_apply_175
      · by_cases c4 : p1 = 3
        · refine lv_tableIn (tgt := 97) hx hb dX2_apply_1 (by rw [c4]; decide) (by rw [c4]; decide) (by rw [c4]; rfl) (by decide) ?_
          refine lv_aload_n hx hb dX2_apply_97 rfl (lv_at hl 0 rfl) ?_
          refine sp_callv (sp_runV (As := []) (rest := []) C (c_X2_divide l D h0 h1 h2 h3 n0 n1 n2) (cwV 0 hts (gV wG_c wm_211 wm_212 wm_213 wm_122 wm_210) rfl rfl rfl (by decide +kernel) ⟨Nat.le_of_ble_eq_true rfl, Nat.le_of_ble_eq_true rfl⟩) hK hP hD [0, 1, 2, 3] (by decide) rfl [] rfl 0 2 rfl rfl rfl rfl hl.1 rfl (Nat.le_of_ble_eq_true rfl) dX2_apply_98 ⟨Nat.le_of_ble_eq_true rfl, Nat.le_of_ble_eq_true rfl⟩) hP hD hS hA [0, 1, 2, 3] rfl (sp_fc (sp_fc (sp_fc (sp_fc sp_f0)))) (fun H locs hP hD hS => ?_)
          have hP : va_P D vwCl ([(h0, .inr (2, [.ref h1, .ref h2, .ref h3])), (h1, .inr (1, nm_fs n0)), (h2, .inr (1, nm_fs n1)), (h3, .inr (1, nm_fs (f_X2_divide n0 n1 n2)))]) H := hP
          have hD : va_D A ([(h0, .inr (2, [.ref h1, .ref h2, .ref h3])), (h1, .inr (1, nm_fs n0)), (h2, .inr (1, nm_fs n1)), (h3, .inr (1, nm_fs (f_X2_divide n0 n1 n2)))]) := hD
          refine lv_goto (tgt := 175) hx hb dX2_apply_101 (by decide) ?_
          have e9 : f_X2_apply n0 n1 n2 p1 = (n0, n1, (f_X2_divide n0 n1 n2)) := (if_neg c1).trans ((if_neg c2).trans ((if_neg c3).trans ((if_pos c4).trans (rfl))))
          rw [e9]
          exact sp_vret C hAe hP hK hD hS dX2_apply_175
        · by_cases c5 : p1 = 4
          · refine lv_tableIn (tgt := 104) hx hb dX2_apply_1 (by rw [c5]; decide) (by rw [c5]; decide) (by rw [c5]; rfl) (by decide) ?_
            refine lv_aload_n hx hb dX2_apply_104 rfl (lv_at hl 0 rfl) ?_
            refine sp_callv (sp_runV (As := []) (rest := []) C (c_X2_rest l D h0 h1 h2 h3 n0 n1 n2) (cwV 0 hts (gV wG_c wm_215 wm_216 wm_217 wm_122 wm_214) rfl rfl rfl (by decide +kernel) ⟨Nat.le_of_ble_eq_true rfl, Nat.le_of_ble_eq_true rfl⟩) hK hP hD [0, 1, 2, 3] (by decide) rfl [] rfl 0 2 rfl rfl rfl rfl hl.1 rfl (Nat.le_of_ble_eq_true rfl) dX2_apply_105 ⟨Nat.le_of_ble_eq_true rfl, Nat.le_of_ble_eq_true rfl⟩) hP hD hS hA [0, 1, 2, 3] rfl (sp_fc (sp_fc (sp_fc (sp_fc sp_f0)))) (fun H locs hP hD hS => ?_)
            have hP : va_P D vwCl ([(h0, .inr (2, [.ref h1, .ref h2, .ref h3])), (h1, .inr (1, nm_fs n0)), (h2, .inr (1, nm_fs n1)), (h3, .inr (1, nm_fs (f_X2_rest n0 n1 n2)))]) H := hP
            have hD : va_D A ([(h0, .inr (2, [.ref h1, .ref h2, .ref h3])), (h1, .inr (1, nm_fs n0)), (h2, .inr (1, nm_fs n1)), (h3, .inr (1, nm_fs (f_X2_rest n0 n1 n2)))]) := hD
            refine lv_goto (tgt := 175) hx hb dX2_apply_108 (by decide) ?_
            have e9 : f_X2_apply n0 n1 n2 p1 = (n0, n1, (f_X2_rest n0 n1 n2)) := (if_neg c1).trans ((if_neg c2).trans ((if_neg c3).trans ((if_neg c4).trans ((if_pos c5).trans (rfl)))))
            rw [e9]
            exact sp_vret C hAe hP hK hD hS dX2_apply_175
          · by_cases c6 : p1 = 5
            · refine lv_tableIn (tgt := 111) hx hb dX2_apply_1 (by rw [c6]; decide) (by rw [c6]; decide) (by rw [c6]; rfl) (by decide) ?_
              refine lv_aload_n hx hb dX2_apply_111 rfl (lv_at hl 0 rfl) ?_
              refine sp_callv (sp_runV (As := []) (rest := []) C (c_X2_and l D h0 h1 h2 h3 n0 n1 n2) (cwV 0 hts (gV wG_c wm_199 wm_200 wm_201 wm_122 wm_198) rfl rfl rfl (by decide +kernel) ⟨Nat.le_of_ble_eq_true rfl, Nat.le_of_ble_eq_true rfl⟩) hK hP hD [0, 1, 2, 3] (by decide) rfl [] rfl 0 2 rfl rfl rfl rfl hl.1 rfl (Nat.le_of_ble_eq_true rfl) dX2_apply_112 ⟨Nat.le_of_ble_eq_true rfl, Nat.le_of_ble_eq_true rfl⟩) hP hD hS hA [0, 1, 2, 3] rfl (sp_fc (sp_fc (sp_fc (sp_fc sp_f0)))) (fun H locs hP hD hS => ?_)
              have hP : va_P D vwCl ([(h0, .inr (2, [.ref h1, .ref h2, .ref h3])), (h1, .inr (1, nm_fs n0)), (h2, .inr (1, nm_fs n1)), (h3, .inr (1, nm_fs (f_X2_and n0 n1 n2)))]) H := hP
              have hD : va_D A ([(h0, .inr (2, [.ref h1, .ref h2, .ref h3])), (h1, .inr (1, nm_fs n0)), (h2, .inr (1, nm_fs n1)), (h3, .inr (1, nm_fs (f_X2_and n0 n1 n2)))]) := hD
              refine lv_goto (tgt := 175) hx hb dX2_apply_115 (by decide) ?_
              have e9 : f_X2_apply n0 n1 n2 p1 = (n0, n1, (f_X2_and n0 n1 n2)) := (if_neg c1).trans ((if_neg c2).trans ((if_neg c3).trans ((if_neg c4).trans ((if_neg c5).trans ((if_pos c6).trans (rfl))))))
              rw [e9]
              exact sp_vret C hAe hP hK hD hS dX2_apply_175
            · by_cases c7 : p1 = 6
              · refine lv_tableIn (tgt := 118) hx hb dX2_apply_1 (by rw [c7]; decide) (by rw [c7]; decide) (by rw [c7]; rfl) (by decide) ?_
                refine lv_aload_n hx hb dX2_apply_118 rfl (lv_at hl 0 rfl) ?_
                refine sp_callv (sp_runV (As := []) (rest := []) C (c_X2_or l D h0 h1 h2 h3 n0 n1 n2) (cwV 0 hts (gV wG_c wm_219 wm_220 wm_221 wm_122 wm_218) rfl rfl rfl (by decide +kernel) ⟨Nat.le_of_ble_eq_true rfl, Nat.le_of_ble_eq_true rfl⟩) hK hP hD [0, 1, 2, 3] (by decide) rfl [] rfl 0 2 rfl rfl rfl rfl hl.1 rfl (Nat.le_of_ble_eq_true rfl) dX2_apply_119 ⟨Nat.le_of_ble_eq_true rfl, Nat.le_of_ble_eq_true rfl⟩) hP hD hS hA [0, 1, 2, 3] rfl (sp_fc (sp_fc (sp_fc (sp_fc sp_f0)))) (fun H locs hP hD hS => ?_)
                have hP : va_P D vwCl ([(h0, .inr (2, [.ref h1, .ref h2, .ref h3])), (h1, .inr (1, nm_fs n0)), (h2, .inr (1, nm_fs n1)), (h3, .inr (1, nm_fs (f_X2_or n0 n1 n2)))]) H := hP
                have hD : va_D A ([(h0, .inr (2, [.ref h1, .ref h2, .ref h3])), (h1, .inr (1, nm_fs n0)), (h2, .inr (1, nm_fs n1)), (h3, .inr (1, nm_fs (f_X2_or n0 n1 n2)))]) := hD
                refine lv_goto (tgt := 175) hx hb dX2_apply_122 (by decide) ?_
                have e9 : f_X2_apply n0 n1 n2 p1 = (n0, n1, (f_X2_or n0 n1 n2)) := (if_neg c1).trans ((if_neg c2).trans ((if_neg c3).trans ((if_neg c4).trans ((if_neg c5).trans ((if_neg c6).trans ((if_pos c7).trans (rfl)))))))
                rw [e9]
                exact sp_vret C hAe hP hK hD hS dX2_apply_175
              · by_cases c8 : p1 = 7
                · refine lv_tableIn (tgt := 125) hx hb dX2_apply_1 (by rw [c8]; decide) (by rw [c8]; decide) (by rw [c8]; rfl) (by decide) ?_
                  refine lv_aload_n hx hb dX2_apply_125 rfl (lv_at hl 0 rfl) ?_
                  refine sp_callv (sp_runV (As := []) (rest := []) C (c_X2_xor l D h0 h1 h2 h3 n0 n1 n2) (cwV 0 hts (gV wG_c wm_223 wm_224 wm_225 wm_122 wm_222) rfl rfl rfl (by decide +kernel) ⟨Nat.le_of_ble_eq_true rfl, Nat.le_of_ble_eq_true rfl⟩) hK hP hD [0, 1, 2, 3] (by decide) rfl [] rfl 0 2 rfl rfl rfl rfl hl.1 rfl (Nat.le_of_ble_eq_true rfl) dX2_apply_126 ⟨Nat.le_of_ble_eq_true rfl, Nat.le_of_ble_eq_true rfl⟩) hP hD hS hA [0, 1, 2, 3] rfl (sp_fc (sp_fc (sp_fc (sp_fc sp_f0)))) (fun H locs hP hD hS => ?_)
                  have hP : va_P D vwCl ([(h0, .inr (2, [.ref h1, .ref h2, .ref h3])), (h1, .inr (1, nm_fs n0)), (h2, .inr (1, nm_fs n1)), (h3, .inr (1, nm_fs (f_X2_xor n0 n1 n2)))]) H := hP
                  have hD : va_D A ([(h0, .inr (2, [.ref h1, .ref h2, .ref h3])), (h1, .inr (1, nm_fs n0)), (h2, .inr (1, nm_fs n1)), (h3, .inr (1, nm_fs (f_X2_xor n0 n1 n2)))]) := hD
                  refine lv_goto (tgt := 175) hx hb dX2_apply_129 (by decide) ?_
                  have e9 : f_X2_apply n0 n1 n2 p1 = (n0, n1, (f_X2_xor n0 n1 n2)) := (if_neg c1).trans ((if_neg c2).trans ((if_neg c3).trans ((if_neg c4).trans ((if_neg c5).trans ((if_neg c6).trans ((if_neg c7).trans ((if_pos c8).trans (rfl))))))))
                  rw [e9]
                  exact sp_vret C hAe hP hK hD hS dX2_apply_175
                · by_cases c9 : p1 = 8
                  · refine lv_tableIn (tgt := 175) hx hb dX2_apply_1 (by rw [c9]; decide) (by rw [c9]; decide) (by rw [c9]; rfl) (by decide) ?_
                    have e9 : f_X2_apply n0 n1 n2 p1 = (n0, n1, n2) := (if_neg c1).trans ((if_neg c2).trans ((if_neg c3).trans ((if_neg c4).trans ((if_neg c5).trans ((if_neg c6).trans ((if_neg c7).trans ((if_neg c8).trans ((if_pos c9).trans (rfl)))))))))
                    rw [e9]
                    exact sp_vret C hAe hP hK hD hS dX2_apply_175
                  · by_cases c10 : p1 = 9
                    · refine lv_tableIn (tgt := 175) hx hb dX2_apply_1 (by rw [c10]; decide) (by rw [c10]; decide) (by rw [c10]; rfl) (by decide) ?_
                      have e9 : f_X2_apply n0 n1 n2 p1 = (n0, n1, n2) := (if_neg c1).trans ((if_neg c2).trans ((if_neg c3).trans ((if_neg c4).trans ((if_neg c5).trans ((if_neg c6).trans ((if_neg c7).trans ((if_neg c8).trans ((if_neg c9).trans ((if_pos c10).trans (rfl))))))))))
                      rw [e9]
                      exact sp_vret C hAe hP hK hD hS dX2_apply_175
                    · by_cases c11 : p1 = 10
                      · refine lv_tableIn (tgt := 175) hx hb dX2_apply_1 (by rw [c11]; decide) (by rw [c11]; decide) (by rw [c11]; rfl) (by decide) ?_
                        have e9 : f_X2_apply n0 n1 n2 p1 = (n0, n1, n2) := (if_neg c1).trans ((if_neg c2).trans ((if_neg c3).trans ((if_neg c4).trans ((if_neg c5).trans ((if_neg c6).trans ((if_neg c7).trans ((if_neg c8).trans ((if_neg c9).trans ((if_neg c10).trans ((if_pos c11).trans (rfl)))))))))))
                        rw [e9]
                        exact sp_vret C hAe hP hK hD hS dX2_apply_175
                      · by_cases c12 : p1 = 11
                        · refine lv_tableIn (tgt := 132) hx hb dX2_apply_1 (by rw [c12]; decide) (by rw [c12]; decide) (by rw [c12]; rfl) (by decide) ?_
                          refine lv_aload_n hx hb dX2_apply_132 rfl (lv_at hl 0 rfl) ?_
                          refine sp_callv (sp_runV (As := []) (rest := []) C (c_X2_negate l D h0 h1 h2 h3 n0 n1 n2) (cwV 0 hts (gV wG_c wm_227 wm_228 wm_229 wm_122 wm_226) rfl rfl rfl (by decide +kernel) ⟨Nat.le_of_ble_eq_true rfl, Nat.le_of_ble_eq_true rfl⟩) hK hP hD [0, 1, 2, 3] (by decide) rfl [] rfl 0 2 rfl rfl rfl rfl hl.1 rfl (Nat.le_of_ble_eq_true rfl) dX2_apply_133 ⟨Nat.le_of_ble_eq_true rfl, Nat.le_of_ble_eq_true rfl⟩) hP hD hS hA [0, 1, 2, 3] rfl (sp_fc (sp_fc (sp_fc (sp_fc sp_f0)))) (fun H locs hP hD hS => ?_)
                          have hP : va_P D vwCl ([(h0, .inr (2, [.ref h1, .ref h2, .ref h3])), (h1, .inr (1, nm_fs ((f_X2_negate n0 n1 n2).1))), (h2, .inr (1, nm_fs ((f_X2_negate n0 n1 n2).2.1))), (h3, .inr (1, nm_fs ((f_X2_negate n0 n1 n2).2.2)))]) H := hP
                          have hD : va_D A ([(h0, .inr (2, [.ref h1, .ref h2, .ref h3])), (h1, .inr (1, nm_fs ((f_X2_negate n0 n1 n2).1))), (h2, .inr (1, nm_fs ((f_X2_negate n0 n1 n2).2.1))), (h3, .inr (1, nm_fs ((f_X2_negate n0 n1 n2).2.2)))]) := hD
                          refine lv_goto (tgt := 175) hx hb dX2_apply_136 (by decide) ?_
                          have e9 : f_X2_apply n0 n1 n2 p1 = (((f_X2_negate n0 n1 n2).1), ((f_X2_negate n0 n1 n2).2.1), ((f_X2_negate n0 n1 n2).2.2)) := (if_neg c1).trans ((if_neg c2).trans ((if_neg c3).trans ((if_neg c4).trans ((if_neg c5).trans ((if_neg c6).trans ((if_neg c7).trans ((if_neg c8).trans ((if_neg c9).trans ((if_neg c10).trans ((if_neg c11).trans ((if_pos c12).trans (rfl))))))))))))
                          rw [e9]
                          exact sp_vret C hAe hP hK hD hS dX2_apply_175
                        · by_cases c13 : p1 = 12
                          · refine lv_tableIn (tgt := 139) hx hb dX2_apply_1 (by rw [c13]; decide) (by rw [c13]; decide) (by rw [c13]; rfl) (by decide) ?_
                            refine lv_aload_n hx hb dX2_apply_139 rfl (lv_at hl 0 rfl) ?_
                            refine va_get (D := D) (ci := 2) (v := .ref h3) (C := RX2) (T := TX2) (N := 3) hx hb hts hi2 hown hK hP 0 rfl rfl 2 (by decide) hk0 (fun _ h9 => h9) rfl dX2_apply_140 ?_
                            refine lv_aload_n hx hb dX2_apply_143 rfl (lv_at hl 0 rfl) ?_
                            refine va_get (D := D) (ci := 2) (v := .ref h2) (C := RX2) (T := TX2) (N := 3) hx hb hts hi2 hown hK hP 0 rfl rfl 1 (by decide) hk1 (fun _ h9 => h9) rfl dX2_apply_144 ?_
                            refine sp_callv (sp_runV (As := [.ref h2]) (rest := []) C (c_X1_become l D h3 h2 n2 n1) (cwV 1 hts (gV wG_c wm_166 wm_167 wm_168 wm_31 wm_165) rfl rfl rfl (by decide +kernel) ⟨Nat.le_of_ble_eq_true rfl, Nat.le_of_ble_eq_true rfl⟩) hK hP hD [3, 2] (by decide) rfl [] rfl 0 1 rfl rfl rfl rfl hl.1 rfl (Nat.le_of_ble_eq_true rfl) dX2_apply_147 ⟨Nat.le_of_ble_eq_true rfl, Nat.le_of_ble_eq_true rfl⟩) hP hD hS hA [3, 2] rfl (sp_fc (sp_fc sp_f0)) (fun H locs hP hD hS => ?_)
                            have hP : va_P D vwCl ([(h0, .inr (2, [.ref h1, .ref h2, .ref h3])), (h1, .inr (1, nm_fs n0)), (h2, .inr (1, nm_fs n1)), (h3, .inr (1, nm_fs (f_X1_become n2 n1)))]) H := hP
                            have hD : va_D A ([(h0, .inr (2, [.ref h1, .ref h2, .ref h3])), (h1, .inr (1, nm_fs n0)), (h2, .inr (1, nm_fs n1)), (h3, .inr (1, nm_fs (f_X1_become n2 n1)))]) := hD
                            refine lv_goto (tgt := 175) hx hb dX2_apply_150 (by decide) ?_
                            have e9 : f_X2_apply n0 n1 n2 p1 = (n0, n1, (f_X1_become n2 n1)) := (if_neg c1).trans ((if_neg c2).trans ((if_neg c3).trans ((if_neg c4).trans ((if_neg c5).trans ((if_neg c6).trans ((if_neg c7).trans ((if_neg c8).trans ((if_neg c9).trans ((if_neg c10).trans ((if_neg c11).trans ((if_neg c12).trans ((if_pos c13).trans (rfl)))))))))))))
                            rw [e9]
                            exact sp_vret C hAe hP hK hD hS dX2_apply_175
                          · by_cases c14 : p1 = 13
                            · refine lv_tableIn (tgt := 153) hx hb dX2_apply_1 (by rw [c14]; decide) (by rw [c14]; decide) (by rw [c14]; rfl) (by decide) ?_
                              refine lv_aload_n hx hb dX2_apply_153 rfl (lv_at hl 0 rfl) ?_
                              refine lv_aload_n hx hb dX2_apply_154 rfl (lv_at hl 0 rfl) ?_
                              refine sp_calli (sp_runV (As := []) (rest := [.ref h0]) C (c_X2_byteCount l D h0 h1 h2 h3 n0 n1 n2) (cwV 0 hts (gV wG_c wm_231 wm_232 wm_233 wm_122 wm_230) rfl rfl rfl (by decide +kernel) ⟨Nat.le_of_ble_eq_true rfl, Nat.le_of_ble_eq_true rfl⟩) hK hP hD [0, 1, 2, 3] (by decide) rfl [] rfl 0 2 rfl rfl rfl rfl hl.1 rfl (Nat.le_of_ble_eq_true rfl) dX2_apply_155 ⟨Nat.le_of_ble_eq_true rfl, Nat.le_of_ble_eq_true rfl⟩) hP hD hS hA [0, 1, 2, 3] rfl (sp_fc (sp_fc (sp_fc (sp_fc sp_f0)))) (fun H locs hP hD hS => ?_)
                              have hP : va_P D vwCl ([(h0, .inr (2, [.ref h1, .ref h2, .ref h3])), (h1, .inr (1, nm_fs n0)), (h2, .inr (1, nm_fs n1)), (h3, .inr (1, nm_fs n2))]) H := hP
                              have hD : va_D A ([(h0, .inr (2, [.ref h1, .ref h2, .ref h3])), (h1, .inr (1, nm_fs n0)), (h2, .inr (1, nm_fs n1)), (h3, .inr (1, nm_fs n2))]) := hD
                              refine sp_callv (sp_runV (As := [.int (f_X2_byteCount n0 n1 n2)]) (rest := []) C (c_X2_swap l D h0 h1 h2 h3 n0 n1 n2 (f_X2_byteCount n0 n1 n2)) (cwV 1 hts (gV wG_c wm_235 wm_236 wm_237 wm_122 wm_234) rfl rfl rfl (by decide +kernel) ⟨Nat.le_of_ble_eq_true rfl, Nat.le_of_ble_eq_true rfl⟩) hK hP hD [0, 1, 2, 3] (by decide) rfl [] rfl 0 2 rfl rfl rfl rfl hl.1 rfl (Nat.le_of_ble_eq_true rfl) dX2_apply_158 ⟨Nat.le_of_ble_eq_true rfl, Nat.le_of_ble_eq_true rfl⟩) hP hD hS hA [0, 1, 2, 3] rfl (sp_fc (sp_fc (sp_fc (sp_fc sp_f0)))) (fun H locs hP hD hS => ?_)
                              have hP : va_P D vwCl ([(h0, .inr (2, [.ref h1, .ref h2, .ref h3])), (h1, .inr (1, nm_fs n0)), (h2, .inr (1, nm_fs n1)), (h3, .inr (1, nm_fs (f_X2_swap n0 n1 n2 (f_X2_byteCount n0 n1 n2))))]) H := hP
                              have hD : va_D A ([(h0, .inr (2, [.ref h1, .ref h2, .ref h3])), (h1, .inr (1, nm_fs n0)), (h2, .inr (1, nm_fs n1)), (h3, .inr (1, nm_fs (f_X2_swap n0 n1 n2 (f_X2_byteCount n0 n1 n2))))]) := hD
                              refine lv_goto (tgt := 175) hx hb dX2_apply_161 (by decide) ?_
                              have e9 : f_X2_apply n0 n1 n2 p1 = (n0, n1, (f_X2_swap n0 n1 n2 (f_X2_byteCount n0 n1 n2))) := (if_neg c1).trans ((if_neg c2).trans ((if_neg c3).trans ((if_neg c4).trans ((if_neg c5).trans ((if_neg c6).trans ((if_neg c7).trans ((if_neg c8).trans ((if_neg c9).trans ((if_neg c10).trans ((if_neg c11).trans ((if_neg c12).trans ((if_neg c13).trans ((if_pos c14).trans (rfl))))))))))))))
                              rw [e9]
                              exact sp_vret C hAe hP hK hD hS dX2_apply_175
                            · by_cases c15 : p1 = 14
                              · refine lv_tableIn (tgt := 164) hx hb dX2_apply_1 (by rw [c15]; decide) (by rw [c15]; decide) (by rw [c15]; rfl) (by decide) ?_
                                refine lv_aload_n hx hb dX2_apply_164 rfl (lv_at hl 0 rfl) ?_
                                refine lv_aload_n hx hb dX2_apply_165 rfl (lv_at hl 0 rfl) ?_
                                refine sp_calli (sp_runV (As := []) (rest := [.ref h0]) C (c_X2_byteCount l D h0 h1 h2 h3 n0 n1 n2) (cwV 0 hts (gV wG_c wm_231 wm_232 wm_233 wm_122 wm_230) rfl rfl rfl (by decide +kernel) ⟨Nat.le_of_ble_eq_true rfl, Nat.le_of_ble_eq_true rfl⟩) hK hP hD [0, 1, 2, 3] (by decide) rfl [] rfl 0 2 rfl rfl rfl rfl hl.1 rfl (Nat.le_of_ble_eq_true rfl) dX2_apply_166 ⟨Nat.le_of_ble_eq_true rfl, Nat.le_of_ble_eq_true rfl⟩) hP hD hS hA [0, 1, 2, 3] rfl (sp_fc (sp_fc (sp_fc (sp_fc sp_f0)))) (fun H locs hP hD hS => ?_)
                                have hP : va_P D vwCl ([(h0, .inr (2, [.ref h1, .ref h2, .ref h3])), (h1, .inr (1, nm_fs n0)), (h2, .inr (1, nm_fs n1)), (h3, .inr (1, nm_fs n2))]) H := hP
                                have hD : va_D A ([(h0, .inr (2, [.ref h1, .ref h2, .ref h3])), (h1, .inr (1, nm_fs n0)), (h2, .inr (1, nm_fs n1)), (h3, .inr (1, nm_fs n2))]) := hD
                                refine sp_callv (sp_runV (As := [.int (f_X2_byteCount n0 n1 n2)]) (rest := []) C (c_X2_cut l D h0 h1 h2 h3 n0 n1 n2 (f_X2_byteCount n0 n1 n2)) (cwV 1 hts (gV wG_c wm_239 wm_240 wm_241 wm_122 wm_238) rfl rfl rfl (by decide +kernel) ⟨Nat.le_of_ble_eq_true rfl, Nat.le_of_ble_eq_true rfl⟩) hK hP hD [0, 1, 2, 3] (by decide) rfl [] rfl 0 2 rfl rfl rfl rfl hl.1 rfl (Nat.le_of_ble_eq_true rfl) dX2_apply_169 ⟨Nat.le_of_ble_eq_true rfl, Nat.le_of_ble_eq_true rfl⟩) hP hD hS hA [0, 1, 2, 3] rfl (sp_fc (sp_fc (sp_fc (sp_fc sp_f0)))) (fun H locs hP hD hS => ?_)
                                have hP : va_P D vwCl ([(h0, .inr (2, [.ref h1, .ref h2, .ref h3])), (h1, .inr (1, nm_fs n0)), (h2, .inr (1, nm_fs ((f_X2_cut n0 n1 n2 (f_X2_byteCount n0 n1 n2)).1))), (h3, .inr (1, nm_fs ((f_X2_cut n0 n1 n2 (f_X2_byteCount n0 n1 n2)).2)))]) H := hP
                                have hD : va_D A ([(h0, .inr (2, [.ref h1, .ref h2, .ref h3])), (h1, .inr (1, nm_fs n0)), (h2, .inr (1, nm_fs ((f_X2_cut n0 n1 n2 (f_X2_byteCount n0 n1 n2)).1))), (h3, .inr (1, nm_fs ((f_X2_cut n0 n1 n2 (f_X2_byteCount n0 n1 n2)).2)))]) := hD
                                refine lv_goto (tgt := 175) hx hb dX2_apply_172 (by decide) ?_
                                have e9 : f_X2_apply n0 n1 n2 p1 = (n0, ((f_X2_cut n0 n1 n2 (f_X2_byteCount n0 n1 n2)).1), ((f_X2_cut n0 n1 n2 (f_X2_byteCount n0 n1 n2)).2)) := (if_neg c1).trans ((if_neg c2).trans ((if_neg c3).trans ((if_neg c4).trans ((if_neg c5).trans ((if_neg c6).trans ((if_neg c7).trans ((if_neg c8).trans ((if_neg c9).trans ((if_neg c10).trans ((if_neg c11).trans ((if_neg c12).trans ((if_neg c13).trans ((if_neg c14).trans ((if_pos c15).trans (rfl)))))))))))))))
                                rw [e9]
                                exact sp_vret C hAe hP hK hD hS dX2_apply_175
                              · have ec1 := lv_neT c1 (show (0 : Int32).toInt = 0 by decide)
                                have ec2 := lv_neT c2 (show (1 : Int32).toInt = 1 by decide)
                                have ec3 := lv_neT c3 (show (2 : Int32).toInt = 2 by decide)
                                have ec4 := lv_neT c4 (show (3 : Int32).toInt = 3 by decide)
                                have ec5 := lv_neT c5 (show (4 : Int32).toInt = 4 by decide)
                                have ec6 := lv_neT c6 (show (5 : Int32).toInt = 5 by decide)
                                have ec7 := lv_neT c7 (show (6 : Int32).toInt = 6 by decide)
                                have ec8 := lv_neT c8 (show (7 : Int32).toInt = 7 by decide)
                                have ec9 := lv_neT c9 (show (8 : Int32).toInt = 8 by decide)
                                have ec10 := lv_neT c10 (show (9 : Int32).toInt = 9 by decide)
                                have ec11 := lv_neT c11 (show (10 : Int32).toInt = 10 by decide)
                                have ec12 := lv_neT c12 (show (11 : Int32).toInt = 11 by decide)
                                have ec13 := lv_neT c13 (show (12 : Int32).toInt = 12 by decide)
                                have ec14 := lv_neT c14 (show (13 : Int32).toInt = 13 by decide)
                                have ec15 := lv_neT c15 (show (14 : Int32).toInt = 14 by decide)
                                refine lv_tableOut (tgt := 175) hx hb dX2_apply_1 (by omega) (by decide) ?_
                                have e9 : f_X2_apply n0 n1 n2 p1 = (n0, n1, n2) := (if_neg c1).trans ((if_neg c2).trans ((if_neg c3).trans ((if_neg c4).trans ((if_neg c5).trans ((if_neg c6).trans ((if_neg c7).trans ((if_neg c8).trans ((if_neg c9).trans ((if_neg c10).trans ((if_neg c11).trans ((if_neg c12).trans ((if_neg c13).trans ((if_neg c14).trans ((if_neg c15).trans (rfl)))))))))))))))
                                rw [e9]
                                exact sp_vret C hAe hP hK hD hS dX2_apply_175
def f_X2_compute (n0 : Nm) (n1 : Nm) (n2 : Nm) (n3 : Nm) (n4 : Nm) (p1 : Int32) (p4 : Int32) : Nm × Nm × Nm :=
  if p4 = 0 then (if p1 = 8 then (if ((f_X1_settle (f_X2_shift (f_X1_become n0 n3) (f_X1_become n1 n4) (f_X1_becomeAny n2) p1 p4)).2) = 0 then ((f_X1_become n0 n3), (f_X1_become n1 n4), (f_X1_becomeAny ((f_X1_settle (f_X2_shift (f_X1_become n0 n3) (f_X1_become n1 n4) (f_X1_becomeAny n2) p1 p4)).1)))
      else ((f_X1_become n0 n3), (f_X1_become n1 n4), ((f_X1_settle (f_X2_shift (f_X1_become n0 n3) (f_X1_become n1 n4) (f_X1_becomeAny n2) p1 p4)).1)))
    else if p1 = 9 then (if ((f_X1_settle (f_X2_shift (f_X1_become n0 n3) (f_X1_become n1 n4) (f_X1_becomeAny n2) p1 p4)).2) = 0 then ((f_X1_become n0 n3), (f_X1_become n1 n4), (f_X1_becomeAny ((f_X1_settle (f_X2_shift (f_X1_become n0 n3) (f_X1_become n1 n4) (f_X1_becomeAny n2) p1 p4)).1)))
      else ((f_X1_become n0 n3), (f_X1_become n1 n4), ((f_X1_settle (f_X2_shift (f_X1_become n0 n3) (f_X1_become n1 n4) (f_X1_becomeAny n2) p1 p4)).1)))
    else if p1 = 10 then (if ((f_X1_settle (f_X2_shift (f_X1_become n0 n3) (f_X1_become n1 n4) (f_X1_becomeAny n2) p1 p4)).2) = 0 then ((f_X1_become n0 n3), (f_X1_become n1 n4), (f_X1_becomeAny ((f_X1_settle (f_X2_shift (f_X1_become n0 n3) (f_X1_become n1 n4) (f_X1_becomeAny n2) p1 p4)).1)))
      else ((f_X1_become n0 n3), (f_X1_become n1 n4), ((f_X1_settle (f_X2_shift (f_X1_become n0 n3) (f_X1_become n1 n4) (f_X1_becomeAny n2) p1 p4)).1)))
    else if ((f_X1_settle ((f_X2_apply (f_X1_become n0 n3) (f_X1_become n1 n4) (f_X1_becomeAny n2) p1).2.2)).2) = 0 then (((f_X2_apply (f_X1_become n0 n3) (f_X1_become n1 n4) (f_X1_becomeAny n2) p1).1), ((f_X2_apply (f_X1_become n0 n3) (f_X1_become n1 n4) (f_X1_becomeAny n2) p1).2.1), (f_X1_becomeAny ((f_X1_settle ((f_X2_apply (f_X1_become n0 n3) (f_X1_become n1 n4) (f_X1_becomeAny n2) p1).2.2)).1)))
    else (((f_X2_apply (f_X1_become n0 n3) (f_X1_become n1 n4) (f_X1_becomeAny n2) p1).1), ((f_X2_apply (f_X1_become n0 n3) (f_X1_become n1 n4) (f_X1_becomeAny n2) p1).2.1), ((f_X1_settle ((f_X2_apply (f_X1_become n0 n3) (f_X1_become n1 n4) (f_X1_becomeAny n2) p1).2.2)).1)))
  else if p1 = 8 then (if ((f_X1_settle (f_X2_shift (f_X1_narrow (f_X1_become n0 n3)) (f_X1_narrow (f_X1_become n1 n4)) (f_X1_becomeAny n2) p1 p4)).2) = 0 then ((f_X1_narrow (f_X1_become n0 n3)), (f_X1_narrow (f_X1_become n1 n4)), (f_X1_narrow (f_X1_becomeAny ((f_X1_settle (f_X2_shift (f_X1_narrow (f_X1_become n0 n3)) (f_X1_narrow (f_X1_become n1 n4)) (f_X1_becomeAny n2) p1 p4)).1))))
    else ((f_X1_narrow (f_X1_become n0 n3)), (f_X1_narrow (f_X1_become n1 n4)), (f_X1_narrow ((f_X1_settle (f_X2_shift (f_X1_narrow (f_X1_become n0 n3)) (f_X1_narrow (f_X1_become n1 n4)) (f_X1_becomeAny n2) p1 p4)).1))))
  else if p1 = 9 then (if ((f_X1_settle (f_X2_shift (f_X1_narrow (f_X1_become n0 n3)) (f_X1_narrow (f_X1_become n1 n4)) (f_X1_becomeAny n2) p1 p4)).2) = 0 then ((f_X1_narrow (f_X1_become n0 n3)), (f_X1_narrow (f_X1_become n1 n4)), (f_X1_narrow (f_X1_becomeAny ((f_X1_settle (f_X2_shift (f_X1_narrow (f_X1_become n0 n3)) (f_X1_narrow (f_X1_become n1 n4)) (f_X1_becomeAny n2) p1 p4)).1))))
    else ((f_X1_narrow (f_X1_become n0 n3)), (f_X1_narrow (f_X1_become n1 n4)), (f_X1_narrow ((f_X1_settle (f_X2_shift (f_X1_narrow (f_X1_become n0 n3)) (f_X1_narrow (f_X1_become n1 n4)) (f_X1_becomeAny n2) p1 p4)).1))))
  else if p1 = 10 then (if ((f_X1_settle (f_X2_shift (f_X1_narrow (f_X1_become n0 n3)) (f_X1_narrow (f_X1_become n1 n4)) (f_X1_becomeAny n2) p1 p4)).2) = 0 then ((f_X1_narrow (f_X1_become n0 n3)), (f_X1_narrow (f_X1_become n1 n4)), (f_X1_narrow (f_X1_becomeAny ((f_X1_settle (f_X2_shift (f_X1_narrow (f_X1_become n0 n3)) (f_X1_narrow (f_X1_become n1 n4)) (f_X1_becomeAny n2) p1 p4)).1))))
    else ((f_X1_narrow (f_X1_become n0 n3)), (f_X1_narrow (f_X1_become n1 n4)), (f_X1_narrow ((f_X1_settle (f_X2_shift (f_X1_narrow (f_X1_become n0 n3)) (f_X1_narrow (f_X1_become n1 n4)) (f_X1_becomeAny n2) p1 p4)).1))))
  else if ((f_X1_settle ((f_X2_apply (f_X1_narrow (f_X1_become n0 n3)) (f_X1_narrow (f_X1_become n1 n4)) (f_X1_becomeAny n2) p1).2.2)).2) = 0 then (((f_X2_apply (f_X1_narrow (f_X1_become n0 n3)) (f_X1_narrow (f_X1_become n1 n4)) (f_X1_becomeAny n2) p1).1), ((f_X2_apply (f_X1_narrow (f_X1_become n0 n3)) (f_X1_narrow (f_X1_become n1 n4)) (f_X1_becomeAny n2) p1).2.1), (f_X1_narrow (f_X1_becomeAny ((f_X1_settle ((f_X2_apply (f_X1_narrow (f_X1_become n0 n3)) (f_X1_narrow (f_X1_become n1 n4)) (f_X1_becomeAny n2) p1).2.2)).1))))
  else (((f_X2_apply (f_X1_narrow (f_X1_become n0 n3)) (f_X1_narrow (f_X1_become n1 n4)) (f_X1_becomeAny n2) p1).1), ((f_X2_apply (f_X1_narrow (f_X1_become n0 n3)) (f_X1_narrow (f_X1_become n1 n4)) (f_X1_becomeAny n2) p1).2.1), (f_X1_narrow ((f_X1_settle ((f_X2_apply (f_X1_narrow (f_X1_become n0 n3)) (f_X1_narrow (f_X1_become n1 n4)) (f_X1_becomeAny n2) p1).2.2)).1)))
set_option maxHeartbeats 4000000 in
set_option maxRecDepth 100000 in
theorem c_X2_compute (l : Launch) (D : va_G) (h0 : Nat) (h1 : Nat) (h2 : Nat) (h3 : Nat) (h4 : Nat) (h5 : Nat) (n0 : Nm) (n1 : Nm) (n2 : Nm) (n3 : Nm) (n4 : Nm) (p1 : Int32) (p4 : Int32) : sp_M l yX2_compute wsX2_compute ({ frames := 5, cells := 0, slots := 0, locals := 110 }) D [.ref h0, .int p1, .ref h4, .ref h5, .int p4] ([(h0, .inr (2, [.ref h1, .ref h2, .ref h3])), (h1, .inr (1, nm_fs n0)), (h2, .inr (1, nm_fs n1)), (h3, .inr (1, nm_fs n2)), (h4, .inr (1, nm_fs n3)), (h5, .inr (1, nm_fs n4))]) [] (sp_Qr D ([(h0, .inr (2, [.ref h1, .ref h2, .ref h3])), (h1, .inr (1, nm_fs n0)), (h2, .inr (1, nm_fs n1)), (h3, .inr (1, nm_fs n2)), (h4, .inr (1, nm_fs n3)), (h5, .inr (1, nm_fs n4))]) ([(h0, .inr (2, [.ref h1, .ref h2, .ref h3])), (h1, .inr (1, nm_fs ((f_X2_compute n0 n1 n2 n3 n4 p1 p4).1))), (h2, .inr (1, nm_fs ((f_X2_compute n0 n1 n2 n3 n4 p1 p4).2.1))), (h3, .inr (1, nm_fs ((f_X2_compute n0 n1 n2 n3 n4 p1 p4).2.2))), (h4, .inr (1, nm_fs n3)), (h5, .inr (1, nm_fs n4))]) [] h3) := by
  refine sp_ofW (cc := cX2_compute) (nL := 5) (ret := (some (.object "RangeDesk$Num"))) (own := RX2) (by decide) rfl rfl (Nat.le_of_ble_eq_true rfl) ?_
  intro p e s m below meth c A ls hAe hnm C hA hP hK hD hS hl
  have hx := C.1
  have hb := C.2.1
  have hown := C.2.2.2.2.1
  have hts := C.2.2.2.2.2.1
  have hl : lv_has ls 5 [(0, .ref h0), (1, .int p1), (2, .ref h4), (3, .ref h5), (4, .int p4)] := hl
  have hi2 : ∀ w ∈ u_ws RX2 TX2 3, w ∈ wsX2_compute := fun w h => List.mem_cons_of_mem _ (inX2 w h)
  have hk0 := hts _ (List.mem_cons_of_mem _ wm_108)
  have hk1 := hts _ (List.mem_cons_of_mem _ wm_109)
  have hk2 := hts _ (List.mem_cons_of_mem _ wm_110)
  refine lv_aload_n hx hb dX2_compute_0 rfl (lv_at hl 0 rfl) ?_
  refine va_get (D := D) (ci := 2) (v := .ref h1) (C := RX2) (T := TX2) (N := 3) hx hb hts hi2 hown hK hP 0 rfl rfl 0 (by decide) hk0 (fun _ h9 => h9) rfl dX2_compute_1 ?_
  refine lv_aload_n hx hb dX2_compute_4 rfl (lv_at hl 2 rfl) ?_
  refine sp_callv (sp_runV (As := [.ref h4]) (rest := []) C (c_X1_become l D h1 h4 n0 n3) (cwV 1 hts (gV wG_c wm_166 wm_167 wm_168 wm_31 wm_165) rfl rfl rfl (by decide +kernel) ⟨Nat.le_of_ble_eq_true rfl, Nat.le_of_ble_eq_true rfl⟩) hK hP hD [1, 4] (by decide) rfl [] rfl 0 1 rfl rfl rfl rfl hl.1 rfl (Nat.le_of_ble_eq_true rfl) dX2_compute_5 ⟨Nat.le_of_ble_eq_true rfl, Nat.le_of_ble_eq_true rfl⟩) hP hD hS hA [1, 4] rfl (sp_fc (sp_fc sp_f0)) (fun H locs hP hD hS => ?_)
  have hP : va_P D vwCl ([(h0, .inr (2, [.ref h1, .ref h2, .ref h3])), (h1, .inr (1, nm_fs (f_X1_become n0 n3))), (h2, .inr (1, nm_fs n1)), (h3, .inr (1, nm_fs n2)), (h4, .inr (1, nm_fs n3)), (h5, .inr (1, nm_fs n4))]) H := hP
  have hD : va_D A ([(h0, .inr (2, [.ref h1, .ref h2, .ref h3])), (h1, .inr (1, nm_fs (f_X1_become n0 n3))), (h2, .inr (1, nm_fs n1)), (h3, .inr (1, nm_fs n2)), (h4, .inr (1, nm_fs n3)), (h5, .inr (1, nm_fs n4))]) := hD
  refine lv_aload_n hx hb dX2_compute_8 rfl (lv_at hl 0 rfl) ?_
  refine va_get (D := D) (ci := 2) (v := .ref h2) (C := RX2) (T := TX2) (N := 3) hx hb hts hi2 hown hK hP 0 rfl rfl 1 (by decide) hk1 (fun _ h9 => h9) rfl dX2_compute_9 ?_
  refine lv_aload_n hx hb dX2_compute_12 rfl (lv_at hl 3 rfl) ?_
  refine sp_callv (sp_runV (As := [.ref h5]) (rest := []) C (c_X1_become l D h2 h5 n1 n4) (cwV 1 hts (gV wG_c wm_166 wm_167 wm_168 wm_31 wm_165) rfl rfl rfl (by decide +kernel) ⟨Nat.le_of_ble_eq_true rfl, Nat.le_of_ble_eq_true rfl⟩) hK hP hD [2, 5] (by decide) rfl [] rfl 0 1 rfl rfl rfl rfl hl.1 rfl (Nat.le_of_ble_eq_true rfl) dX2_compute_13 ⟨Nat.le_of_ble_eq_true rfl, Nat.le_of_ble_eq_true rfl⟩) hP hD hS hA [2, 5] rfl (sp_fc (sp_fc sp_f0)) (fun H locs hP hD hS => ?_)
  have hP : va_P D vwCl ([(h0, .inr (2, [.ref h1, .ref h2, .ref h3])), (h1, .inr (1, nm_fs (f_X1_become n0 n3))), (h2, .inr (1, nm_fs (f_X1_become n1 n4))), (h3, .inr (1, nm_fs n2)), (h4, .inr (1, nm_fs n3)), (h5, .inr (1, nm_fs n4))]) H := hP
  have hD : va_D A ([(h0, .inr (2, [.ref h1, .ref h2, .ref h3])), (h1, .inr (1, nm_fs (f_X1_become n0 n3))), (h2, .inr (1, nm_fs (f_X1_become n1 n4))), (h3, .inr (1, nm_fs n2)), (h4, .inr (1, nm_fs n3)), (h5, .inr (1, nm_fs n4))]) := hD
  refine lv_iload hx hb dX2_compute_16 (lv_at hl 4 rfl) ?_
  refine lv_if_eq (tgt := 35) hx hb dX2_compute_18 (by decide) (fun c1 => ?_) (fun c1 => ?_)
  · refine lv_aload_n hx hb dX2_compute_35 rfl (lv_at hl 0 rfl) ?_
    refine va_get (D := D) (ci := 2) (v := .ref h3) (C := RX2) (T := TX2) (N := 3) hx hb hts hi2 hown hK hP 0 rfl rfl 2 (by decide) hk2 (fun _ h9 => h9) rfl dX2_compute_36 ?_
    refine sp_callv (sp_runV (As := []) (rest := []) C (c_X1_becomeAny l D h3 n2) (cwV 0 hts (gV wG_c wm_243 wm_244 wm_245 wm_31 wm_242) rfl rfl rfl (by decide +kernel) ⟨Nat.le_of_ble_eq_true rfl, Nat.le_of_ble_eq_true rfl⟩) hK hP hD [3] (by decide) rfl [] rfl 0 1 rfl rfl rfl rfl hl.1 rfl (Nat.le_of_ble_eq_true rfl) dX2_compute_39 ⟨Nat.le_of_ble_eq_true rfl, Nat.le_of_ble_eq_true rfl⟩) hP hD hS hA [3] rfl (sp_fc sp_f0) (fun H locs hP hD hS => ?_)
    have hP : va_P D vwCl ([(h0, .inr (2, [.ref h1, .ref h2, .ref h3])), (h1, .inr (1, nm_fs (f_X1_become n0 n3))), (h2, .inr (1, nm_fs (f_X1_become n1 n4))), (h3, .inr (1, nm_fs (f_X1_becomeAny n2))), (h4, .inr (1, nm_fs n3)), (h5, .inr (1, nm_fs n4))]) H := hP
    have hD : va_D A ([(h0, .inr (2, [.ref h1, .ref h2, .ref h3])), (h1, .inr (1, nm_fs (f_X1_become n0 n3))), (h2, .inr (1, nm_fs (f_X1_become n1 n4))), (h3, .inr (1, nm_fs (f_X1_becomeAny n2))), (h4, .inr (1, nm_fs n3)), (h5, .inr (1, nm_fs n4))]) := hD
    refine lv_iload_n hx hb dX2_compute_42 rfl (lv_at hl 1 rfl) ?_
    refine lv_bipush (v := 8) hx hb dX2_compute_43 (by decide) ?_
    refine lv_icmp_eq (tgt := 60) hx hb dX2_compute_45 (by decide) (fun c2 => ?_) (fun c2 => ?_)
    · refine lv_aload_n hx hb dX2_compute_60 rfl (lv_at hl 0 rfl) ?_
      refine lv_iload_n hx hb dX2_compute_61 rfl (lv_at hl 1 rfl) ?_
      refine lv_iload hx hb dX2_compute_62 (lv_at hl 4 rfl) ?_
      refine sp_callv (sp_runV (As := [.int p1, .int p4]) (rest := []) C (c_X2_shift l D h0 h1 h2 h3 (f_X1_become n0 n3) (f_X1_become n1 n4) (f_X1_becomeAny n2) p1 p4) (cwV 2 hts (gV wG_c wm_247 wm_248 wm_249 wm_122 wm_246) rfl rfl rfl (by decide +kernel) ⟨Nat.le_of_ble_eq_true rfl, Nat.le_of_ble_eq_true rfl⟩) hK hP hD [0, 1, 2, 3] (by decide) rfl [] rfl 0 2 rfl rfl rfl rfl hl.1 rfl (Nat.le_of_ble_eq_true rfl) dX2_compute_64 ⟨Nat.le_of_ble_eq_true rfl, Nat.le_of_ble_eq_true rfl⟩) hP hD hS hA [0, 1, 2, 3] rfl (sp_fc (sp_fc (sp_fc (sp_fc sp_f0)))) (fun H locs hP hD hS => ?_)
      have hP : va_P D vwCl ([(h0, .inr (2, [.ref h1, .ref h2, .ref h3])), (h1, .inr (1, nm_fs (f_X1_become n0 n3))), (h2, .inr (1, nm_fs (f_X1_become n1 n4))), (h3, .inr (1, nm_fs (f_X2_shift (f_X1_become n0 n3) (f_X1_become n1 n4) (f_X1_becomeAny n2) p1 p4))), (h4, .inr (1, nm_fs n3)), (h5, .inr (1, nm_fs n4))]) H := hP
      have hD : va_D A ([(h0, .inr (2, [.ref h1, .ref h2, .ref h3])), (h1, .inr (1, nm_fs (f_X1_become n0 n3))), (h2, .inr (1, nm_fs (f_X1_become n1 n4))), (h3, .inr (1, nm_fs (f_X2_shift (f_X1_become n0 n3) (f_X1_become n1 n4) (f_X1_becomeAny n2) p1 p4))), (h4, .inr (1, nm_fs n3)), (h5, .inr (1, nm_fs n4))]) := hD
      refine lv_goto (tgt := 75) hx hb dX2_compute_67 (by decide) ?_
      refine lv_aload_n hx hb dX2_compute_75 rfl (lv_at hl 0 rfl) ?_
      refine va_get (D := D) (ci := 2) (v := .ref h3) (C := RX2) (T := TX2) (N := 3) hx hb hts hi2 hown hK hP 0 rfl rfl 2 (by decide) hk2 (fun _ h9 => h9) rfl dX2_compute_76 ?_
      refine sp_callz (sp_runV (As := []) (rest := []) C (c_X1_settle l D h3 (f_X2_shift (f_X1_become n0 n3) (f_X1_become n1 n4) (f_X1_becomeAny n2) p1 p4)) (cwV 0 hts (gV wG_c wm_250 wm_100 wm_101 wm_31 wm_98) rfl rfl rfl (by decide +kernel) ⟨Nat.le_of_ble_eq_true rfl, Nat.le_of_ble_eq_true rfl⟩) hK hP hD [3] (by decide) rfl [] rfl 0 1 rfl rfl rfl rfl hl.1 rfl (Nat.le_of_ble_eq_true rfl) dX2_compute_79 ⟨Nat.le_of_ble_eq_true rfl, Nat.le_of_ble_eq_true rfl⟩) hP hD hS hA [3] rfl (sp_fc sp_f0) (fun H locs z3 hP hD hS => ?_)
      have hP : va_P D vwCl ([(h0, .inr (2, [.ref h1, .ref h2, .ref h3])), (h1, .inr (1, nm_fs (f_X1_become n0 n3))), (h2, .inr (1, nm_fs (f_X1_become n1 n4))), (h3, .inr (1, nm_fs ((f_X1_settle (f_X2_shift (f_X1_become n0 n3) (f_X1_become n1 n4) (f_X1_becomeAny n2) p1 p4)).1))), (h4, .inr (1, nm_fs n3)), (h5, .inr (1, nm_fs n4))]) H := hP
      have hD : va_D A ([(h0, .inr (2, [.ref h1, .ref h2, .ref h3])), (h1, .inr (1, nm_fs (f_X1_become n0 n3))), (h2, .inr (1, nm_fs (f_X1_become n1 n4))), (h3, .inr (1, nm_fs ((f_X1_settle (f_X2_shift (f_X1_become n0 n3) (f_X1_become n1 n4) (f_X1_becomeAny n2) p1 p4)).1))), (h4, .inr (1, nm_fs n3)), (h5, .inr (1, nm_fs n4))]) := hD
      refine lv_if_ne (tgt := 92) hx hb dX2_compute_82 (by decide) (fun c4 => ?_) (fun c4 => ?_)
      · refine lv_iload hx hb dX2_compute_92 (lv_at hl 4 rfl) ?_
        refine lv_if_eq (tgt := 104) hx hb dX2_compute_94 (by decide) (fun _ => ?_) (fun h9 => absurd c1 h9)
        refine lv_aload_n hx hb dX2_compute_104 rfl (lv_at hl 0 rfl) ?_
        refine va_get (D := D) (ci := 2) (v := .ref h3) (C := RX2) (T := TX2) (N := 3) hx hb hts hi2 hown hK hP 0 rfl rfl 2 (by decide) hk2 (fun _ h9 => h9) rfl dX2_compute_105 ?_
        have e9 : f_X2_compute n0 n1 n2 n3 n4 p1 p4 = ((f_X1_become n0 n3), (f_X1_become n1 n4), ((f_X1_settle (f_X2_shift (f_X1_become n0 n3) (f_X1_become n1 n4) (f_X1_becomeAny n2) p1 p4)).1)) := (if_pos c1).trans ((if_pos c2).trans ((if_neg c4).trans (rfl)))
        rw [e9]
        exact sp_aret C hAe hP hK hD hS dX2_compute_108
      · refine lv_aload_n hx hb dX2_compute_85 rfl (lv_at hl 0 rfl) ?_
        refine va_get (D := D) (ci := 2) (v := .ref h3) (C := RX2) (T := TX2) (N := 3) hx hb hts hi2 hown hK hP 0 rfl rfl 2 (by decide) hk2 (fun _ h9 => h9) rfl dX2_compute_86 ?_
        refine sp_callv (sp_runV (As := []) (rest := []) C (c_X1_becomeAny l D h3 ((f_X1_settle (f_X2_shift (f_X1_become n0 n3) (f_X1_become n1 n4) (f_X1_becomeAny n2) p1 p4)).1)) (cwV 0 hts (gV wG_c wm_243 wm_244 wm_245 wm_31 wm_242) rfl rfl rfl (by decide +kernel) ⟨Nat.le_of_ble_eq_true rfl, Nat.le_of_ble_eq_true rfl⟩) hK hP hD [3] (by decide) rfl [] rfl 0 1 rfl rfl rfl rfl hl.1 rfl (Nat.le_of_ble_eq_true rfl) dX2_compute_89 ⟨Nat.le_of_ble_eq_true rfl, Nat.le_of_ble_eq_true rfl⟩) hP hD hS hA [3] rfl (sp_fc sp_f0) (fun H locs hP hD hS => ?_)
        have hP : va_P D vwCl ([(h0, .inr (2, [.ref h1, .ref h2, .ref h3])), (h1, .inr (1, nm_fs (f_X1_become n0 n3))), (h2, .inr (1, nm_fs (f_X1_become n1 n4))), (h3, .inr (1, nm_fs (f_X1_becomeAny ((f_X1_settle (f_X2_shift (f_X1_become n0 n3) (f_X1_become n1 n4) (f_X1_becomeAny n2) p1 p4)).1)))), (h4, .inr (1, nm_fs n3)), (h5, .inr (1, nm_fs n4))]) H := hP
        have hD : va_D A ([(h0, .inr (2, [.ref h1, .ref h2, .ref h3])), (h1, .inr (1, nm_fs (f_X1_become n0 n3))), (h2, .inr (1, nm_fs (f_X1_become n1 n4))), (h3, .inr (1, nm_fs (f_X1_becomeAny ((f_X1_settle (f_X2_shift (f_X1_become n0 n3) (f_X1_become n1 n4) (f_X1_becomeAny n2) p1 p4)).1)))), (h4, .inr (1, nm_fs n3)), (h5, .inr (1, nm_fs n4))]) := hD
        refine lv_iload hx hb dX2_compute_92 (lv_at hl 4 rfl) ?_
        refine lv_if_eq (tgt := 104) hx hb dX2_compute_94 (by decide) (fun _ => ?_) (fun h9 => absurd c1 h9)
        refine lv_aload_n hx hb dX2_compute_104 rfl (lv_at hl 0 rfl) ?_
        refine va_get (D := D) (ci := 2) (v := .ref h3) (C := RX2) (T := TX2) (N := 3) hx hb hts hi2 hown hK hP 0 rfl rfl 2 (by decide) hk2 (fun _ h9 => h9) rfl dX2_compute_105 ?_
        have e9 : f_X2_compute n0 n1 n2 n3 n4 p1 p4 = ((f_X1_become n0 n3), (f_X1_become n1 n4), (f_X1_becomeAny ((f_X1_settle (f_X2_shift (f_X1_become n0 n3) (f_X1_become n1 n4) (f_X1_becomeAny n2) p1 p4)).1))) := (if_pos c1).trans ((if_pos c2).trans ((if_pos c4).trans (rfl)))
        rw [e9]
        exact sp_aret C hAe hP hK hD hS dX2_compute_108
    · refine lv_iload_n hx hb dX2_compute_48 rfl (lv_at hl 1 rfl) ?_
      refine lv_bipush (v := 9) hx hb dX2_compute_49 (by decide) ?_
      refine lv_icmp_eq (tgt := 60) hx hb dX2_compute_51 (by decide) (fun c7 => ?_) (fun c7 => ?_)
      · refine lv_aload_n hx hb dX2_compute_60 rfl (lv_at hl 0 rfl) ?_
        refine lv_iload_n hx hb dX2_compute_61 rfl (lv_at hl 1 rfl) ?_
        refine lv_iload hx hb dX2_compute_62 (lv_at hl 4 rfl) ?_
        refine sp_callv (sp_runV (As := [.int p1, .int p4]) (rest := []) C (c_X2_shift l D h0 h1 h2 h3 (f_X1_become n0 n3) (f_X1_become n1 n4) (f_X1_becomeAny n2) p1 p4) (cwV 2 hts (gV wG_c wm_247 wm_248 wm_249 wm_122 wm_246) rfl rfl rfl (by decide +kernel) ⟨Nat.le_of_ble_eq_true rfl, Nat.le_of_ble_eq_true rfl⟩) hK hP hD [0, 1, 2, 3] (by decide) rfl [] rfl 0 2 rfl rfl rfl rfl hl.1 rfl (Nat.le_of_ble_eq_true rfl) dX2_compute_64 ⟨Nat.le_of_ble_eq_true rfl, Nat.le_of_ble_eq_true rfl⟩) hP hD hS hA [0, 1, 2, 3] rfl (sp_fc (sp_fc (sp_fc (sp_fc sp_f0)))) (fun H locs hP hD hS => ?_)
        have hP : va_P D vwCl ([(h0, .inr (2, [.ref h1, .ref h2, .ref h3])), (h1, .inr (1, nm_fs (f_X1_become n0 n3))), (h2, .inr (1, nm_fs (f_X1_become n1 n4))), (h3, .inr (1, nm_fs (f_X2_shift (f_X1_become n0 n3) (f_X1_become n1 n4) (f_X1_becomeAny n2) p1 p4))), (h4, .inr (1, nm_fs n3)), (h5, .inr (1, nm_fs n4))]) H := hP
        have hD : va_D A ([(h0, .inr (2, [.ref h1, .ref h2, .ref h3])), (h1, .inr (1, nm_fs (f_X1_become n0 n3))), (h2, .inr (1, nm_fs (f_X1_become n1 n4))), (h3, .inr (1, nm_fs (f_X2_shift (f_X1_become n0 n3) (f_X1_become n1 n4) (f_X1_becomeAny n2) p1 p4))), (h4, .inr (1, nm_fs n3)), (h5, .inr (1, nm_fs n4))]) := hD
        refine lv_goto (tgt := 75) hx hb dX2_compute_67 (by decide) ?_
        refine lv_aload_n hx hb dX2_compute_75 rfl (lv_at hl 0 rfl) ?_
        refine va_get (D := D) (ci := 2) (v := .ref h3) (C := RX2) (T := TX2) (N := 3) hx hb hts hi2 hown hK hP 0 rfl rfl 2 (by decide) hk2 (fun _ h9 => h9) rfl dX2_compute_76 ?_
        refine sp_callz (sp_runV (As := []) (rest := []) C (c_X1_settle l D h3 (f_X2_shift (f_X1_become n0 n3) (f_X1_become n1 n4) (f_X1_becomeAny n2) p1 p4)) (cwV 0 hts (gV wG_c wm_250 wm_100 wm_101 wm_31 wm_98) rfl rfl rfl (by decide +kernel) ⟨Nat.le_of_ble_eq_true rfl, Nat.le_of_ble_eq_true rfl⟩) hK hP hD [3] (by decide) rfl [] rfl 0 1 rfl rfl rfl rfl hl.1 rfl (Nat.le_of_ble_eq_true rfl) dX2_compute_79 ⟨Nat.le_of_ble_eq_true rfl, Nat.le_of_ble_eq_true rfl⟩) hP hD hS hA [3] rfl (sp_fc sp_f0) (fun H locs z8 hP hD hS => ?_)
        have hP : va_P D vwCl ([(h0, .inr (2, [.ref h1, .ref h2, .ref h3])), (h1, .inr (1, nm_fs (f_X1_become n0 n3))), (h2, .inr (1, nm_fs (f_X1_become n1 n4))), (h3, .inr (1, nm_fs ((f_X1_settle (f_X2_shift (f_X1_become n0 n3) (f_X1_become n1 n4) (f_X1_becomeAny n2) p1 p4)).1))), (h4, .inr (1, nm_fs n3)), (h5, .inr (1, nm_fs n4))]) H := hP
        have hD : va_D A ([(h0, .inr (2, [.ref h1, .ref h2, .ref h3])), (h1, .inr (1, nm_fs (f_X1_become n0 n3))), (h2, .inr (1, nm_fs (f_X1_become n1 n4))), (h3, .inr (1, nm_fs ((f_X1_settle (f_X2_shift (f_X1_become n0 n3) (f_X1_become n1 n4) (f_X1_becomeAny n2) p1 p4)).1))), (h4, .inr (1, nm_fs n3)), (h5, .inr (1, nm_fs n4))]) := hD
        refine lv_if_ne (tgt := 92) hx hb dX2_compute_82 (by decide) (fun c9 => ?_) (fun c9 => ?_)
        · refine lv_iload hx hb dX2_compute_92 (lv_at hl 4 rfl) ?_
          refine lv_if_eq (tgt := 104) hx hb dX2_compute_94 (by decide) (fun _ => ?_) (fun h9 => absurd c1 h9)
          refine lv_aload_n hx hb dX2_compute_104 rfl (lv_at hl 0 rfl) ?_
          refine va_get (D := D) (ci := 2) (v := .ref h3) (C := RX2) (T := TX2) (N := 3) hx hb hts hi2 hown hK hP 0 rfl rfl 2 (by decide) hk2 (fun _ h9 => h9) rfl dX2_compute_105 ?_
          have e9 : f_X2_compute n0 n1 n2 n3 n4 p1 p4 = ((f_X1_become n0 n3), (f_X1_become n1 n4), ((f_X1_settle (f_X2_shift (f_X1_become n0 n3) (f_X1_become n1 n4) (f_X1_becomeAny n2) p1 p4)).1)) := (if_pos c1).trans ((if_neg c2).trans ((if_pos c7).trans ((if_neg c9).trans (rfl))))
          rw [e9]
          exact sp_aret C hAe hP hK hD hS dX2_compute_108
        · refine lv_aload_n hx hb dX2_compute_85 rfl (lv_at hl 0 rfl) ?_
          refine va_get (D := D) (ci := 2) (v := .ref h3) (C := RX2) (T := TX2) (N := 3) hx hb hts hi2 hown hK hP 0 rfl rfl 2 (by decide) hk2 (fun _ h9 => h9) rfl dX2_compute_86 ?_
          refine sp_callv (sp_runV (As := []) (rest := []) C (c_X1_becomeAny l D h3 ((f_X1_settle (f_X2_shift (f_X1_become n0 n3) (f_X1_become n1 n4) (f_X1_becomeAny n2) p1 p4)).1)) (cwV 0 hts (gV wG_c wm_243 wm_244 wm_245 wm_31 wm_242) rfl rfl rfl (by decide +kernel) ⟨Nat.le_of_ble_eq_true rfl, Nat.le_of_ble_eq_true rfl⟩) hK hP hD [3] (by decide) rfl [] rfl 0 1 rfl rfl rfl rfl hl.1 rfl (Nat.le_of_ble_eq_true rfl) dX2_compute_89 ⟨Nat.le_of_ble_eq_true rfl, Nat.le_of_ble_eq_true rfl⟩) hP hD hS hA [3] rfl (sp_fc sp_f0) (fun H locs hP hD hS => ?_)
          have hP : va_P D vwCl ([(h0, .inr (2, [.ref h1, .ref h2, .ref h3])), (h1, .inr (1, nm_fs (f_X1_become n0 n3))), (h2, .inr (1, nm_fs (f_X1_become n1 n4))), (h3, .inr (1, nm_fs (f_X1_becomeAny ((f_X1_settle (f_X2_shift (f_X1_become n0 n3) (f_X1_become n1 n4) (f_X1_becomeAny n2) p1 p4)).1)))), (h4, .inr (1, nm_fs n3)), (h5, .inr (1, nm_fs n4))]) H := hP
          have hD : va_D A ([(h0, .inr (2, [.ref h1, .ref h2, .ref h3])), (h1, .inr (1, nm_fs (f_X1_become n0 n3))), (h2, .inr (1, nm_fs (f_X1_become n1 n4))), (h3, .inr (1, nm_fs (f_X1_becomeAny ((f_X1_settle (f_X2_shift (f_X1_become n0 n3) (f_X1_become n1 n4) (f_X1_becomeAny n2) p1 p4)).1)))), (h4, .inr (1, nm_fs n3)), (h5, .inr (1, nm_fs n4))]) := hD
          refine lv_iload hx hb dX2_compute_92 (lv_at hl 4 rfl) ?_
          refine lv_if_eq (tgt := 104) hx hb dX2_compute_94 (by decide) (fun _ => ?_) (fun h9 => absurd c1 h9)
          refine lv_aload_n hx hb dX2_compute_104 rfl (lv_at hl 0 rfl) ?_
          refine va_get (D := D) (ci := 2) (v := .ref h3) (C := RX2) (T := TX2) (N := 3) hx hb hts hi2 hown hK hP 0 rfl rfl 2 (by decide) hk2 (fun _ h9 => h9) rfl dX2_compute_105 ?_
          have e9 : f_X2_compute n0 n1 n2 n3 n4 p1 p4 = ((f_X1_become n0 n3), (f_X1_become n1 n4), (f_X1_becomeAny ((f_X1_settle (f_X2_shift (f_X1_become n0 n3) (f_X1_become n1 n4) (f_X1_becomeAny n2) p1 p4)).1))) := (if_pos c1).trans ((if_neg c2).trans ((if_pos c7).trans ((if_pos c9).trans (rfl))))
          rw [e9]
          exact sp_aret C hAe hP hK hD hS dX2_compute_108
      · refine lv_iload_n hx hb dX2_compute_54 rfl (lv_at hl 1 rfl) ?_
        refine lv_bipush (v := 10) hx hb dX2_compute_55 (by decide) ?_
        refine lv_icmp_ne (tgt := 70) hx hb dX2_compute_57 (by decide) (fun c12 => ?_) (fun c12 => ?_)
        · refine lv_aload_n hx hb dX2_compute_70 rfl (lv_at hl 0 rfl) ?_
          refine lv_iload_n hx hb dX2_compute_71 rfl (lv_at hl 1 rfl) ?_
          refine sp_callv (sp_runV (As := [.int p1]) (rest := []) C (c_X2_apply l D h0 h1 h2 h3 (f_X1_become n0 n3) (f_X1_become n1 n4) (f_X1_becomeAny n2) p1) (cwV 1 hts (gV wG_c wm_252 wm_253 wm_254 wm_122 wm_251) rfl rfl rfl (by decide +kernel) ⟨Nat.le_of_ble_eq_true rfl, Nat.le_of_ble_eq_true rfl⟩) hK hP hD [0, 1, 2, 3] (by decide) rfl [] rfl 0 2 rfl rfl rfl rfl hl.1 rfl (Nat.le_of_ble_eq_true rfl) dX2_compute_72 ⟨Nat.le_of_ble_eq_true rfl, Nat.le_of_ble_eq_true rfl⟩) hP hD hS hA [0, 1, 2, 3] rfl (sp_fc (sp_fc (sp_fc (sp_fc sp_f0)))) (fun H locs hP hD hS => ?_)
          have hP : va_P D vwCl ([(h0, .inr (2, [.ref h1, .ref h2, .ref h3])), (h1, .inr (1, nm_fs ((f_X2_apply (f_X1_become n0 n3) (f_X1_become n1 n4) (f_X1_becomeAny n2) p1).1))), (h2, .inr (1, nm_fs ((f_X2_apply (f_X1_become n0 n3) (f_X1_become n1 n4) (f_X1_becomeAny n2) p1).2.1))), (h3, .inr (1, nm_fs ((f_X2_apply (f_X1_become n0 n3) (f_X1_become n1 n4) (f_X1_becomeAny n2) p1).2.2))), (h4, .inr (1, nm_fs n3)), (h5, .inr (1, nm_fs n4))]) H := hP
          have hD : va_D A ([(h0, .inr (2, [.ref h1, .ref h2, .ref h3])), (h1, .inr (1, nm_fs ((f_X2_apply (f_X1_become n0 n3) (f_X1_become n1 n4) (f_X1_becomeAny n2) p1).1))), (h2, .inr (1, nm_fs ((f_X2_apply (f_X1_become n0 n3) (f_X1_become n1 n4) (f_X1_becomeAny n2) p1).2.1))), (h3, .inr (1, nm_fs ((f_X2_apply (f_X1_become n0 n3) (f_X1_become n1 n4) (f_X1_becomeAny n2) p1).2.2))), (h4, .inr (1, nm_fs n3)), (h5, .inr (1, nm_fs n4))]) := hD
          refine lv_aload_n hx hb dX2_compute_75 rfl (lv_at hl 0 rfl) ?_
          refine va_get (D := D) (ci := 2) (v := .ref h3) (C := RX2) (T := TX2) (N := 3) hx hb hts hi2 hown hK hP 0 rfl rfl 2 (by decide) hk2 (fun _ h9 => h9) rfl dX2_compute_76 ?_
          refine sp_callz (sp_runV (As := []) (rest := []) C (c_X1_settle l D h3 ((f_X2_apply (f_X1_become n0 n3) (f_X1_become n1 n4) (f_X1_becomeAny n2) p1).2.2)) (cwV 0 hts (gV wG_c wm_250 wm_100 wm_101 wm_31 wm_98) rfl rfl rfl (by decide +kernel) ⟨Nat.le_of_ble_eq_true rfl, Nat.le_of_ble_eq_true rfl⟩) hK hP hD [3] (by decide) rfl [] rfl 0 1 rfl rfl rfl rfl hl.1 rfl (Nat.le_of_ble_eq_true rfl) dX2_compute_79 ⟨Nat.le_of_ble_eq_true rfl, Nat.le_of_ble_eq_true rfl⟩) hP hD hS hA [3] rfl (sp_fc sp_f0) (fun H locs z13 hP hD hS => ?_)
          have hP : va_P D vwCl ([(h0, .inr (2, [.ref h1, .ref h2, .ref h3])), (h1, .inr (1, nm_fs ((f_X2_apply (f_X1_become n0 n3) (f_X1_become n1 n4) (f_X1_becomeAny n2) p1).1))), (h2, .inr (1, nm_fs ((f_X2_apply (f_X1_become n0 n3) (f_X1_become n1 n4) (f_X1_becomeAny n2) p1).2.1))), (h3, .inr (1, nm_fs ((f_X1_settle ((f_X2_apply (f_X1_become n0 n3) (f_X1_become n1 n4) (f_X1_becomeAny n2) p1).2.2)).1))), (h4, .inr (1, nm_fs n3)), (h5, .inr (1, nm_fs n4))]) H := hP
          have hD : va_D A ([(h0, .inr (2, [.ref h1, .ref h2, .ref h3])), (h1, .inr (1, nm_fs ((f_X2_apply (f_X1_become n0 n3) (f_X1_become n1 n4) (f_X1_becomeAny n2) p1).1))), (h2, .inr (1, nm_fs ((f_X2_apply (f_X1_become n0 n3) (f_X1_become n1 n4) (f_X1_becomeAny n2) p1).2.1))), (h3, .inr (1, nm_fs ((f_X1_settle ((f_X2_apply (f_X1_become n0 n3) (f_X1_become n1 n4) (f_X1_becomeAny n2) p1).2.2)).1))), (h4, .inr (1, nm_fs n3)), (h5, .inr (1, nm_fs n4))]) := hD
          refine lv_if_ne (tgt := 92) hx hb dX2_compute_82 (by decide) (fun c14 => ?_) (fun c14 => ?_)
          · refine lv_iload hx hb dX2_compute_92 (lv_at hl 4 rfl) ?_
            refine lv_if_eq (tgt := 104) hx hb dX2_compute_94 (by decide) (fun _ => ?_) (fun h9 => absurd c1 h9)
            refine lv_aload_n hx hb dX2_compute_104 rfl (lv_at hl 0 rfl) ?_
            refine va_get (D := D) (ci := 2) (v := .ref h3) (C := RX2) (T := TX2) (N := 3) hx hb hts hi2 hown hK hP 0 rfl rfl 2 (by decide) hk2 (fun _ h9 => h9) rfl dX2_compute_105 ?_
            have e9 : f_X2_compute n0 n1 n2 n3 n4 p1 p4 = (((f_X2_apply (f_X1_become n0 n3) (f_X1_become n1 n4) (f_X1_becomeAny n2) p1).1), ((f_X2_apply (f_X1_become n0 n3) (f_X1_become n1 n4) (f_X1_becomeAny n2) p1).2.1), ((f_X1_settle ((f_X2_apply (f_X1_become n0 n3) (f_X1_become n1 n4) (f_X1_becomeAny n2) p1).2.2)).1)) := (if_pos c1).trans ((if_neg c2).trans ((if_neg c7).trans ((if_neg c12).trans ((if_neg c14).trans (rfl)))))
            rw [e9]
            exact sp_aret C hAe hP hK hD hS dX2_compute_108
          · refine lv_aload_n hx hb dX2_compute_85 rfl (lv_at hl 0 rfl) ?_
            refine va_get (D := D) (ci := 2) (v := .ref h3) (C := RX2) (T := TX2) (N := 3) hx hb hts hi2 hown hK hP 0 rfl rfl 2 (by decide) hk2 (fun _ h9 => h9) rfl dX2_compute_86 ?_
            refine sp_callv (sp_runV (As := []) (rest := []) C (c_X1_becomeAny l D h3 ((f_X1_settle ((f_X2_apply (f_X1_become n0 n3) (f_X1_become n1 n4) (f_X1_becomeAny n2) p1).2.2)).1)) (cwV 0 hts (gV wG_c wm_243 wm_244 wm_245 wm_31 wm_242) rfl rfl rfl (by decide +kernel) ⟨Nat.le_of_ble_eq_true rfl, Nat.le_of_ble_eq_true rfl⟩) hK hP hD [3] (by decide) rfl [] rfl 0 1 rfl rfl rfl rfl hl.1 rfl (Nat.le_of_ble_eq_true rfl) dX2_compute_89 ⟨Nat.le_of_ble_eq_true rfl, Nat.le_of_ble_eq_true rfl⟩) hP hD hS hA [3] rfl (sp_fc sp_f0) (fun H locs hP hD hS => ?_)
            have hP : va_P D vwCl ([(h0, .inr (2, [.ref h1, .ref h2, .ref h3])), (h1, .inr (1, nm_fs ((f_X2_apply (f_X1_become n0 n3) (f_X1_become n1 n4) (f_X1_becomeAny n2) p1).1))), (h2, .inr (1, nm_fs ((f_X2_apply (f_X1_become n0 n3) (f_X1_become n1 n4) (f_X1_becomeAny n2) p1).2.1))), (h3, .inr (1, nm_fs (f_X1_becomeAny ((f_X1_settle ((f_X2_apply (f_X1_become n0 n3) (f_X1_become n1 n4) (f_X1_becomeAny n2) p1).2.2)).1)))), (h4, .inr (1, nm_fs n3)), (h5, .inr (1, nm_fs n4))]) H := hP
            have hD : va_D A ([(h0, .inr (2, [.ref h1, .ref h2, .ref h3])), (h1, .inr (1, nm_fs ((f_X2_apply (f_X1_become n0 n3) (f_X1_become n1 n4) (f_X1_becomeAny n2) p1).1))), (h2, .inr (1, nm_fs ((f_X2_apply (f_X1_become n0 n3) (f_X1_become n1 n4) (f_X1_becomeAny n2) p1).2.1))), (h3, .inr (1, nm_fs (f_X1_becomeAny ((f_X1_settle ((f_X2_apply (f_X1_become n0 n3) (f_X1_become n1 n4) (f_X1_becomeAny n2) p1).2.2)).1)))), (h4, .inr (1, nm_fs n3)), (h5, .inr (1, nm_fs n4))]) := hD
            refine lv_iload hx hb dX2_compute_92 (lv_at hl 4 rfl) ?_
            refine lv_if_eq (tgt := 104) hx hb dX2_compute_94 (by decide) (fun _ => ?_) (fun h9 => absurd c1 h9)
            refine lv_aload_n hx hb dX2_compute_104 rfl (lv_at hl 0 rfl) ?_
            refine va_get (D := D) (ci := 2) (v := .ref h3) (C := RX2) (T := TX2) (N := 3) hx hb hts hi2 hown hK hP 0 rfl rfl 2 (by decide) hk2 (fun _ h9 => h9) rfl dX2_compute_105 ?_
            have e9 : f_X2_compute n0 n1 n2 n3 n4 p1 p4 = (((f_X2_apply (f_X1_become n0 n3) (f_X1_become n1 n4) (f_X1_becomeAny n2) p1).1), ((f_X2_apply (f_X1_become n0 n3) (f_X1_become n1 n4) (f_X1_becomeAny n2) p1).2.1), (f_X1_becomeAny ((f_X1_settle ((f_X2_apply (f_X1_become n0 n3) (f_X1_become n1 n4) (f_X1_becomeAny n2) p1).2.2)).1))) := (if_pos c1).trans ((if_neg c2).trans ((if_neg c7).trans ((if_neg c12).trans ((if_pos c14).trans (rfl)))))
            rw [e9]
            exact sp_aret C hAe hP hK hD hS dX2_compute_108
        · refine lv_aload_n hx hb dX2_compute_60 rfl (lv_at hl 0 rfl) ?_
          refine lv_iload_n hx hb dX2_compute_61 rfl (lv_at hl 1 rfl) ?_
          refine lv_iload hx hb dX2_compute_62 (lv_at hl 4 rfl) ?_
          refine sp_callv (sp_runV (As := [.int p1, .int p4]) (rest := []) C (c_X2_shift l D h0 h1 h2 h3 (f_X1_become n0 n3) (f_X1_become n1 n4) (f_X1_becomeAny n2) p1 p4) (cwV 2 hts (gV wG_c wm_247 wm_248 wm_249 wm_122 wm_246) rfl rfl rfl (by decide +kernel) ⟨Nat.le_of_ble_eq_true rfl, Nat.le_of_ble_eq_true rfl⟩) hK hP hD [0, 1, 2, 3] (by decide) rfl [] rfl 0 2 rfl rfl rfl rfl hl.1 rfl (Nat.le_of_ble_eq_true rfl) dX2_compute_64 ⟨Nat.le_of_ble_eq_true rfl, Nat.le_of_ble_eq_true rfl⟩) hP hD hS hA [0, 1, 2, 3] rfl (sp_fc (sp_fc (sp_fc (sp_fc sp_f0)))) (fun H locs hP hD hS => ?_)
          have hP : va_P D vwCl ([(h0, .inr (2, [.ref h1, .ref h2, .ref h3])), (h1, .inr (1, nm_fs (f_X1_become n0 n3))), (h2, .inr (1, nm_fs (f_X1_become n1 n4))), (h3, .inr (1, nm_fs (f_X2_shift (f_X1_become n0 n3) (f_X1_become n1 n4) (f_X1_becomeAny n2) p1 p4))), (h4, .inr (1, nm_fs n3)), (h5, .inr (1, nm_fs n4))]) H := hP
          have hD : va_D A ([(h0, .inr (2, [.ref h1, .ref h2, .ref h3])), (h1, .inr (1, nm_fs (f_X1_become n0 n3))), (h2, .inr (1, nm_fs (f_X1_become n1 n4))), (h3, .inr (1, nm_fs (f_X2_shift (f_X1_become n0 n3) (f_X1_become n1 n4) (f_X1_becomeAny n2) p1 p4))), (h4, .inr (1, nm_fs n3)), (h5, .inr (1, nm_fs n4))]) := hD
          refine lv_goto (tgt := 75) hx hb dX2_compute_67 (by decide) ?_
          refine lv_aload_n hx hb dX2_compute_75 rfl (lv_at hl 0 rfl) ?_
          refine va_get (D := D) (ci := 2) (v := .ref h3) (C := RX2) (T := TX2) (N := 3) hx hb hts hi2 hown hK hP 0 rfl rfl 2 (by decide) hk2 (fun _ h9 => h9) rfl dX2_compute_76 ?_
          refine sp_callz (sp_runV (As := []) (rest := []) C (c_X1_settle l D h3 (f_X2_shift (f_X1_become n0 n3) (f_X1_become n1 n4) (f_X1_becomeAny n2) p1 p4)) (cwV 0 hts (gV wG_c wm_250 wm_100 wm_101 wm_31 wm_98) rfl rfl rfl (by decide +kernel) ⟨Nat.le_of_ble_eq_true rfl, Nat.le_of_ble_eq_true rfl⟩) hK hP hD [3] (by decide) rfl [] rfl 0 1 rfl rfl rfl rfl hl.1 rfl (Nat.le_of_ble_eq_true rfl) dX2_compute_79 ⟨Nat.le_of_ble_eq_true rfl, Nat.le_of_ble_eq_true rfl⟩) hP hD hS hA [3] rfl (sp_fc sp_f0) (fun H locs z17 hP hD hS => ?_)
          have hP : va_P D vwCl ([(h0, .inr (2, [.ref h1, .ref h2, .ref h3])), (h1, .inr (1, nm_fs (f_X1_become n0 n3))), (h2, .inr (1, nm_fs (f_X1_become n1 n4))), (h3, .inr (1, nm_fs ((f_X1_settle (f_X2_shift (f_X1_become n0 n3) (f_X1_become n1 n4) (f_X1_becomeAny n2) p1 p4)).1))), (h4, .inr (1, nm_fs n3)), (h5, .inr (1, nm_fs n4))]) H := hP
          have hD : va_D A ([(h0, .inr (2, [.ref h1, .ref h2, .ref h3])), (h1, .inr (1, nm_fs (f_X1_become n0 n3))), (h2, .inr (1, nm_fs (f_X1_become n1 n4))), (h3, .inr (1, nm_fs ((f_X1_settle (f_X2_shift (f_X1_become n0 n3) (f_X1_become n1 n4) (f_X1_becomeAny n2) p1 p4)).1))), (h4, .inr (1, nm_fs n3)), (h5, .inr (1, nm_fs n4))]) := hD
          refine lv_if_ne (tgt := 92) hx hb dX2_compute_82 (by decide) (fun c18 => ?_) (fun c18 => ?_)
          · refine lv_iload hx hb dX2_compute_92 (lv_at hl 4 rfl) ?_
            refine lv_if_eq (tgt := 104) hx hb dX2_compute_94 (by decide) (fun _ => ?_) (fun h9 => absurd c1 h9)
            refine lv_aload_n hx hb dX2_compute_104 rfl (lv_at hl 0 rfl) ?_
            refine va_get (D := D) (ci := 2) (v := .ref h3) (C := RX2) (T := TX2) (N := 3) hx hb hts hi2 hown hK hP 0 rfl rfl 2 (by decide) hk2 (fun _ h9 => h9) rfl dX2_compute_105 ?_
            have e9 : f_X2_compute n0 n1 n2 n3 n4 p1 p4 = ((f_X1_become n0 n3), (f_X1_become n1 n4), ((f_X1_settle (f_X2_shift (f_X1_become n0 n3) (f_X1_become n1 n4) (f_X1_becomeAny n2) p1 p4)).1)) := (if_pos c1).trans ((if_neg c2).trans ((if_neg c7).trans ((if_pos c12).trans ((if_neg c18).trans (rfl)))))
            rw [e9]
            exact sp_aret C hAe hP hK hD hS dX2_compute_108
          · refine lv_aload_n hx hb dX2_compute_85 rfl (lv_at hl 0 rfl) ?_
            refine va_get (D := D) (ci := 2) (v := .ref h3) (C := RX2) (T := TX2) (N := 3) hx hb hts hi2 hown hK hP 0 rfl rfl 2 (by decide) hk2 (fun _ h9 => h9) rfl dX2_compute_86 ?_
            refine sp_callv (sp_runV (As := []) (rest := []) C (c_X1_becomeAny l D h3 ((f_X1_settle (f_X2_shift (f_X1_become n0 n3) (f_X1_become n1 n4) (f_X1_becomeAny n2) p1 p4)).1)) (cwV 0 hts (gV wG_c wm_243 wm_244 wm_245 wm_31 wm_242) rfl rfl rfl (by decide +kernel) ⟨Nat.le_of_ble_eq_true rfl, Nat.le_of_ble_eq_true rfl⟩) hK hP hD [3] (by decide) rfl [] rfl 0 1 rfl rfl rfl rfl hl.1 rfl (Nat.le_of_ble_eq_true rfl) dX2_compute_89 ⟨Nat.le_of_ble_eq_true rfl, Nat.le_of_ble_eq_true rfl⟩) hP hD hS hA [3] rfl (sp_fc sp_f0) (fun H locs hP hD hS => ?_)
            have hP : va_P D vwCl ([(h0, .inr (2, [.ref h1, .ref h2, .ref h3])), (h1, .inr (1, nm_fs (f_X1_become n0 n3))), (h2, .inr (1, nm_fs (f_X1_become n1 n4))), (h3, .inr (1, nm_fs (f_X1_becomeAny ((f_X1_settle (f_X2_shift (f_X1_become n0 n3) (f_X1_become n1 n4) (f_X1_becomeAny n2) p1 p4)).1)))), (h4, .inr (1, nm_fs n3)), (h5, .inr (1, nm_fs n4))]) H := hP
            have hD : va_D A ([(h0, .inr (2, [.ref h1, .ref h2, .ref h3])), (h1, .inr (1, nm_fs (f_X1_become n0 n3))), (h2, .inr (1, nm_fs (f_X1_become n1 n4))), (h3, .inr (1, nm_fs (f_X1_becomeAny ((f_X1_settle (f_X2_shift (f_X1_become n0 n3) (f_X1_become n1 n4) (f_X1_becomeAny n2) p1 p4)).1)))), (h4, .inr (1, nm_fs n3)), (h5, .inr (1, nm_fs n4))]) := hD
            refine lv_iload hx hb dX2_compute_92 (lv_at hl 4 rfl) ?_
            refine lv_if_eq (tgt := 104) hx hb dX2_compute_94 (by decide) (fun _ => ?_) (fun h9 => absurd c1 h9)
            refine lv_aload_n hx hb dX2_compute_104 rfl (lv_at hl 0 rfl) ?_
            refine va_get (D := D) (ci := 2) (v := .ref h3) (C := RX2) (T := TX2) (N := 3) hx hb hts hi2 hown hK hP 0 rfl rfl 2 (by decide) hk2 (fun _ h9 => h9) rfl dX2_compute_105 ?_
            have e9 : f_X2_compute n0 n1 n2 n3 n4 p1 p4 = ((f_X1_become n0 n3), (f_X1_become n1 n4), (f_X1_becomeAny ((f_X1_settle (f_X2_shift (f_X1_become n0 n3) (f_X1_become n1 n4) (f_X1_becomeAny n2) p1 p4)).1))) := (if_pos c1).trans ((if_neg c2).trans ((if_neg c7).trans ((if_pos c12).trans ((if_pos c18).trans (rfl)))))
            rw [e9]
            exact sp_aret C hAe hP hK hD hS dX2_compute_108
  · refine lv_aload_n hx hb dX2_compute_21 rfl (lv_at hl 0 rfl) ?_
    refine va_get (D := D) (ci := 2) (v := .ref h1) (C := RX2) (T := TX2) (N := 3) hx hb hts hi2 hown hK hP 0 rfl rfl 0 (by decide) hk0 (fun _ h9 => h9) rfl dX2_compute_22 ?_
    refine sp_callv (sp_runV (As := []) (rest := []) C (c_X1_narrow l D h1 (f_X1_become n0 n3)) (cwV 0 hts (gV wG_c wm_256 wm_257 wm_258 wm_31 wm_255) rfl rfl rfl (by decide +kernel) ⟨Nat.le_of_ble_eq_true rfl, Nat.le_of_ble_eq_true rfl⟩) hK hP hD [1] (by decide) rfl [] rfl 0 1 rfl rfl rfl rfl hl.1 rfl (Nat.le_of_ble_eq_true rfl) dX2_compute_25 ⟨Nat.le_of_ble_eq_true rfl, Nat.le_of_ble_eq_true rfl⟩) hP hD hS hA [1] rfl (sp_fc sp_f0) (fun H locs hP hD hS => ?_)
    have hP : va_P D vwCl ([(h0, .inr (2, [.ref h1, .ref h2, .ref h3])), (h1, .inr (1, nm_fs (f_X1_narrow (f_X1_become n0 n3)))), (h2, .inr (1, nm_fs (f_X1_become n1 n4))), (h3, .inr (1, nm_fs n2)), (h4, .inr (1, nm_fs n3)), (h5, .inr (1, nm_fs n4))]) H := hP
    have hD : va_D A ([(h0, .inr (2, [.ref h1, .ref h2, .ref h3])), (h1, .inr (1, nm_fs (f_X1_narrow (f_X1_become n0 n3)))), (h2, .inr (1, nm_fs (f_X1_become n1 n4))), (h3, .inr (1, nm_fs n2)), (h4, .inr (1, nm_fs n3)), (h5, .inr (1, nm_fs n4))]) := hD
    refine lv_aload_n hx hb dX2_compute_28 rfl (lv_at hl 0 rfl) ?_
    refine va_get (D := D) (ci := 2) (v := .ref h2) (C := RX2) (T := TX2) (N := 3) hx hb hts hi2 hown hK hP 0 rfl rfl 1 (by decide) hk1 (fun _ h9 => h9) rfl dX2_compute_29 ?_
    refine sp_callv (sp_runV (As := []) (rest := []) C (c_X1_narrow l D h2 (f_X1_become n1 n4)) (cwV 0 hts (gV wG_c wm_256 wm_257 wm_258 wm_31 wm_255) rfl rfl rfl (by decide +kernel) ⟨Nat.le_of_ble_eq_true rfl, Nat.le_of_ble_eq_true rfl⟩) hK hP hD [2] (by decide) rfl [] rfl 0 1 rfl rfl rfl rfl hl.1 rfl (Nat.le_of_ble_eq_true rfl) dX2_compute_32 ⟨Nat.le_of_ble_eq_true rfl, Nat.le_of_ble_eq_true rfl⟩) hP hD hS hA [2] rfl (sp_fc sp_f0) (fun H locs hP hD hS => ?_)
    have hP : va_P D vwCl ([(h0, .inr (2, [.ref h1, .ref h2, .ref h3])), (h1, .inr (1, nm_fs (f_X1_narrow (f_X1_become n0 n3)))), (h2, .inr (1, nm_fs (f_X1_narrow (f_X1_become n1 n4)))), (h3, .inr (1, nm_fs n2)), (h4, .inr (1, nm_fs n3)), (h5, .inr (1, nm_fs n4))]) H := hP
    have hD : va_D A ([(h0, .inr (2, [.ref h1, .ref h2, .ref h3])), (h1, .inr (1, nm_fs (f_X1_narrow (f_X1_become n0 n3)))), (h2, .inr (1, nm_fs (f_X1_narrow (f_X1_become n1 n4)))), (h3, .inr (1, nm_fs n2)), (h4, .inr (1, nm_fs n3)), (h5, .inr (1, nm_fs n4))]) := hD
    refine lv_aload_n hx hb dX2_compute_35 rfl (lv_at hl 0 rfl) ?_
    refine va_get (D := D) (ci := 2) (v := .ref h3) (C := RX2) (T := TX2) (N := 3) hx hb hts hi2 hown hK hP 0 rfl rfl 2 (by decide) hk2 (fun _ h9 => h9) rfl dX2_compute_36 ?_
    refine sp_callv (sp_runV (As := []) (rest := []) C (c_X1_becomeAny l D h3 n2) (cwV 0 hts (gV wG_c wm_243 wm_244 wm_245 wm_31 wm_242) rfl rfl rfl (by decide +kernel) ⟨Nat.le_of_ble_eq_true rfl, Nat.le_of_ble_eq_true rfl⟩) hK hP hD [3] (by decide) rfl [] rfl 0 1 rfl rfl rfl rfl hl.1 rfl (Nat.le_of_ble_eq_true rfl) dX2_compute_39 ⟨Nat.le_of_ble_eq_true rfl, Nat.le_of_ble_eq_true rfl⟩) hP hD hS hA [3] rfl (sp_fc sp_f0) (fun H locs hP hD hS => ?_)
    have hP : va_P D vwCl ([(h0, .inr (2, [.ref h1, .ref h2, .ref h3])), (h1, .inr (1, nm_fs (f_X1_narrow (f_X1_become n0 n3)))), (h2, .inr (1, nm_fs (f_X1_narrow (f_X1_become n1 n4)))), (h3, .inr (1, nm_fs (f_X1_becomeAny n2))), (h4, .inr (1, nm_fs n3)), (h5, .inr (1, nm_fs n4))]) H := hP
    have hD : va_D A ([(h0, .inr (2, [.ref h1, .ref h2, .ref h3])), (h1, .inr (1, nm_fs (f_X1_narrow (f_X1_become n0 n3)))), (h2, .inr (1, nm_fs (f_X1_narrow (f_X1_become n1 n4)))), (h3, .inr (1, nm_fs (f_X1_becomeAny n2))), (h4, .inr (1, nm_fs n3)), (h5, .inr (1, nm_fs n4))]) := hD
    refine lv_iload_n hx hb dX2_compute_42 rfl (lv_at hl 1 rfl) ?_
    refine lv_bipush (v := 8) hx hb dX2_compute_43 (by decide) ?_
    refine lv_icmp_eq (tgt := 60) hx hb dX2_compute_45 (by decide) (fun c21 => ?_) (fun c21 => ?_)
    · refine lv_aload_n hx hb dX2_compute_60 rfl (lv_at hl 0 rfl) ?_
      refine lv_iload_n hx hb dX2_compute_61 rfl (lv_at hl 1 rfl) ?_
      refine lv_iload hx hb dX2_compute_62 (lv_at hl 4 rfl) ?_
      refine sp_callv (sp_runV (As := [.int p1, .int p4]) (rest := []) C (c_X2_shift l D h0 h1 h2 h3 (f_X1_narrow (f_X1_become n0 n3)) (f_X1_narrow (f_X1_become n1 n4)) (f_X1_becomeAny n2) p1 p4) (cwV 2 hts (gV wG_c wm_247 wm_248 wm_249 wm_122 wm_246) rfl rfl rfl (by decide +kernel) ⟨Nat.le_of_ble_eq_true rfl, Nat.le_of_ble_eq_true rfl⟩) hK hP hD [0, 1, 2, 3] (by decide) rfl [] rfl 0 2 rfl rfl rfl rfl hl.1 rfl (Nat.le_of_ble_eq_true rfl) dX2_compute_64 ⟨Nat.le_of_ble_eq_true rfl, Nat.le_of_ble_eq_true rfl⟩) hP hD hS hA [0, 1, 2, 3] rfl (sp_fc (sp_fc (sp_fc (sp_fc sp_f0)))) (fun H locs hP hD hS => ?_)
      have hP : va_P D vwCl ([(h0, .inr (2, [.ref h1, .ref h2, .ref h3])), (h1, .inr (1, nm_fs (f_X1_narrow (f_X1_become n0 n3)))), (h2, .inr (1, nm_fs (f_X1_narrow (f_X1_become n1 n4)))), (h3, .inr (1, nm_fs (f_X2_shift (f_X1_narrow (f_X1_become n0 n3)) (f_X1_narrow (f_X1_become n1 n4)) (f_X1_becomeAny n2) p1 p4))), (h4, .inr (1, nm_fs n3)), (h5, .inr (1, nm_fs n4))]) H := hP
      have hD : va_D A ([(h0, .inr (2, [.ref h1, .ref h2, .ref h3])), (h1, .inr (1, nm_fs (f_X1_narrow (f_X1_become n0 n3)))), (h2, .inr (1, nm_fs (f_X1_narrow (f_X1_become n1 n4)))), (h3, .inr (1, nm_fs (f_X2_shift (f_X1_narrow (f_X1_become n0 n3)) (f_X1_narrow (f_X1_become n1 n4)) (f_X1_becomeAny n2) p1 p4))), (h4, .inr (1, nm_fs n3)), (h5, .inr (1, nm_fs n4))]) := hD
      refine lv_goto (tgt := 75) hx hb dX2_compute_67 (by decide) ?_
      refine lv_aload_n hx hb dX2_compute_75 rfl (lv_at hl 0 rfl) ?_
      refine va_get (D := D) (ci := 2) (v := .ref h3) (C := RX2) (T := TX2) (N := 3) hx hb hts hi2 hown hK hP 0 rfl rfl 2 (by decide) hk2 (fun _ h9 => h9) rfl dX2_compute_76 ?_
      refine sp_callz (sp_runV (As := []) (rest := []) C (c_X1_settle l D h3 (f_X2_shift (f_X1_narrow (f_X1_become n0 n3)) (f_X1_narrow (f_X1_become n1 n4)) (f_X1_becomeAny n2) p1 p4)) (cwV 0 hts (gV wG_c wm_250 wm_100 wm_101 wm_31 wm_98) rfl rfl rfl (by decide +kernel) ⟨Nat.le_of_ble_eq_true rfl, Nat.le_of_ble_eq_true rfl⟩) hK hP hD [3] (by decide) rfl [] rfl 0 1 rfl rfl rfl rfl hl.1 rfl (Nat.le_of_ble_eq_true rfl) dX2_compute_79 ⟨Nat.le_of_ble_eq_true rfl, Nat.le_of_ble_eq_true rfl⟩) hP hD hS hA [3] rfl (sp_fc sp_f0) (fun H locs z22 hP hD hS => ?_)
      have hP : va_P D vwCl ([(h0, .inr (2, [.ref h1, .ref h2, .ref h3])), (h1, .inr (1, nm_fs (f_X1_narrow (f_X1_become n0 n3)))), (h2, .inr (1, nm_fs (f_X1_narrow (f_X1_become n1 n4)))), (h3, .inr (1, nm_fs ((f_X1_settle (f_X2_shift (f_X1_narrow (f_X1_become n0 n3)) (f_X1_narrow (f_X1_become n1 n4)) (f_X1_becomeAny n2) p1 p4)).1))), (h4, .inr (1, nm_fs n3)), (h5, .inr (1, nm_fs n4))]) H := hP
      have hD : va_D A ([(h0, .inr (2, [.ref h1, .ref h2, .ref h3])), (h1, .inr (1, nm_fs (f_X1_narrow (f_X1_become n0 n3)))), (h2, .inr (1, nm_fs (f_X1_narrow (f_X1_become n1 n4)))), (h3, .inr (1, nm_fs ((f_X1_settle (f_X2_shift (f_X1_narrow (f_X1_become n0 n3)) (f_X1_narrow (f_X1_become n1 n4)) (f_X1_becomeAny n2) p1 p4)).1))), (h4, .inr (1, nm_fs n3)), (h5, .inr (1, nm_fs n4))]) := hD
      refine lv_if_ne (tgt := 92) hx hb dX2_compute_82 (by decide) (fun c23 => ?_) (fun c23 => ?_)
      · refine lv_iload hx hb dX2_compute_92 (lv_at hl 4 rfl) ?_
        refine lv_if_eq (tgt := 104) hx hb dX2_compute_94 (by decide) (fun h9 => absurd h9 c1) (fun _ => ?_)
        refine lv_aload_n hx hb dX2_compute_97 rfl (lv_at hl 0 rfl) ?_
        refine va_get (D := D) (ci := 2) (v := .ref h3) (C := RX2) (T := TX2) (N := 3) hx hb hts hi2 hown hK hP 0 rfl rfl 2 (by decide) hk2 (fun _ h9 => h9) rfl dX2_compute_98 ?_
        refine sp_callv (sp_runV (As := []) (rest := []) C (c_X1_narrow l D h3 ((f_X1_settle (f_X2_shift (f_X1_narrow (f_X1_become n0 n3)) (f_X1_narrow (f_X1_become n1 n4)) (f_X1_becomeAny n2) p1 p4)).1)) (cwV 0 hts (gV wG_c wm_256 wm_257 wm_258 wm_31 wm_255) rfl rfl rfl (by decide +kernel) ⟨Nat.le_of_ble_eq_true rfl, Nat.le_of_ble_eq_true rfl⟩) hK hP hD [3] (by decide) rfl [] rfl 0 1 rfl rfl rfl rfl hl.1 rfl (Nat.le_of_ble_eq_true rfl) dX2_compute_101 ⟨Nat.le_of_ble_eq_true rfl, Nat.le_of_ble_eq_true rfl⟩) hP hD hS hA [3] rfl (sp_fc sp_f0) (fun H locs hP hD hS => ?_)
        have hP : va_P D vwCl ([(h0, .inr (2, [.ref h1, .ref h2, .ref h3])), (h1, .inr (1, nm_fs (f_X1_narrow (f_X1_become n0 n3)))), (h2, .inr (1, nm_fs (f_X1_narrow (f_X1_become n1 n4)))), (h3, .inr (1, nm_fs (f_X1_narrow ((f_X1_settle (f_X2_shift (f_X1_narrow (f_X1_become n0 n3)) (f_X1_narrow (f_X1_become n1 n4)) (f_X1_becomeAny n2) p1 p4)).1)))), (h4, .inr (1, nm_fs n3)), (h5, .inr (1, nm_fs n4))]) H := hP
        have hD : va_D A ([(h0, .inr (2, [.ref h1, .ref h2, .ref h3])), (h1, .inr (1, nm_fs (f_X1_narrow (f_X1_become n0 n3)))), (h2, .inr (1, nm_fs (f_X1_narrow (f_X1_become n1 n4)))), (h3, .inr (1, nm_fs (f_X1_narrow ((f_X1_settle (f_X2_shift (f_X1_narrow (f_X1_become n0 n3)) (f_X1_narrow (f_X1_become n1 n4)) (f_X1_becomeAny n2) p1 p4)).1)))), (h4, .inr (1, nm_fs n3)), (h5, .inr (1, nm_fs n4))]) := hD
        refine lv_aload_n hx hb dX2_compute_104 rfl (lv_at hl 0 rfl) ?_
        refine va_get (D := D) (ci := 2) (v := .ref h3) (C := RX2) (T := TX2) (N := 3) hx hb hts hi2 hown hK hP 0 rfl rfl 2 (by decide) hk2 (fun _ h9 => h9) rfl dX2_compute_105 ?_
        have e9 : f_X2_compute n0 n1 n2 n3 n4 p1 p4 = ((f_X1_narrow (f_X1_become n0 n3)), (f_X1_narrow (f_X1_become n1 n4)), (f_X1_narrow ((f_X1_settle (f_X2_shift (f_X1_narrow (f_X1_become n0 n3)) (f_X1_narrow (f_X1_become n1 n4)) (f_X1_becomeAny n2) p1 p4)).1))) := (if_neg c1).trans ((if_pos c21).trans ((if_neg c23).trans (rfl)))
        rw [e9]
        exact sp_aret C hAe hP hK hD hS dX2_compute_108
      · refine lv_aload_n hx hb dX2_compute_85 rfl (lv_at hl 0 rfl) ?_
        refine va_get (D := D) (ci := 2) (v := .ref h3) (C := RX2) (T := TX2) (N := 3) hx hb hts hi2 hown hK hP 0 rfl rfl 2 (by decide) hk2 (fun _ h9 => h9) rfl dX2_compute_86 ?_
        refine sp_callv (sp_runV (As := []) (rest := []) C (c_X1_becomeAny l D h3 ((f_X1_settle (f_X2_shift (f_X1_narrow (f_X1_become n0 n3)) (f_X1_narrow (f_X1_become n1 n4)) (f_X1_becomeAny n2) p1 p4)).1)) (cwV 0 hts (gV wG_c wm_243 wm_244 wm_245 wm_31 wm_242) rfl rfl rfl (by decide +kernel) ⟨Nat.le_of_ble_eq_true rfl, Nat.le_of_ble_eq_true rfl⟩) hK hP hD [3] (by decide) rfl [] rfl 0 1 rfl rfl rfl rfl hl.1 rfl (Nat.le_of_ble_eq_true rfl) dX2_compute_89 ⟨Nat.le_of_ble_eq_true rfl, Nat.le_of_ble_eq_true rfl⟩) hP hD hS hA [3] rfl (sp_fc sp_f0) (fun H locs hP hD hS => ?_)
        have hP : va_P D vwCl ([(h0, .inr (2, [.ref h1, .ref h2, .ref h3])), (h1, .inr (1, nm_fs (f_X1_narrow (f_X1_become n0 n3)))), (h2, .inr (1, nm_fs (f_X1_narrow (f_X1_become n1 n4)))), (h3, .inr (1, nm_fs (f_X1_becomeAny ((f_X1_settle (f_X2_shift (f_X1_narrow (f_X1_become n0 n3)) (f_X1_narrow (f_X1_become n1 n4)) (f_X1_becomeAny n2) p1 p4)).1)))), (h4, .inr (1, nm_fs n3)), (h5, .inr (1, nm_fs n4))]) H := hP
        have hD : va_D A ([(h0, .inr (2, [.ref h1, .ref h2, .ref h3])), (h1, .inr (1, nm_fs (f_X1_narrow (f_X1_become n0 n3)))), (h2, .inr (1, nm_fs (f_X1_narrow (f_X1_become n1 n4)))), (h3, .inr (1, nm_fs (f_X1_becomeAny ((f_X1_settle (f_X2_shift (f_X1_narrow (f_X1_become n0 n3)) (f_X1_narrow (f_X1_become n1 n4)) (f_X1_becomeAny n2) p1 p4)).1)))), (h4, .inr (1, nm_fs n3)), (h5, .inr (1, nm_fs n4))]) := hD
        refine lv_iload hx hb dX2_compute_92 (lv_at hl 4 rfl) ?_
        refine lv_if_eq (tgt := 104) hx hb dX2_compute_94 (by decide) (fun h9 => absurd h9 c1) (fun _ => ?_)
        refine lv_aload_n hx hb dX2_compute_97 rfl (lv_at hl 0 rfl) ?_
        refine va_get (D := D) (ci := 2) (v := .ref h3) (C := RX2) (T := TX2) (N := 3) hx hb hts hi2 hown hK hP 0 rfl rfl 2 (by decide) hk2 (fun _ h9 => h9) rfl dX2_compute_98 ?_
        refine sp_callv (sp_runV (As := []) (rest := []) C (c_X1_narrow l D h3 (f_X1_becomeAny ((f_X1_settle (f_X2_shift (f_X1_narrow (f_X1_become n0 n3)) (f_X1_narrow (f_X1_become n1 n4)) (f_X1_becomeAny n2) p1 p4)).1))) (cwV 0 hts (gV wG_c wm_256 wm_257 wm_258 wm_31 wm_255) rfl rfl rfl (by decide +kernel) ⟨Nat.le_of_ble_eq_true rfl, Nat.le_of_ble_eq_true rfl⟩) hK hP hD [3] (by decide) rfl [] rfl 0 1 rfl rfl rfl rfl hl.1 rfl (Nat.le_of_ble_eq_true rfl) dX2_compute_101 ⟨Nat.le_of_ble_eq_true rfl, Nat.le_of_ble_eq_true rfl⟩) hP hD hS hA [3] rfl (sp_fc sp_f0) (fun H locs hP hD hS => ?_)
        have hP : va_P D vwCl ([(h0, .inr (2, [.ref h1, .ref h2, .ref h3])), (h1, .inr (1, nm_fs (f_X1_narrow (f_X1_become n0 n3)))), (h2, .inr (1, nm_fs (f_X1_narrow (f_X1_become n1 n4)))), (h3, .inr (1, nm_fs (f_X1_narrow (f_X1_becomeAny ((f_X1_settle (f_X2_shift (f_X1_narrow (f_X1_become n0 n3)) (f_X1_narrow (f_X1_become n1 n4)) (f_X1_becomeAny n2) p1 p4)).1))))), (h4, .inr (1, nm_fs n3)), (h5, .inr (1, nm_fs n4))]) H := hP
        have hD : va_D A ([(h0, .inr (2, [.ref h1, .ref h2, .ref h3])), (h1, .inr (1, nm_fs (f_X1_narrow (f_X1_become n0 n3)))), (h2, .inr (1, nm_fs (f_X1_narrow (f_X1_become n1 n4)))), (h3, .inr (1, nm_fs (f_X1_narrow (f_X1_becomeAny ((f_X1_settle (f_X2_shift (f_X1_narrow (f_X1_become n0 n3)) (f_X1_narrow (f_X1_become n1 n4)) (f_X1_becomeAny n2) p1 p4)).1))))), (h4, .inr (1, nm_fs n3)), (h5, .inr (1, nm_fs n4))]) := hD
        refine lv_aload_n hx hb dX2_compute_104 rfl (lv_at hl 0 rfl) ?_
        refine va_get (D := D) (ci := 2) (v := .ref h3) (C := RX2) (T := TX2) (N := 3) hx hb hts hi2 hown hK hP 0 rfl rfl 2 (by decide) hk2 (fun _ h9 => h9) rfl dX2_compute_105 ?_
        have e9 : f_X2_compute n0 n1 n2 n3 n4 p1 p4 = ((f_X1_narrow (f_X1_become n0 n3)), (f_X1_narrow (f_X1_become n1 n4)), (f_X1_narrow (f_X1_becomeAny ((f_X1_settle (f_X2_shift (f_X1_narrow (f_X1_become n0 n3)) (f_X1_narrow (f_X1_become n1 n4)) (f_X1_becomeAny n2) p1 p4)).1)))) := (if_neg c1).trans ((if_pos c21).trans ((if_pos c23).trans (rfl)))
        rw [e9]
        exact sp_aret C hAe hP hK hD hS dX2_compute_108
    · refine lv_iload_n hx hb dX2_compute_48 rfl (lv_at hl 1 rfl) ?_
      refine lv_bipush (v := 9) hx hb dX2_compute_49 (by decide) ?_
      refine lv_icmp_eq (tgt := 60) hx hb dX2_compute_51 (by decide) (fun c26 => ?_) (fun c26 => ?_)
      · refine lv_aload_n hx hb dX2_compute_60 rfl (lv_at hl 0 rfl) ?_
        refine lv_iload_n hx hb dX2_compute_61 rfl (lv_at hl 1 rfl) ?_
        refine lv_iload hx hb dX2_compute_62 (lv_at hl 4 rfl) ?_
        refine sp_callv (sp_runV (As := [.int p1, .int p4]) (rest := []) C (c_X2_shift l D h0 h1 h2 h3 (f_X1_narrow (f_X1_become n0 n3)) (f_X1_narrow (f_X1_become n1 n4)) (f_X1_becomeAny n2) p1 p4) (cwV 2 hts (gV wG_c wm_247 wm_248 wm_249 wm_122 wm_246) rfl rfl rfl (by decide +kernel) ⟨Nat.le_of_ble_eq_true rfl, Nat.le_of_ble_eq_true rfl⟩) hK hP hD [0, 1, 2, 3] (by decide) rfl [] rfl 0 2 rfl rfl rfl rfl hl.1 rfl (Nat.le_of_ble_eq_true rfl) dX2_compute_64 ⟨Nat.le_of_ble_eq_true rfl, Nat.le_of_ble_eq_true rfl⟩) hP hD hS hA [0, 1, 2, 3] rfl (sp_fc (sp_fc (sp_fc (sp_fc sp_f0)))) (fun H locs hP hD hS => ?_)
        have hP : va_P D vwCl ([(h0, .inr (2, [.ref h1, .ref h2, .ref h3])), (h1, .inr (1, nm_fs (f_X1_narrow (f_X1_become n0 n3)))), (h2, .inr (1, nm_fs (f_X1_narrow (f_X1_become n1 n4)))), (h3, .inr (1, nm_fs (f_X2_shift (f_X1_narrow (f_X1_become n0 n3)) (f_X1_narrow (f_X1_become n1 n4)) (f_X1_becomeAny n2) p1 p4))), (h4, .inr (1, nm_fs n3)), (h5, .inr (1, nm_fs n4))]) H := hP
        have hD : va_D A ([(h0, .inr (2, [.ref h1, .ref h2, .ref h3])), (h1, .inr (1, nm_fs (f_X1_narrow (f_X1_become n0 n3)))), (h2, .inr (1, nm_fs (f_X1_narrow (f_X1_become n1 n4)))), (h3, .inr (1, nm_fs (f_X2_shift (f_X1_narrow (f_X1_become n0 n3)) (f_X1_narrow (f_X1_become n1 n4)) (f_X1_becomeAny n2) p1 p4))), (h4, .inr (1, nm_fs n3)), (h5, .inr (1, nm_fs n4))]) := hD
        refine lv_goto (tgt := 75) hx hb dX2_compute_67 (by decide) ?_
        refine lv_aload_n hx hb dX2_compute_75 rfl (lv_at hl 0 rfl) ?_
        refine va_get (D := D) (ci := 2) (v := .ref h3) (C := RX2) (T := TX2) (N := 3) hx hb hts hi2 hown hK hP 0 rfl rfl 2 (by decide) hk2 (fun _ h9 => h9) rfl dX2_compute_76 ?_
        refine sp_callz (sp_runV (As := []) (rest := []) C (c_X1_settle l D h3 (f_X2_shift (f_X1_narrow (f_X1_become n0 n3)) (f_X1_narrow (f_X1_become n1 n4)) (f_X1_becomeAny n2) p1 p4)) (cwV 0 hts (gV wG_c wm_250 wm_100 wm_101 wm_31 wm_98) rfl rfl rfl (by decide +kernel) ⟨Nat.le_of_ble_eq_true rfl, Nat.le_of_ble_eq_true rfl⟩) hK hP hD [3] (by decide) rfl [] rfl 0 1 rfl rfl rfl rfl hl.1 rfl (Nat.le_of_ble_eq_true rfl) dX2_compute_79 ⟨Nat.le_of_ble_eq_true rfl, Nat.le_of_ble_eq_true rfl⟩) hP hD hS hA [3] rfl (sp_fc sp_f0) (fun H locs z27 hP hD hS => ?_)
        have hP : va_P D vwCl ([(h0, .inr (2, [.ref h1, .ref h2, .ref h3])), (h1, .inr (1, nm_fs (f_X1_narrow (f_X1_become n0 n3)))), (h2, .inr (1, nm_fs (f_X1_narrow (f_X1_become n1 n4)))), (h3, .inr (1, nm_fs ((f_X1_settle (f_X2_shift (f_X1_narrow (f_X1_become n0 n3)) (f_X1_narrow (f_X1_become n1 n4)) (f_X1_becomeAny n2) p1 p4)).1))), (h4, .inr (1, nm_fs n3)), (h5, .inr (1, nm_fs n4))]) H := hP
        have hD : va_D A ([(h0, .inr (2, [.ref h1, .ref h2, .ref h3])), (h1, .inr (1, nm_fs (f_X1_narrow (f_X1_become n0 n3)))), (h2, .inr (1, nm_fs (f_X1_narrow (f_X1_become n1 n4)))), (h3, .inr (1, nm_fs ((f_X1_settle (f_X2_shift (f_X1_narrow (f_X1_become n0 n3)) (f_X1_narrow (f_X1_become n1 n4)) (f_X1_becomeAny n2) p1 p4)).1))), (h4, .inr (1, nm_fs n3)), (h5, .inr (1, nm_fs n4))]) := hD
        refine lv_if_ne (tgt := 92) hx hb dX2_compute_82 (by decide) (fun c28 => ?_) (fun c28 => ?_)
        · refine lv_iload hx hb dX2_compute_92 (lv_at hl 4 rfl) ?_
          refine lv_if_eq (tgt := 104) hx hb dX2_compute_94 (by decide) (fun h9 => absurd h9 c1) (fun _ => ?_)
          refine lv_aload_n hx hb dX2_compute_97 rfl (lv_at hl 0 rfl) ?_
          refine va_get (D := D) (ci := 2) (v := .ref h3) (C := RX2) (T := TX2) (N := 3) hx hb hts hi2 hown hK hP 0 rfl rfl 2 (by decide) hk2 (fun _ h9 => h9) rfl dX2_compute_98 ?_
          refine sp_callv (sp_runV (As := []) (rest := []) C (c_X1_narrow l D h3 ((f_X1_settle (f_X2_shift (f_X1_narrow (f_X1_become n0 n3)) (f_X1_narrow (f_X1_become n1 n4)) (f_X1_becomeAny n2) p1 p4)).1)) (cwV 0 hts (gV wG_c wm_256 wm_257 wm_258 wm_31 wm_255) rfl rfl rfl (by decide +kernel) ⟨Nat.le_of_ble_eq_true rfl, Nat.le_of_ble_eq_true rfl⟩) hK hP hD [3] (by decide) rfl [] rfl 0 1 rfl rfl rfl rfl hl.1 rfl (Nat.le_of_ble_eq_true rfl) dX2_compute_101 ⟨Nat.le_of_ble_eq_true rfl, Nat.le_of_ble_eq_true rfl⟩) hP hD hS hA [3] rfl (sp_fc sp_f0) (fun H locs hP hD hS => ?_)
          have hP : va_P D vwCl ([(h0, .inr (2, [.ref h1, .ref h2, .ref h3])), (h1, .inr (1, nm_fs (f_X1_narrow (f_X1_become n0 n3)))), (h2, .inr (1, nm_fs (f_X1_narrow (f_X1_become n1 n4)))), (h3, .inr (1, nm_fs (f_X1_narrow ((f_X1_settle (f_X2_shift (f_X1_narrow (f_X1_become n0 n3)) (f_X1_narrow (f_X1_become n1 n4)) (f_X1_becomeAny n2) p1 p4)).1)))), (h4, .inr (1, nm_fs n3)), (h5, .inr (1, nm_fs n4))]) H := hP
          have hD : va_D A ([(h0, .inr (2, [.ref h1, .ref h2, .ref h3])), (h1, .inr (1, nm_fs (f_X1_narrow (f_X1_become n0 n3)))), (h2, .inr (1, nm_fs (f_X1_narrow (f_X1_become n1 n4)))), (h3, .inr (1, nm_fs (f_X1_narrow ((f_X1_settle (f_X2_shift (f_X1_narrow (f_X1_become n0 n3)) (f_X1_narrow (f_X1_become n1 n4)) (f_X1_becomeAny n2) p1 p4)).1)))), (h4, .inr (1, nm_fs n3)), (h5, .inr (1, nm_fs n4))]) := hD
          refine lv_aload_n hx hb dX2_compute_104 rfl (lv_at hl 0 rfl) ?_
          refine va_get (D := D) (ci := 2) (v := .ref h3) (C := RX2) (T := TX2) (N := 3) hx hb hts hi2 hown hK hP 0 rfl rfl 2 (by decide) hk2 (fun _ h9 => h9) rfl dX2_compute_105 ?_
          have e9 : f_X2_compute n0 n1 n2 n3 n4 p1 p4 = ((f_X1_narrow (f_X1_become n0 n3)), (f_X1_narrow (f_X1_become n1 n4)), (f_X1_narrow ((f_X1_settle (f_X2_shift (f_X1_narrow (f_X1_become n0 n3)) (f_X1_narrow (f_X1_become n1 n4)) (f_X1_becomeAny n2) p1 p4)).1))) := (if_neg c1).trans ((if_neg c21).trans ((if_pos c26).trans ((if_neg c28).trans (rfl))))
          rw [e9]
          exact sp_aret C hAe hP hK hD hS dX2_compute_108
        · refine lv_aload_n hx hb dX2_compute_85 rfl (lv_at hl 0 rfl) ?_
          refine va_get (D := D) (ci := 2) (v := .ref h3) (C := RX2) (T := TX2) (N := 3) hx hb hts hi2 hown hK hP 0 rfl rfl 2 (by decide) hk2 (fun _ h9 => h9) rfl dX2_compute_86 ?_
          refine sp_callv (sp_runV (As := []) (rest := []) C (c_X1_becomeAny l D h3 ((f_X1_settle (f_X2_shift (f_X1_narrow (f_X1_become n0 n3)) (f_X1_narrow (f_X1_become n1 n4)) (f_X1_becomeAny n2) p1 p4)).1)) (cwV 0 hts (gV wG_c wm_243 wm_244 wm_245 wm_31 wm_242) rfl rfl rfl (by decide +kernel) ⟨Nat.le_of_ble_eq_true rfl, Nat.le_of_ble_eq_true rfl⟩) hK hP hD [3] (by decide) rfl [] rfl 0 1 rfl rfl rfl rfl hl.1 rfl (Nat.le_of_ble_eq_true rfl) dX2_compute_89 ⟨Nat.le_of_ble_eq_true rfl, Nat.le_of_ble_eq_true rfl⟩) hP hD hS hA [3] rfl (sp_fc sp_f0) (fun H locs hP hD hS => ?_)
          have hP : va_P D vwCl ([(h0, .inr (2, [.ref h1, .ref h2, .ref h3])), (h1, .inr (1, nm_fs (f_X1_narrow (f_X1_become n0 n3)))), (h2, .inr (1, nm_fs (f_X1_narrow (f_X1_become n1 n4)))), (h3, .inr (1, nm_fs (f_X1_becomeAny ((f_X1_settle (f_X2_shift (f_X1_narrow (f_X1_become n0 n3)) (f_X1_narrow (f_X1_become n1 n4)) (f_X1_becomeAny n2) p1 p4)).1)))), (h4, .inr (1, nm_fs n3)), (h5, .inr (1, nm_fs n4))]) H := hP
          have hD : va_D A ([(h0, .inr (2, [.ref h1, .ref h2, .ref h3])), (h1, .inr (1, nm_fs (f_X1_narrow (f_X1_become n0 n3)))), (h2, .inr (1, nm_fs (f_X1_narrow (f_X1_become n1 n4)))), (h3, .inr (1, nm_fs (f_X1_becomeAny ((f_X1_settle (f_X2_shift (f_X1_narrow (f_X1_become n0 n3)) (f_X1_narrow (f_X1_become n1 n4)) (f_X1_becomeAny n2) p1 p4)).1)))), (h4, .inr (1, nm_fs n3)), (h5, .inr (1, nm_fs n4))]) := hD
          refine lv_iload hx hb dX2_compute_92 (lv_at hl 4 rfl) ?_
          refine lv_if_eq (tgt := 104) hx hb dX2_compute_94 (by decide) (fun h9 => absurd h9 c1) (fun _ => ?_)
          refine lv_aload_n hx hb dX2_compute_97 rfl (lv_at hl 0 rfl) ?_
          refine va_get (D := D) (ci := 2) (v := .ref h3) (C := RX2) (T := TX2) (N := 3) hx hb hts hi2 hown hK hP 0 rfl rfl 2 (by decide) hk2 (fun _ h9 => h9) rfl dX2_compute_98 ?_
          refine sp_callv (sp_runV (As := []) (rest := []) C (c_X1_narrow l D h3 (f_X1_becomeAny ((f_X1_settle (f_X2_shift (f_X1_narrow (f_X1_become n0 n3)) (f_X1_narrow (f_X1_become n1 n4)) (f_X1_becomeAny n2) p1 p4)).1))) (cwV 0 hts (gV wG_c wm_256 wm_257 wm_258 wm_31 wm_255) rfl rfl rfl (by decide +kernel) ⟨Nat.le_of_ble_eq_true rfl, Nat.le_of_ble_eq_true rfl⟩) hK hP hD [3] (by decide) rfl [] rfl 0 1 rfl rfl rfl rfl hl.1 rfl (Nat.le_of_ble_eq_true rfl) dX2_compute_101 ⟨Nat.le_of_ble_eq_true rfl, Nat.le_of_ble_eq_true rfl⟩) hP hD hS hA [3] rfl (sp_fc sp_f0) (fun H locs hP hD hS => ?_)
          have hP : va_P D vwCl ([(h0, .inr (2, [.ref h1, .ref h2, .ref h3])), (h1, .inr (1, nm_fs (f_X1_narrow (f_X1_become n0 n3)))), (h2, .inr (1, nm_fs (f_X1_narrow (f_X1_become n1 n4)))), (h3, .inr (1, nm_fs (f_X1_narrow (f_X1_becomeAny ((f_X1_settle (f_X2_shift (f_X1_narrow (f_X1_become n0 n3)) (f_X1_narrow (f_X1_become n1 n4)) (f_X1_becomeAny n2) p1 p4)).1))))), (h4, .inr (1, nm_fs n3)), (h5, .inr (1, nm_fs n4))]) H := hP
          have hD : va_D A ([(h0, .inr (2, [.ref h1, .ref h2, .ref h3])), (h1, .inr (1, nm_fs (f_X1_narrow (f_X1_become n0 n3)))), (h2, .inr (1, nm_fs (f_X1_narrow (f_X1_become n1 n4)))), (h3, .inr (1, nm_fs (f_X1_narrow (f_X1_becomeAny ((f_X1_settle (f_X2_shift (f_X1_narrow (f_X1_become n0 n3)) (f_X1_narrow (f_X1_become n1 n4)) (f_X1_becomeAny n2) p1 p4)).1))))), (h4, .inr (1, nm_fs n3)), (h5, .inr (1, nm_fs n4))]) := hD
          refine lv_aload_n hx hb dX2_compute_104 rfl (lv_at hl 0 rfl) ?_
          refine va_get (D := D) (ci := 2) (v := .ref h3) (C := RX2) (T := TX2) (N := 3) hx hb hts hi2 hown hK hP 0 rfl rfl 2 (by decide) hk2 (fun _ h9 => h9) rfl dX2_compute_105 ?_
          have e9 : f_X2_compute n0 n1 n2 n3 n4 p1 p4 = ((f_X1_narrow (f_X1_become n0 n3)), (f_X1_narrow (f_X1_become n1 n4)), (f_X1_narrow (f_X1_becomeAny ((f_X1_settle (f_X2_shift (f_X1_narrow (f_X1_become n0 n3)) (f_X1_narrow (f_X1_become n1 n4)) (f_X1_becomeAny n2) p1 p4)).1)))) := (if_neg c1).trans ((if_neg c21).trans ((if_pos c26).trans ((if_pos c28).trans (rfl))))
          rw [e9]
          exact sp_aret C hAe hP hK hD hS dX2_compute_108
      · refine lv_iload_n hx hb dX2_compute_54 rfl (lv_at hl 1 rfl) ?_
        refine lv_bipush (v := 10) hx hb dX2_compute_55 (by decide) ?_
        refine lv_icmp_ne (tgt := 70) hx hb dX2_compute_57 (by decide) (fun c31 => ?_) (fun c31 => ?_)
        · refine lv_aload_n hx hb dX2_compute_70 rfl (lv_at hl 0 rfl) ?_
          refine lv_iload_n hx hb dX2_compute_71 rfl (lv_at hl 1 rfl) ?_
          refine sp_callv (sp_runV (As := [.int p1]) (rest := []) C (c_X2_apply l D h0 h1 h2 h3 (f_X1_narrow (f_X1_become n0 n3)) (f_X1_narrow (f_X1_become n1 n4)) (f_X1_becomeAny n2) p1) (cwV 1 hts (gV wG_c wm_252 wm_253 wm_254 wm_122 wm_251) rfl rfl rfl (by decide +kernel) ⟨Nat.le_of_ble_eq_true rfl, Nat.le_of_ble_eq_true rfl⟩) hK hP hD [0, 1, 2, 3] (by decide) rfl [] rfl 0 2 rfl rfl rfl rfl hl.1 rfl (Nat.le_of_ble_eq_true rfl) dX2_compute_72 ⟨Nat.le_of_ble_eq_true rfl, Nat.le_of_ble_eq_true rfl⟩) hP hD hS hA [0, 1, 2, 3] rfl (sp_fc (sp_fc (sp_fc (sp_fc sp_f0)))) (fun H locs hP hD hS => ?_)
          have hP : va_P D vwCl ([(h0, .inr (2, [.ref h1, .ref h2, .ref h3])), (h1, .inr (1, nm_fs ((f_X2_apply (f_X1_narrow (f_X1_become n0 n3)) (f_X1_narrow (f_X1_become n1 n4)) (f_X1_becomeAny n2) p1).1))), (h2, .inr (1, nm_fs ((f_X2_apply (f_X1_narrow (f_X1_become n0 n3)) (f_X1_narrow (f_X1_become n1 n4)) (f_X1_becomeAny n2) p1).2.1))), (h3, .inr (1, nm_fs ((f_X2_apply (f_X1_narrow (f_X1_become n0 n3)) (f_X1_narrow (f_X1_become n1 n4)) (f_X1_becomeAny n2) p1).2.2))), (h4, .inr (1, nm_fs n3)), (h5, .inr (1, nm_fs n4))]) H := hP
          have hD : va_D A ([(h0, .inr (2, [.ref h1, .ref h2, .ref h3])), (h1, .inr (1, nm_fs ((f_X2_apply (f_X1_narrow (f_X1_become n0 n3)) (f_X1_narrow (f_X1_become n1 n4)) (f_X1_becomeAny n2) p1).1))), (h2, .inr (1, nm_fs ((f_X2_apply (f_X1_narrow (f_X1_become n0 n3)) (f_X1_narrow (f_X1_become n1 n4)) (f_X1_becomeAny n2) p1).2.1))), (h3, .inr (1, nm_fs ((f_X2_apply (f_X1_narrow (f_X1_become n0 n3)) (f_X1_narrow (f_X1_become n1 n4)) (f_X1_becomeAny n2) p1).2.2))), (h4, .inr (1, nm_fs n3)), (h5, .inr (1, nm_fs n4))]) := hD
          refine lv_aload_n hx hb dX2_compute_75 rfl (lv_at hl 0 rfl) ?_
          refine va_get (D := D) (ci := 2) (v := .ref h3) (C := RX2) (T := TX2) (N := 3) hx hb hts hi2 hown hK hP 0 rfl rfl 2 (by decide) hk2 (fun _ h9 => h9) rfl dX2_compute_76 ?_
          refine sp_callz (sp_runV (As := []) (rest := []) C (c_X1_settle l D h3 ((f_X2_apply (f_X1_narrow (f_X1_become n0 n3)) (f_X1_narrow (f_X1_become n1 n4)) (f_X1_becomeAny n2) p1).2.2)) (cwV 0 hts (gV wG_c wm_250 wm_100 wm_101 wm_31 wm_98) rfl rfl rfl (by decide +kernel) ⟨Nat.le_of_ble_eq_true rfl, Nat.le_of_ble_eq_true rfl⟩) hK hP hD [3] (by decide) rfl [] rfl 0 1 rfl rfl rfl rfl hl.1 rfl (Nat.le_of_ble_eq_true rfl) dX2_compute_79 ⟨Nat.le_of_ble_eq_true rfl, Nat.le_of_ble_eq_true rfl⟩) hP hD hS hA [3] rfl (sp_fc sp_f0) (fun H locs z32 hP hD hS => ?_)
          have hP : va_P D vwCl ([(h0, .inr (2, [.ref h1, .ref h2, .ref h3])), (h1, .inr (1, nm_fs ((f_X2_apply (f_X1_narrow (f_X1_become n0 n3)) (f_X1_narrow (f_X1_become n1 n4)) (f_X1_becomeAny n2) p1).1))), (h2, .inr (1, nm_fs ((f_X2_apply (f_X1_narrow (f_X1_become n0 n3)) (f_X1_narrow (f_X1_become n1 n4)) (f_X1_becomeAny n2) p1).2.1))), (h3, .inr (1, nm_fs ((f_X1_settle ((f_X2_apply (f_X1_narrow (f_X1_become n0 n3)) (f_X1_narrow (f_X1_become n1 n4)) (f_X1_becomeAny n2) p1).2.2)).1))), (h4, .inr (1, nm_fs n3)), (h5, .inr (1, nm_fs n4))]) H := hP
          have hD : va_D A ([(h0, .inr (2, [.ref h1, .ref h2, .ref h3])), (h1, .inr (1, nm_fs ((f_X2_apply (f_X1_narrow (f_X1_become n0 n3)) (f_X1_narrow (f_X1_become n1 n4)) (f_X1_becomeAny n2) p1).1))), (h2, .inr (1, nm_fs ((f_X2_apply (f_X1_narrow (f_X1_become n0 n3)) (f_X1_narrow (f_X1_become n1 n4)) (f_X1_becomeAny n2) p1).2.1))), (h3, .inr (1, nm_fs ((f_X1_settle ((f_X2_apply (f_X1_narrow (f_X1_become n0 n3)) (f_X1_narrow (f_X1_become n1 n4)) (f_X1_becomeAny n2) p1).2.2)).1))), (h4, .inr (1, nm_fs n3)), (h5, .inr (1, nm_fs n4))]) := hD
          refine lv_if_ne (tgt := 92) hx hb dX2_compute_82 (by decide) (fun c33 => ?_) (fun c33 => ?_)
          · refine lv_iload hx hb dX2_compute_92 (lv_at hl 4 rfl) ?_
            refine lv_if_eq (tgt := 104) hx hb dX2_compute_94 (by decide) (fun h9 => absurd h9 c1) (fun _ => ?_)
            refine lv_aload_n hx hb dX2_compute_97 rfl (lv_at hl 0 rfl) ?_
            refine va_get (D := D) (ci := 2) (v := .ref h3) (C := RX2) (T := TX2) (N := 3) hx hb hts hi2 hown hK hP 0 rfl rfl 2 (by decide) hk2 (fun _ h9 => h9) rfl dX2_compute_98 ?_
            refine sp_callv (sp_runV (As := []) (rest := []) C (c_X1_narrow l D h3 ((f_X1_settle ((f_X2_apply (f_X1_narrow (f_X1_become n0 n3)) (f_X1_narrow (f_X1_become n1 n4)) (f_X1_becomeAny n2) p1).2.2)).1)) (cwV 0 hts (gV wG_c wm_256 wm_257 wm_258 wm_31 wm_255) rfl rfl rfl (by decide +kernel) ⟨Nat.le_of_ble_eq_true rfl, Nat.le_of_ble_eq_true rfl⟩) hK hP hD [3] (by decide) rfl [] rfl 0 1 rfl rfl rfl rfl hl.1 rfl (Nat.le_of_ble_eq_true rfl) dX2_compute_101 ⟨Nat.le_of_ble_eq_true rfl, Nat.le_of_ble_eq_true rfl⟩) hP hD hS hA [3] rfl (sp_fc sp_f0) (fun H locs hP hD hS => ?_)
            have hP : va_P D vwCl ([(h0, .inr (2, [.ref h1, .ref h2, .ref h3])), (h1, .inr (1, nm_fs ((f_X2_apply (f_X1_narrow (f_X1_become n0 n3)) (f_X1_narrow (f_X1_become n1 n4)) (f_X1_becomeAny n2) p1).1))), (h2, .inr (1, nm_fs ((f_X2_apply (f_X1_narrow (f_X1_become n0 n3)) (f_X1_narrow (f_X1_become n1 n4)) (f_X1_becomeAny n2) p1).2.1))), (h3, .inr (1, nm_fs (f_X1_narrow ((f_X1_settle ((f_X2_apply (f_X1_narrow (f_X1_become n0 n3)) (f_X1_narrow (f_X1_become n1 n4)) (f_X1_becomeAny n2) p1).2.2)).1)))), (h4, .inr (1, nm_fs n3)), (h5, .inr (1, nm_fs n4))]) H := hP
            have hD : va_D A ([(h0, .inr (2, [.ref h1, .ref h2, .ref h3])), (h1, .inr (1, nm_fs ((f_X2_apply (f_X1_narrow (f_X1_become n0 n3)) (f_X1_narrow (f_X1_become n1 n4)) (f_X1_becomeAny n2) p1).1))), (h2, .inr (1, nm_fs ((f_X2_apply (f_X1_narrow (f_X1_become n0 n3)) (f_X1_narrow (f_X1_become n1 n4)) (f_X1_becomeAny n2) p1).2.1))), (h3, .inr (1, nm_fs (f_X1_narrow ((f_X1_settle ((f_X2_apply (f_X1_narrow (f_X1_become n0 n3)) (f_X1_narrow (f_X1_become n1 n4)) (f_X1_becomeAny n2) p1).2.2)).1)))), (h4, .inr (1, nm_fs n3)), (h5, .inr (1, nm_fs n4))]) := hD
            refine lv_aload_n hx hb dX2_compute_104 rfl (lv_at hl 0 rfl) ?_
            refine va_get (D := D) (ci := 2) (v := .ref h3) (C := RX2) (T := TX2) (N := 3) hx hb hts hi2 hown hK hP 0 rfl rfl 2 (by decide) hk2 (fun _ h9 => h9) rfl dX2_compute_105 ?_
            have e9 : f_X2_compute n0 n1 n2 n3 n4 p1 p4 = (((f_X2_apply (f_X1_narrow (f_X1_become n0 n3)) (f_X1_narrow (f_X1_become n1 n4)) (f_X1_becomeAny n2) p1).1), ((f_X2_apply (f_X1_narrow (f_X1_become n0 n3)) (f_X1_narrow (f_X1_become n1 n4)) (f_X1_becomeAny n2) p1).2.1), (f_X1_narrow ((f_X1_settle ((f_X2_apply (f_X1_narrow (f_X1_become n0 n3)) (f_X1_narrow (f_X1_become n1 n4)) (f_X1_becomeAny n2) p1).2.2)).1))) := (if_neg c1).trans ((if_neg c21).trans ((if_neg c26).trans ((if_neg c31).trans ((if_neg c33).trans (rfl)))))
            rw [e9]
            exact sp_aret C hAe hP hK hD hS dX2_compute_108
          · refine lv_aload_n hx hb dX2_compute_85 rfl (lv_at hl 0 rfl) ?_
            refine va_get (D := D) (ci := 2) (v := .ref h3) (C := RX2) (T := TX2) (N := 3) hx hb hts hi2 hown hK hP 0 rfl rfl 2 (by decide) hk2 (fun _ h9 => h9) rfl dX2_compute_86 ?_
            refine sp_callv (sp_runV (As := []) (rest := []) C (c_X1_becomeAny l D h3 ((f_X1_settle ((f_X2_apply (f_X1_narrow (f_X1_become n0 n3)) (f_X1_narrow (f_X1_become n1 n4)) (f_X1_becomeAny n2) p1).2.2)).1)) (cwV 0 hts (gV wG_c wm_243 wm_244 wm_245 wm_31 wm_242) rfl rfl rfl (by decide +kernel) ⟨Nat.le_of_ble_eq_true rfl, Nat.le_of_ble_eq_true rfl⟩) hK hP hD [3] (by decide) rfl [] rfl 0 1 rfl rfl rfl rfl hl.1 rfl (Nat.le_of_ble_eq_true rfl) dX2_compute_89 ⟨Nat.le_of_ble_eq_true rfl, Nat.le_of_ble_eq_true rfl⟩) hP hD hS hA [3] rfl (sp_fc sp_f0) (fun H locs hP hD hS => ?_)
            have hP : va_P D vwCl ([(h0, .inr (2, [.ref h1, .ref h2, .ref h3])), (h1, .inr (1, nm_fs ((f_X2_apply (f_X1_narrow (f_X1_become n0 n3)) (f_X1_narrow (f_X1_become n1 n4)) (f_X1_becomeAny n2) p1).1))), (h2, .inr (1, nm_fs ((f_X2_apply (f_X1_narrow (f_X1_become n0 n3)) (f_X1_narrow (f_X1_become n1 n4)) (f_X1_becomeAny n2) p1).2.1))), (h3, .inr (1, nm_fs (f_X1_becomeAny ((f_X1_settle ((f_X2_apply (f_X1_narrow (f_X1_become n0 n3)) (f_X1_narrow (f_X1_become n1 n4)) (f_X1_becomeAny n2) p1).2.2)).1)))), (h4, .inr (1, nm_fs n3)), (h5, .inr (1, nm_fs n4))]) H := hP
            have hD : va_D A ([(h0, .inr (2, [.ref h1, .ref h2, .ref h3])), (h1, .inr (1, nm_fs ((f_X2_apply (f_X1_narrow (f_X1_become n0 n3)) (f_X1_narrow (f_X1_become n1 n4)) (f_X1_becomeAny n2) p1).1))), (h2, .inr (1, nm_fs ((f_X2_apply (f_X1_narrow (f_X1_become n0 n3)) (f_X1_narrow (f_X1_become n1 n4)) (f_X1_becomeAny n2) p1).2.1))), (h3, .inr (1, nm_fs (f_X1_becomeAny ((f_X1_settle ((f_X2_apply (f_X1_narrow (f_X1_become n0 n3)) (f_X1_narrow (f_X1_become n1 n4)) (f_X1_becomeAny n2) p1).2.2)).1)))), (h4, .inr (1, nm_fs n3)), (h5, .inr (1, nm_fs n4))]) := hD
            refine lv_iload hx hb dX2_compute_92 (lv_at hl 4 rfl) ?_
            refine lv_if_eq (tgt := 104) hx hb dX2_compute_94 (by decide) (fun h9 => absurd h9 c1) (fun _ => ?_)
            refine lv_aload_n hx hb dX2_compute_97 rfl (lv_at hl 0 rfl) ?_
            refine va_get (D := D) (ci := 2) (v := .ref h3) (C := RX2) (T := TX2) (N := 3) hx hb hts hi2 hown hK hP 0 rfl rfl 2 (by decide) hk2 (fun _ h9 => h9) rfl dX2_compute_98 ?_
            refine sp_callv (sp_runV (As := []) (rest := []) C (c_X1_narrow l D h3 (f_X1_becomeAny ((f_X1_settle ((f_X2_apply (f_X1_narrow (f_X1_become n0 n3)) (f_X1_narrow (f_X1_become n1 n4)) (f_X1_becomeAny n2) p1).2.2)).1))) (cwV 0 hts (gV wG_c wm_256 wm_257 wm_258 wm_31 wm_255) rfl rfl rfl (by decide +kernel) ⟨Nat.le_of_ble_eq_true rfl, Nat.le_of_ble_eq_true rfl⟩) hK hP hD [3] (by decide) rfl [] rfl 0 1 rfl rfl rfl rfl hl.1 rfl (Nat.le_of_ble_eq_true rfl) dX2_compute_101 ⟨Nat.le_of_ble_eq_true rfl, Nat.le_of_ble_eq_true rfl⟩) hP hD hS hA [3] rfl (sp_fc sp_f0) (fun H locs hP hD hS => ?_)
            have hP : va_P D vwCl ([(h0, .inr (2, [.ref h1, .ref h2, .ref h3])), (h1, .inr (1, nm_fs ((f_X2_apply (f_X1_narrow (f_X1_become n0 n3)) (f_X1_narrow (f_X1_become n1 n4)) (f_X1_becomeAny n2) p1).1))), (h2, .inr (1, nm_fs ((f_X2_apply (f_X1_narrow (f_X1_become n0 n3)) (f_X1_narrow (f_X1_become n1 n4)) (f_X1_becomeAny n2) p1).2.1))), (h3, .inr (1, nm_fs (f_X1_narrow (f_X1_becomeAny ((f_X1_settle ((f_X2_apply (f_X1_narrow (f_X1_become n0 n3)) (f_X1_narrow (f_X1_become n1 n4)) (f_X1_becomeAny n2) p1).2.2)).1))))), (h4, .inr (1, nm_fs n3)), (h5, .inr (1, nm_fs n4))]) H := hP
            have hD : va_D A ([(h0, .inr (2, [.ref h1, .ref h2, .ref h3])), (h1, .inr (1, nm_fs ((f_X2_apply (f_X1_narrow (f_X1_become n0 n3)) (f_X1_narrow (f_X1_become n1 n4)) (f_X1_becomeAny n2) p1).1))), (h2, .inr (1, nm_fs ((f_X2_apply (f_X1_narrow (f_X1_become n0 n3)) (f_X1_narrow (f_X1_become n1 n4)) (f_X1_becomeAny n2) p1).2.1))), (h3, .inr (1, nm_fs (f_X1_narrow (f_X1_becomeAny ((f_X1_settle ((f_X2_apply (f_X1_narrow (f_X1_become n0 n3)) (f_X1_narrow (f_X1_become n1 n4)) (f_X1_becomeAny n2) p1).2.2)).1))))), (h4, .inr (1, nm_fs n3)), (h5, .inr (1, nm_fs n4))]) := hD
            refine lv_aload_n hx hb dX2_compute_104 rfl (lv_at hl 0 rfl) ?_
            refine va_get (D := D) (ci := 2) (v := .ref h3) (C := RX2) (T := TX2) (N := 3) hx hb hts hi2 hown hK hP 0 rfl rfl 2 (by decide) hk2 (fun _ h9 => h9) rfl dX2_compute_105 ?_
            have e9 : f_X2_compute n0 n1 n2 n3 n4 p1 p4 = (((f_X2_apply (f_X1_narrow (f_X1_become n0 n3)) (f_X1_narrow (f_X1_become n1 n4)) (f_X1_becomeAny n2) p1).1), ((f_X2_apply (f_X1_narrow (f_X1_become n0 n3)) (f_X1_narrow (f_X1_become n1 n4)) (f_X1_becomeAny n2) p1).2.1), (f_X1_narrow (f_X1_becomeAny ((f_X1_settle ((f_X2_apply (f_X1_narrow (f_X1_become n0 n3)) (f_X1_narrow (f_X1_become n1 n4)) (f_X1_becomeAny n2) p1).2.2)).1)))) := (if_neg c1).trans ((if_neg c21).trans ((if_neg c26).trans ((if_neg c31).trans ((if_pos c33).trans (rfl)))))
            rw [e9]
            exact sp_aret C hAe hP hK hD hS dX2_compute_108
        · refine lv_aload_n hx hb dX2_compute_60 rfl (lv_at hl 0 rfl) ?_
          refine lv_iload_n hx hb dX2_compute_61 rfl (lv_at hl 1 rfl) ?_
          refine lv_iload hx hb dX2_compute_62 (lv_at hl 4 rfl) ?_
          refine sp_callv (sp_runV (As := [.int p1, .int p4]) (rest := []) C (c_X2_shift l D h0 h1 h2 h3 (f_X1_narrow (f_X1_become n0 n3)) (f_X1_narrow (f_X1_become n1 n4)) (f_X1_becomeAny n2) p1 p4) (cwV 2 hts (gV wG_c wm_247 wm_248 wm_249 wm_122 wm_246) rfl rfl rfl (by decide +kernel) ⟨Nat.le_of_ble_eq_true rfl, Nat.le_of_ble_eq_true rfl⟩) hK hP hD [0, 1, 2, 3] (by decide) rfl [] rfl 0 2 rfl rfl rfl rfl hl.1 rfl (Nat.le_of_ble_eq_true rfl) dX2_compute_64 ⟨Nat.le_of_ble_eq_true rfl, Nat.le_of_ble_eq_true rfl⟩) hP hD hS hA [0, 1, 2, 3] rfl (sp_fc (sp_fc (sp_fc (sp_fc sp_f0)))) (fun H locs hP hD hS => ?_)
          have hP : va_P D vwCl ([(h0, .inr (2, [.ref h1, .ref h2, .ref h3])), (h1, .inr (1, nm_fs (f_X1_narrow (f_X1_become n0 n3)))), (h2, .inr (1, nm_fs (f_X1_narrow (f_X1_become n1 n4)))), (h3, .inr (1, nm_fs (f_X2_shift (f_X1_narrow (f_X1_become n0 n3)) (f_X1_narrow (f_X1_become n1 n4)) (f_X1_becomeAny n2) p1 p4))), (h4, .inr (1, nm_fs n3)), (h5, .inr (1, nm_fs n4))]) H := hP
          have hD : va_D A ([(h0, .inr (2, [.ref h1, .ref h2, .ref h3])), (h1, .inr (1, nm_fs (f_X1_narrow (f_X1_become n0 n3)))), (h2, .inr (1, nm_fs (f_X1_narrow (f_X1_become n1 n4)))), (h3, .inr (1, nm_fs (f_X2_shift (f_X1_narrow (f_X1_become n0 n3)) (f_X1_narrow (f_X1_become n1 n4)) (f_X1_becomeAny n2) p1 p4))), (h4, .inr (1, nm_fs n3)), (h5, .inr (1, nm_fs n4))]) := hD
          refine lv_goto (tgt := 75) hx hb dX2_compute_67 (by decide) ?_
          refine lv_aload_n hx hb dX2_compute_75 rfl (lv_at hl 0 rfl) ?_
          refine va_get (D := D) (ci := 2) (v := .ref h3) (C := RX2) (T := TX2) (N := 3) hx hb hts hi2 hown hK hP 0 rfl rfl 2 (by decide) hk2 (fun _ h9 => h9) rfl dX2_compute_76 ?_
          refine sp_callz (sp_runV (As := []) (rest := []) C (c_X1_settle l D h3 (f_X2_shift (f_X1_narrow (f_X1_become n0 n3)) (f_X1_narrow (f_X1_become n1 n4)) (f_X1_becomeAny n2) p1 p4)) (cwV 0 hts (gV wG_c wm_250 wm_100 wm_101 wm_31 wm_98) rfl rfl rfl (by decide +kernel) ⟨Nat.le_of_ble_eq_true rfl, Nat.le_of_ble_eq_true rfl⟩) hK hP hD [3] (by decide) rfl [] rfl 0 1 rfl rfl rfl rfl hl.1 rfl (Nat.le_of_ble_eq_true rfl) dX2_compute_79 ⟨Nat.le_of_ble_eq_true rfl, Nat.le_of_ble_eq_true rfl⟩) hP hD hS hA [3] rfl (sp_fc sp_f0) (fun H locs z36 hP hD hS => ?_)
          have hP : va_P D vwCl ([(h0, .inr (2, [.ref h1, .ref h2, .ref h3])), (h1, .inr (1, nm_fs (f_X1_narrow (f_X1_become n0 n3)))), (h2, .inr (1, nm_fs (f_X1_narrow (f_X1_become n1 n4)))), (h3, .inr (1, nm_fs ((f_X1_settle (f_X2_shift (f_X1_narrow (f_X1_become n0 n3)) (f_X1_narrow (f_X1_become n1 n4)) (f_X1_becomeAny n2) p1 p4)).1))), (h4, .inr (1, nm_fs n3)), (h5, .inr (1, nm_fs n4))]) H := hP
          have hD : va_D A ([(h0, .inr (2, [.ref h1, .ref h2, .ref h3])), (h1, .inr (1, nm_fs (f_X1_narrow (f_X1_become n0 n3)))), (h2, .inr (1, nm_fs (f_X1_narrow (f_X1_become n1 n4)))), (h3, .inr (1, nm_fs ((f_X1_settle (f_X2_shift (f_X1_narrow (f_X1_become n0 n3)) (f_X1_narrow (f_X1_become n1 n4)) (f_X1_becomeAny n2) p1 p4)).1))), (h4, .inr (1, nm_fs n3)), (h5, .inr (1, nm_fs n4))]) := hD
          refine lv_if_ne (tgt := 92) hx hb dX2_compute_82 (by decide) (fun c37 => ?_) (fun c37 => ?_)
          · refine lv_iload hx hb dX2_compute_92 (lv_at hl 4 rfl) ?_
            refine lv_if_eq (tgt := 104) hx hb dX2_compute_94 (by decide) (fun h9 => absurd h9 c1) (fun _ => ?_)
            refine lv_aload_n hx hb dX2_compute_97 rfl (lv_at hl 0 rfl) ?_
            refine va_get (D := D) (ci := 2) (v := .ref h3) (C := RX2) (T := TX2) (N := 3) hx hb hts hi2 hown hK hP 0 rfl rfl 2 (by decide) hk2 (fun _ h9 => h9) rfl dX2_compute_98 ?_
            refine sp_callv (sp_runV (As := []) (rest := []) C (c_X1_narrow l D h3 ((f_X1_settle (f_X2_shift (f_X1_narrow (f_X1_become n0 n3)) (f_X1_narrow (f_X1_become n1 n4)) (f_X1_becomeAny n2) p1 p4)).1)) (cwV 0 hts (gV wG_c wm_256 wm_257 wm_258 wm_31 wm_255) rfl rfl rfl (by decide +kernel) ⟨Nat.le_of_ble_eq_true rfl, Nat.le_of_ble_eq_true rfl⟩) hK hP hD [3] (by decide) rfl [] rfl 0 1 rfl rfl rfl rfl hl.1 rfl (Nat.le_of_ble_eq_true rfl) dX2_compute_101 ⟨Nat.le_of_ble_eq_true rfl, Nat.le_of_ble_eq_true rfl⟩) hP hD hS hA [3] rfl (sp_fc sp_f0) (fun H locs hP hD hS => ?_)
            have hP : va_P D vwCl ([(h0, .inr (2, [.ref h1, .ref h2, .ref h3])), (h1, .inr (1, nm_fs (f_X1_narrow (f_X1_become n0 n3)))), (h2, .inr (1, nm_fs (f_X1_narrow (f_X1_become n1 n4)))), (h3, .inr (1, nm_fs (f_X1_narrow ((f_X1_settle (f_X2_shift (f_X1_narrow (f_X1_become n0 n3)) (f_X1_narrow (f_X1_become n1 n4)) (f_X1_becomeAny n2) p1 p4)).1)))), (h4, .inr (1, nm_fs n3)), (h5, .inr (1, nm_fs n4))]) H := hP
            have hD : va_D A ([(h0, .inr (2, [.ref h1, .ref h2, .ref h3])), (h1, .inr (1, nm_fs (f_X1_narrow (f_X1_become n0 n3)))), (h2, .inr (1, nm_fs (f_X1_narrow (f_X1_become n1 n4)))), (h3, .inr (1, nm_fs (f_X1_narrow ((f_X1_settle (f_X2_shift (f_X1_narrow (f_X1_become n0 n3)) (f_X1_narrow (f_X1_become n1 n4)) (f_X1_becomeAny n2) p1 p4)).1)))), (h4, .inr (1, nm_fs n3)), (h5, .inr (1, nm_fs n4))]) := hD
            refine lv_aload_n hx hb dX2_compute_104 rfl (lv_at hl 0 rfl) ?_
            refine va_get (D := D) (ci := 2) (v := .ref h3) (C := RX2) (T := TX2) (N := 3) hx hb hts hi2 hown hK hP 0 rfl rfl 2 (by decide) hk2 (fun _ h9 => h9) rfl dX2_compute_105 ?_
            have e9 : f_X2_compute n0 n1 n2 n3 n4 p1 p4 = ((f_X1_narrow (f_X1_become n0 n3)), (f_X1_narrow (f_X1_become n1 n4)), (f_X1_narrow ((f_X1_settle (f_X2_shift (f_X1_narrow (f_X1_become n0 n3)) (f_X1_narrow (f_X1_become n1 n4)) (f_X1_becomeAny n2) p1 p4)).1))) := (if_neg c1).trans ((if_neg c21).trans ((if_neg c26).trans ((if_pos c31).trans ((if_neg c37).trans (rfl)))))
            rw [e9]
            exact sp_aret C hAe hP hK hD hS dX2_compute_108
          · refine lv_aload_n hx hb dX2_compute_85 rfl (lv_at hl 0 rfl) ?_
            refine va_get (D := D) (ci := 2) (v := .ref h3) (C := RX2) (T := TX2) (N := 3) hx hb hts hi2 hown hK hP 0 rfl rfl 2 (by decide) hk2 (fun _ h9 => h9) rfl dX2_compute_86 ?_
            refine sp_callv (sp_runV (As := []) (rest := []) C (c_X1_becomeAny l D h3 ((f_X1_settle (f_X2_shift (f_X1_narrow (f_X1_become n0 n3)) (f_X1_narrow (f_X1_become n1 n4)) (f_X1_becomeAny n2) p1 p4)).1)) (cwV 0 hts (gV wG_c wm_243 wm_244 wm_245 wm_31 wm_242) rfl rfl rfl (by decide +kernel) ⟨Nat.le_of_ble_eq_true rfl, Nat.le_of_ble_eq_true rfl⟩) hK hP hD [3] (by decide) rfl [] rfl 0 1 rfl rfl rfl rfl hl.1 rfl (Nat.le_of_ble_eq_true rfl) dX2_compute_89 ⟨Nat.le_of_ble_eq_true rfl, Nat.le_of_ble_eq_true rfl⟩) hP hD hS hA [3] rfl (sp_fc sp_f0) (fun H locs hP hD hS => ?_)
            have hP : va_P D vwCl ([(h0, .inr (2, [.ref h1, .ref h2, .ref h3])), (h1, .inr (1, nm_fs (f_X1_narrow (f_X1_become n0 n3)))), (h2, .inr (1, nm_fs (f_X1_narrow (f_X1_become n1 n4)))), (h3, .inr (1, nm_fs (f_X1_becomeAny ((f_X1_settle (f_X2_shift (f_X1_narrow (f_X1_become n0 n3)) (f_X1_narrow (f_X1_become n1 n4)) (f_X1_becomeAny n2) p1 p4)).1)))), (h4, .inr (1, nm_fs n3)), (h5, .inr (1, nm_fs n4))]) H := hP
            have hD : va_D A ([(h0, .inr (2, [.ref h1, .ref h2, .ref h3])), (h1, .inr (1, nm_fs (f_X1_narrow (f_X1_become n0 n3)))), (h2, .inr (1, nm_fs (f_X1_narrow (f_X1_become n1 n4)))), (h3, .inr (1, nm_fs (f_X1_becomeAny ((f_X1_settle (f_X2_shift (f_X1_narrow (f_X1_become n0 n3)) (f_X1_narrow (f_X1_become n1 n4)) (f_X1_becomeAny n2) p1 p4)).1)))), (h4, .inr (1, nm_fs n3)), (h5, .inr (1, nm_fs n4))]) := hD
            refine lv_iload hx hb dX2_compute_92 (lv_at hl 4 rfl) ?_
            refine lv_if_eq (tgt := 104) hx hb dX2_compute_94 (by decide) (fun h9 => absurd h9 c1) (fun _ => ?_)
            refine lv_aload_n hx hb dX2_compute_97 rfl (lv_at hl 0 rfl) ?_
            refine va_get (D := D) (ci := 2) (v := .ref h3) (C := RX2) (T := TX2) (N := 3) hx hb hts hi2 hown hK hP 0 rfl rfl 2 (by decide) hk2 (fun _ h9 => h9) rfl dX2_compute_98 ?_
            refine sp_callv (sp_runV (As := []) (rest := []) C (c_X1_narrow l D h3 (f_X1_becomeAny ((f_X1_settle (f_X2_shift (f_X1_narrow (f_X1_become n0 n3)) (f_X1_narrow (f_X1_become n1 n4)) (f_X1_becomeAny n2) p1 p4)).1))) (cwV 0 hts (gV wG_c wm_256 wm_257 wm_258 wm_31 wm_255) rfl rfl rfl (by decide +kernel) ⟨Nat.le_of_ble_eq_true rfl, Nat.le_of_ble_eq_true rfl⟩) hK hP hD [3] (by decide) rfl [] rfl 0 1 rfl rfl rfl rfl hl.1 rfl (Nat.le_of_ble_eq_true rfl) dX2_compute_101 ⟨Nat.le_of_ble_eq_true rfl, Nat.le_of_ble_eq_true rfl⟩) hP hD hS hA [3] rfl (sp_fc sp_f0) (fun H locs hP hD hS => ?_)
            have hP : va_P D vwCl ([(h0, .inr (2, [.ref h1, .ref h2, .ref h3])), (h1, .inr (1, nm_fs (f_X1_narrow (f_X1_become n0 n3)))), (h2, .inr (1, nm_fs (f_X1_narrow (f_X1_become n1 n4)))), (h3, .inr (1, nm_fs (f_X1_narrow (f_X1_becomeAny ((f_X1_settle (f_X2_shift (f_X1_narrow (f_X1_become n0 n3)) (f_X1_narrow (f_X1_become n1 n4)) (f_X1_becomeAny n2) p1 p4)).1))))), (h4, .inr (1, nm_fs n3)), (h5, .inr (1, nm_fs n4))]) H := hP
            have hD : va_D A ([(h0, .inr (2, [.ref h1, .ref h2, .ref h3])), (h1, .inr (1, nm_fs (f_X1_narrow (f_X1_become n0 n3)))), (h2, .inr (1, nm_fs (f_X1_narrow (f_X1_become n1 n4)))), (h3, .inr (1, nm_fs (f_X1_narrow (f_X1_becomeAny ((f_X1_settle (f_X2_shift (f_X1_narrow (f_X1_become n0 n3)) (f_X1_narrow (f_X1_become n1 n4)) (f_X1_becomeAny n2) p1 p4)).1))))), (h4, .inr (1, nm_fs n3)), (h5, .inr (1, nm_fs n4))]) := hD
            refine lv_aload_n hx hb dX2_compute_104 rfl (lv_at hl 0 rfl) ?_
            refine va_get (D := D) (ci := 2) (v := .ref h3) (C := RX2) (T := TX2) (N := 3) hx hb hts hi2 hown hK hP 0 rfl rfl 2 (by decide) hk2 (fun _ h9 => h9) rfl dX2_compute_105 ?_
            have e9 : f_X2_compute n0 n1 n2 n3 n4 p1 p4 = ((f_X1_narrow (f_X1_become n0 n3)), (f_X1_narrow (f_X1_become n1 n4)), (f_X1_narrow (f_X1_becomeAny ((f_X1_settle (f_X2_shift (f_X1_narrow (f_X1_become n0 n3)) (f_X1_narrow (f_X1_become n1 n4)) (f_X1_becomeAny n2) p1 p4)).1)))) := (if_neg c1).trans ((if_neg c21).trans ((if_neg c26).trans ((if_pos c31).trans ((if_pos c37).trans (rfl)))))
            rw [e9]
            exact sp_aret C hAe hP hK hD hS dX2_compute_108
set_option maxHeartbeats 4000000 in
set_option maxRecDepth 100000 in
theorem c_X2_compute_same (l : Launch) (D : va_G) (h0 : Nat) (h1 : Nat) (h2 : Nat) (h3 : Nat) (h4 : Nat) (n0 : Nm) (n1 : Nm) (n2 : Nm) (n3 : Nm) (p1 : Int32) (p4 : Int32) : sp_M l yX2_compute wsX2_compute ({ frames := 5, cells := 0, slots := 0, locals := 110 }) D [.ref h0, .int p1, .ref h4, .ref h4, .int p4] ([(h0, .inr (2, [.ref h1, .ref h2, .ref h3])), (h1, .inr (1, nm_fs n0)), (h2, .inr (1, nm_fs n1)), (h3, .inr (1, nm_fs n2)), (h4, .inr (1, nm_fs n3))]) [] (sp_Qr D ([(h0, .inr (2, [.ref h1, .ref h2, .ref h3])), (h1, .inr (1, nm_fs n0)), (h2, .inr (1, nm_fs n1)), (h3, .inr (1, nm_fs n2)), (h4, .inr (1, nm_fs n3))]) ([(h0, .inr (2, [.ref h1, .ref h2, .ref h3])), (h1, .inr (1, nm_fs ((f_X2_compute n0 n1 n2 n3 n3 p1 p4).1))), (h2, .inr (1, nm_fs ((f_X2_compute n0 n1 n2 n3 n3 p1 p4).2.1))), (h3, .inr (1, nm_fs ((f_X2_compute n0 n1 n2 n3 n3 p1 p4).2.2))), (h4, .inr (1, nm_fs n3))]) [] h3) := by
  refine sp_ofW (cc := cX2_compute) (nL := 5) (ret := (some (.object "RangeDesk$Num"))) (own := RX2) (by decide) rfl rfl (Nat.le_of_ble_eq_true rfl) ?_
  intro p e s m below meth c A ls hAe hnm C hA hP hK hD hS hl
  have hx := C.1
  have hb := C.2.1
  have hown := C.2.2.2.2.1
  have hts := C.2.2.2.2.2.1
  have hl : lv_has ls 5 [(0, .ref h0), (1, .int p1), (2, .ref h4), (3, .ref h4), (4, .int p4)] := hl
  have hi2 : ∀ w ∈ u_ws RX2 TX2 3, w ∈ wsX2_compute := fun w h => List.mem_cons_of_mem _ (inX2 w h)
  have hk0 := hts _ (List.mem_cons_of_mem _ wm_108)
  have hk1 := hts _ (List.mem_cons_of_mem _ wm_109)
  have hk2 := hts _ (List.mem_cons_of_mem _ wm_110)
  refine lv_aload_n hx hb dX2_compute_0 rfl (lv_at hl 0 rfl) ?_
  refine va_get (D := D) (ci := 2) (v := .ref h1) (C := RX2) (T := TX2) (N := 3) hx hb hts hi2 hown hK hP 0 rfl rfl 0 (by decide) hk0 (fun _ h9 => h9) rfl dX2_compute_1 ?_
  refine lv_aload_n hx hb dX2_compute_4 rfl (lv_at hl 2 rfl) ?_
  refine sp_callv (sp_runV (As := [.ref h4]) (rest := []) C (c_X1_become l D h1 h4 n0 n3) (cwV 1 hts (gV wG_c wm_166 wm_167 wm_168 wm_31 wm_165) rfl rfl rfl (by decide +kernel) ⟨Nat.le_of_ble_eq_true rfl, Nat.le_of_ble_eq_true rfl⟩) hK hP hD [1, 4] (by decide) rfl [] rfl 0 1 rfl rfl rfl rfl hl.1 rfl (Nat.le_of_ble_eq_true rfl) dX2_compute_5 ⟨Nat.le_of_ble_eq_true rfl, Nat.le_of_ble_eq_true rfl⟩) hP hD hS hA [1, 4] rfl (sp_fc (sp_fc sp_f0)) (fun H locs hP hD hS => ?_)
  have hP : va_P D vwCl ([(h0, .inr (2, [.ref h1, .ref h2, .ref h3])), (h1, .inr (1, nm_fs (f_X1_become n0 n3))), (h2, .inr (1, nm_fs n1)), (h3, .inr (1, nm_fs n2)), (h4, .inr (1, nm_fs n3))]) H := hP
  have hD : va_D A ([(h0, .inr (2, [.ref h1, .ref h2, .ref h3])), (h1, .inr (1, nm_fs (f_X1_become n0 n3))), (h2, .inr (1, nm_fs n1)), (h3, .inr (1, nm_fs n2)), (h4, .inr (1, nm_fs n3))]) := hD
  refine lv_aload_n hx hb dX2_compute_8 rfl (lv_at hl 0 rfl) ?_
  refine va_get (D := D) (ci := 2) (v := .ref h2) (C := RX2) (T := TX2) (N := 3) hx hb hts hi2 hown hK hP 0 rfl rfl 1 (by decide) hk1 (fun _ h9 => h9) rfl dX2_compute_9 ?_
  refine lv_aload_n hx hb dX2_compute_12 rfl (lv_at hl 3 rfl) ?_
  refine sp_callv (sp_runV (As := [.ref h4]) (rest := []) C (c_X1_become l D h2 h4 n1 n3) (cwV 1 hts (gV wG_c wm_166 wm_167 wm_168 wm_31 wm_165) rfl rfl rfl (by decide +kernel) ⟨Nat.le_of_ble_eq_true rfl, Nat.le_of_ble_eq_true rfl⟩) hK hP hD [2, 4] (by decide) rfl [] rfl 0 1 rfl rfl rfl rfl hl.1 rfl (Nat.le_of_ble_eq_true rfl) dX2_compute_13 ⟨Nat.le_of_ble_eq_true rfl, Nat.le_of_ble_eq_true rfl⟩) hP hD hS hA [2, 4] rfl (sp_fc (sp_fc sp_f0)) (fun H locs hP hD hS => ?_)
  have hP : va_P D vwCl ([(h0, .inr (2, [.ref h1, .ref h2, .ref h3])), (h1, .inr (1, nm_fs (f_X1_become n0 n3))), (h2, .inr (1, nm_fs (f_X1_become n1 n3))), (h3, .inr (1, nm_fs n2)), (h4, .inr (1, nm_fs n3))]) H := hP
  have hD : va_D A ([(h0, .inr (2, [.ref h1, .ref h2, .ref h3])), (h1, .inr (1, nm_fs (f_X1_become n0 n3))), (h2, .inr (1, nm_fs (f_X1_become n1 n3))), (h3, .inr (1, nm_fs n2)), (h4, .inr (1, nm_fs n3))]) := hD
  refine lv_iload hx hb dX2_compute_16 (lv_at hl 4 rfl) ?_
  refine lv_if_eq (tgt := 35) hx hb dX2_compute_18 (by decide) (fun c1 => ?_) (fun c1 => ?_)
  · refine lv_aload_n hx hb dX2_compute_35 rfl (lv_at hl 0 rfl) ?_
    refine va_get (D := D) (ci := 2) (v := .ref h3) (C := RX2) (T := TX2) (N := 3) hx hb hts hi2 hown hK hP 0 rfl rfl 2 (by decide) hk2 (fun _ h9 => h9) rfl dX2_compute_36 ?_
    refine sp_callv (sp_runV (As := []) (rest := []) C (c_X1_becomeAny l D h3 n2) (cwV 0 hts (gV wG_c wm_243 wm_244 wm_245 wm_31 wm_242) rfl rfl rfl (by decide +kernel) ⟨Nat.le_of_ble_eq_true rfl, Nat.le_of_ble_eq_true rfl⟩) hK hP hD [3] (by decide) rfl [] rfl 0 1 rfl rfl rfl rfl hl.1 rfl (Nat.le_of_ble_eq_true rfl) dX2_compute_39 ⟨Nat.le_of_ble_eq_true rfl, Nat.le_of_ble_eq_true rfl⟩) hP hD hS hA [3] rfl (sp_fc sp_f0) (fun H locs hP hD hS => ?_)
    have hP : va_P D vwCl ([(h0, .inr (2, [.ref h1, .ref h2, .ref h3])), (h1, .inr (1, nm_fs (f_X1_become n0 n3))), (h2, .inr (1, nm_fs (f_X1_become n1 n3))), (h3, .inr (1, nm_fs (f_X1_becomeAny n2))), (h4, .inr (1, nm_fs n3))]) H := hP
    have hD : va_D A ([(h0, .inr (2, [.ref h1, .ref h2, .ref h3])), (h1, .inr (1, nm_fs (f_X1_become n0 n3))), (h2, .inr (1, nm_fs (f_X1_become n1 n3))), (h3, .inr (1, nm_fs (f_X1_becomeAny n2))), (h4, .inr (1, nm_fs n3))]) := hD
    refine lv_iload_n hx hb dX2_compute_42 rfl (lv_at hl 1 rfl) ?_
    refine lv_bipush (v := 8) hx hb dX2_compute_43 (by decide) ?_
    refine lv_icmp_eq (tgt := 60) hx hb dX2_compute_45 (by decide) (fun c2 => ?_) (fun c2 => ?_)
    · refine lv_aload_n hx hb dX2_compute_60 rfl (lv_at hl 0 rfl) ?_
      refine lv_iload_n hx hb dX2_compute_61 rfl (lv_at hl 1 rfl) ?_
      refine lv_iload hx hb dX2_compute_62 (lv_at hl 4 rfl) ?_
      refine sp_callv (sp_runV (As := [.int p1, .int p4]) (rest := []) C (c_X2_shift l D h0 h1 h2 h3 (f_X1_become n0 n3) (f_X1_become n1 n3) (f_X1_becomeAny n2) p1 p4) (cwV 2 hts (gV wG_c wm_247 wm_248 wm_249 wm_122 wm_246) rfl rfl rfl (by decide +kernel) ⟨Nat.le_of_ble_eq_true rfl, Nat.le_of_ble_eq_true rfl⟩) hK hP hD [0, 1, 2, 3] (by decide) rfl [] rfl 0 2 rfl rfl rfl rfl hl.1 rfl (Nat.le_of_ble_eq_true rfl) dX2_compute_64 ⟨Nat.le_of_ble_eq_true rfl, Nat.le_of_ble_eq_true rfl⟩) hP hD hS hA [0, 1, 2, 3] rfl (sp_fc (sp_fc (sp_fc (sp_fc sp_f0)))) (fun H locs hP hD hS => ?_)
      have hP : va_P D vwCl ([(h0, .inr (2, [.ref h1, .ref h2, .ref h3])), (h1, .inr (1, nm_fs (f_X1_become n0 n3))), (h2, .inr (1, nm_fs (f_X1_become n1 n3))), (h3, .inr (1, nm_fs (f_X2_shift (f_X1_become n0 n3) (f_X1_become n1 n3) (f_X1_becomeAny n2) p1 p4))), (h4, .inr (1, nm_fs n3))]) H := hP
      have hD : va_D A ([(h0, .inr (2, [.ref h1, .ref h2, .ref h3])), (h1, .inr (1, nm_fs (f_X1_become n0 n3))), (h2, .inr (1, nm_fs (f_X1_become n1 n3))), (h3, .inr (1, nm_fs (f_X2_shift (f_X1_become n0 n3) (f_X1_become n1 n3) (f_X1_becomeAny n2) p1 p4))), (h4, .inr (1, nm_fs n3))]) := hD
      refine lv_goto (tgt := 75) hx hb dX2_compute_67 (by decide) ?_
      refine lv_aload_n hx hb dX2_compute_75 rfl (lv_at hl 0 rfl) ?_
      refine va_get (D := D) (ci := 2) (v := .ref h3) (C := RX2) (T := TX2) (N := 3) hx hb hts hi2 hown hK hP 0 rfl rfl 2 (by decide) hk2 (fun _ h9 => h9) rfl dX2_compute_76 ?_
      refine sp_callz (sp_runV (As := []) (rest := []) C (c_X1_settle l D h3 (f_X2_shift (f_X1_become n0 n3) (f_X1_become n1 n3) (f_X1_becomeAny n2) p1 p4)) (cwV 0 hts (gV wG_c wm_250 wm_100 wm_101 wm_31 wm_98) rfl rfl rfl (by decide +kernel) ⟨Nat.le_of_ble_eq_true rfl, Nat.le_of_ble_eq_true rfl⟩) hK hP hD [3] (by decide) rfl [] rfl 0 1 rfl rfl rfl rfl hl.1 rfl (Nat.le_of_ble_eq_true rfl) dX2_compute_79 ⟨Nat.le_of_ble_eq_true rfl, Nat.le_of_ble_eq_true rfl⟩) hP hD hS hA [3] rfl (sp_fc sp_f0) (fun H locs z3 hP hD hS => ?_)
      have hP : va_P D vwCl ([(h0, .inr (2, [.ref h1, .ref h2, .ref h3])), (h1, .inr (1, nm_fs (f_X1_become n0 n3))), (h2, .inr (1, nm_fs (f_X1_become n1 n3))), (h3, .inr (1, nm_fs ((f_X1_settle (f_X2_shift (f_X1_become n0 n3) (f_X1_become n1 n3) (f_X1_becomeAny n2) p1 p4)).1))), (h4, .inr (1, nm_fs n3))]) H := hP
      have hD : va_D A ([(h0, .inr (2, [.ref h1, .ref h2, .ref h3])), (h1, .inr (1, nm_fs (f_X1_become n0 n3))), (h2, .inr (1, nm_fs (f_X1_become n1 n3))), (h3, .inr (1, nm_fs ((f_X1_settle (f_X2_shift (f_X1_become n0 n3) (f_X1_become n1 n3) (f_X1_becomeAny n2) p1 p4)).1))), (h4, .inr (1, nm_fs n3))]) := hD
      refine lv_if_ne (tgt := 92) hx hb dX2_compute_82 (by decide) (fun c4 => ?_) (fun c4 => ?_)
      · refine lv_iload hx hb dX2_compute_92 (lv_at hl 4 rfl) ?_
        refine lv_if_eq (tgt := 104) hx hb dX2_compute_94 (by decide) (fun _ => ?_) (fun h9 => absurd c1 h9)
        refine lv_aload_n hx hb dX2_compute_104 rfl (lv_at hl 0 rfl) ?_
        refine va_get (D := D) (ci := 2) (v := .ref h3) (C := RX2) (T := TX2) (N := 3) hx hb hts hi2 hown hK hP 0 rfl rfl 2 (by decide) hk2 (fun _ h9 => h9) rfl dX2_compute_105 ?_
        have e9 : f_X2_compute n0 n1 n2 n3 n3 p1 p4 = ((f_X1_become n0 n3), (f_X1_become n1 n3), ((f_X1_settle (f_X2_shift (f_X1_become n0 n3) (f_X1_become n1 n3) (f_X1_becomeAny n2) p1 p4)).1)) := (if_pos c1).trans ((if_pos c2).trans ((if_neg c4).trans (rfl)))
        rw [e9]
        exact sp_aret C hAe hP hK hD hS dX2_compute_108
      · refine lv_aload_n hx hb dX2_compute_85 rfl (lv_at hl 0 rfl) ?_
        refine va_get (D := D) (ci := 2) (v := .ref h3) (C := RX2) (T := TX2) (N := 3) hx hb hts hi2 hown hK hP 0 rfl rfl 2 (by decide) hk2 (fun _ h9 => h9) rfl dX2_compute_86 ?_
        refine sp_callv (sp_runV (As := []) (rest := []) C (c_X1_becomeAny l D h3 ((f_X1_settle (f_X2_shift (f_X1_become n0 n3) (f_X1_become n1 n3) (f_X1_becomeAny n2) p1 p4)).1)) (cwV 0 hts (gV wG_c wm_243 wm_244 wm_245 wm_31 wm_242) rfl rfl rfl (by decide +kernel) ⟨Nat.le_of_ble_eq_true rfl, Nat.le_of_ble_eq_true rfl⟩) hK hP hD [3] (by decide) rfl [] rfl 0 1 rfl rfl rfl rfl hl.1 rfl (Nat.le_of_ble_eq_true rfl) dX2_compute_89 ⟨Nat.le_of_ble_eq_true rfl, Nat.le_of_ble_eq_true rfl⟩) hP hD hS hA [3] rfl (sp_fc sp_f0) (fun H locs hP hD hS => ?_)
        have hP : va_P D vwCl ([(h0, .inr (2, [.ref h1, .ref h2, .ref h3])), (h1, .inr (1, nm_fs (f_X1_become n0 n3))), (h2, .inr (1, nm_fs (f_X1_become n1 n3))), (h3, .inr (1, nm_fs (f_X1_becomeAny ((f_X1_settle (f_X2_shift (f_X1_become n0 n3) (f_X1_become n1 n3) (f_X1_becomeAny n2) p1 p4)).1)))), (h4, .inr (1, nm_fs n3))]) H := hP
        have hD : va_D A ([(h0, .inr (2, [.ref h1, .ref h2, .ref h3])), (h1, .inr (1, nm_fs (f_X1_become n0 n3))), (h2, .inr (1, nm_fs (f_X1_become n1 n3))), (h3, .inr (1, nm_fs (f_X1_becomeAny ((f_X1_settle (f_X2_shift (f_X1_become n0 n3) (f_X1_become n1 n3) (f_X1_becomeAny n2) p1 p4)).1)))), (h4, .inr (1, nm_fs n3))]) := hD
        refine lv_iload hx hb dX2_compute_92 (lv_at hl 4 rfl) ?_
        refine lv_if_eq (tgt := 104) hx hb dX2_compute_94 (by decide) (fun _ => ?_) (fun h9 => absurd c1 h9)
        refine lv_aload_n hx hb dX2_compute_104 rfl (lv_at hl 0 rfl) ?_
        refine va_get (D := D) (ci := 2) (v := .ref h3) (C := RX2) (T := TX2) (N := 3) hx hb hts hi2 hown hK hP 0 rfl rfl 2 (by decide) hk2 (fun _ h9 => h9) rfl dX2_compute_105 ?_
        have e9 : f_X2_compute n0 n1 n2 n3 n3 p1 p4 = ((f_X1_become n0 n3), (f_X1_become n1 n3), (f_X1_becomeAny ((f_X1_settle (f_X2_shift (f_X1_become n0 n3) (f_X1_become n1 n3) (f_X1_becomeAny n2) p1 p4)).1))) := (if_pos c1).trans ((if_pos c2).trans ((if_pos c4).trans (rfl)))
        rw [e9]
        exact sp_aret C hAe hP hK hD hS dX2_compute_108
    · refine lv_iload_n hx hb dX2_compute_48 rfl (lv_at hl 1 rfl) ?_
      refine lv_bipush (v := 9) hx hb dX2_compute_49 (by decide) ?_
      refine lv_icmp_eq (tgt := 60) hx hb dX2_compute_51 (by decide) (fun c7 => ?_) (fun c7 => ?_)
      · refine lv_aload_n hx hb dX2_compute_60 rfl (lv_at hl 0 rfl) ?_
        refine lv_iload_n hx hb dX2_compute_61 rfl (lv_at hl 1 rfl) ?_
        refine lv_iload hx hb dX2_compute_62 (lv_at hl 4 rfl) ?_
        refine sp_callv (sp_runV (As := [.int p1, .int p4]) (rest := []) C (c_X2_shift l D h0 h1 h2 h3 (f_X1_become n0 n3) (f_X1_become n1 n3) (f_X1_becomeAny n2) p1 p4) (cwV 2 hts (gV wG_c wm_247 wm_248 wm_249 wm_122 wm_246) rfl rfl rfl (by decide +kernel) ⟨Nat.le_of_ble_eq_true rfl, Nat.le_of_ble_eq_true rfl⟩) hK hP hD [0, 1, 2, 3] (by decide) rfl [] rfl 0 2 rfl rfl rfl rfl hl.1 rfl (Nat.le_of_ble_eq_true rfl) dX2_compute_64 ⟨Nat.le_of_ble_eq_true rfl, Nat.le_of_ble_eq_true rfl⟩) hP hD hS hA [0, 1, 2, 3] rfl (sp_fc (sp_fc (sp_fc (sp_fc sp_f0)))) (fun H locs hP hD hS => ?_)
        have hP : va_P D vwCl ([(h0, .inr (2, [.ref h1, .ref h2, .ref h3])), (h1, .inr (1, nm_fs (f_X1_become n0 n3))), (h2, .inr (1, nm_fs (f_X1_become n1 n3))), (h3, .inr (1, nm_fs (f_X2_shift (f_X1_become n0 n3) (f_X1_become n1 n3) (f_X1_becomeAny n2) p1 p4))), (h4, .inr (1, nm_fs n3))]) H := hP
        have hD : va_D A ([(h0, .inr (2, [.ref h1, .ref h2, .ref h3])), (h1, .inr (1, nm_fs (f_X1_become n0 n3))), (h2, .inr (1, nm_fs (f_X1_become n1 n3))), (h3, .inr (1, nm_fs (f_X2_shift (f_X1_become n0 n3) (f_X1_become n1 n3) (f_X1_becomeAny n2) p1 p4))), (h4, .inr (1, nm_fs n3))]) := hD
        refine lv_goto (tgt := 75) hx hb dX2_compute_67 (by decide) ?_
        refine lv_aload_n hx hb dX2_compute_75 rfl (lv_at hl 0 rfl) ?_
        refine va_get (D := D) (ci := 2) (v := .ref h3) (C := RX2) (T := TX2) (N := 3) hx hb hts hi2 hown hK hP 0 rfl rfl 2 (by decide) hk2 (fun _ h9 => h9) rfl dX2_compute_76 ?_
        refine sp_callz (sp_runV (As := []) (rest := []) C (c_X1_settle l D h3 (f_X2_shift (f_X1_become n0 n3) (f_X1_become n1 n3) (f_X1_becomeAny n2) p1 p4)) (cwV 0 hts (gV wG_c wm_250 wm_100 wm_101 wm_31 wm_98) rfl rfl rfl (by decide +kernel) ⟨Nat.le_of_ble_eq_true rfl, Nat.le_of_ble_eq_true rfl⟩) hK hP hD [3] (by decide) rfl [] rfl 0 1 rfl rfl rfl rfl hl.1 rfl (Nat.le_of_ble_eq_true rfl) dX2_compute_79 ⟨Nat.le_of_ble_eq_true rfl, Nat.le_of_ble_eq_true rfl⟩) hP hD hS hA [3] rfl (sp_fc sp_f0) (fun H locs z8 hP hD hS => ?_)
        have hP : va_P D vwCl ([(h0, .inr (2, [.ref h1, .ref h2, .ref h3])), (h1, .inr (1, nm_fs (f_X1_become n0 n3))), (h2, .inr (1, nm_fs (f_X1_become n1 n3))), (h3, .inr (1, nm_fs ((f_X1_settle (f_X2_shift (f_X1_become n0 n3) (f_X1_become n1 n3) (f_X1_becomeAny n2) p1 p4)).1))), (h4, .inr (1, nm_fs n3))]) H := hP
        have hD : va_D A ([(h0, .inr (2, [.ref h1, .ref h2, .ref h3])), (h1, .inr (1, nm_fs (f_X1_become n0 n3))), (h2, .inr (1, nm_fs (f_X1_become n1 n3))), (h3, .inr (1, nm_fs ((f_X1_settle (f_X2_shift (f_X1_become n0 n3) (f_X1_become n1 n3) (f_X1_becomeAny n2) p1 p4)).1))), (h4, .inr (1, nm_fs n3))]) := hD
        refine lv_if_ne (tgt := 92) hx hb dX2_compute_82 (by decide) (fun c9 => ?_) (fun c9 => ?_)
        · refine lv_iload hx hb dX2_compute_92 (lv_at hl 4 rfl) ?_
          refine lv_if_eq (tgt := 104) hx hb dX2_compute_94 (by decide) (fun _ => ?_) (fun h9 => absurd c1 h9)
          refine lv_aload_n hx hb dX2_compute_104 rfl (lv_at hl 0 rfl) ?_
          refine va_get (D := D) (ci := 2) (v := .ref h3) (C := RX2) (T := TX2) (N := 3) hx hb hts hi2 hown hK hP 0 rfl rfl 2 (by decide) hk2 (fun _ h9 => h9) rfl dX2_compute_105 ?_
          have e9 : f_X2_compute n0 n1 n2 n3 n3 p1 p4 = ((f_X1_become n0 n3), (f_X1_become n1 n3), ((f_X1_settle (f_X2_shift (f_X1_become n0 n3) (f_X1_become n1 n3) (f_X1_becomeAny n2) p1 p4)).1)) := (if_pos c1).trans ((if_neg c2).trans ((if_pos c7).trans ((if_neg c9).trans (rfl))))
          rw [e9]
          exact sp_aret C hAe hP hK hD hS dX2_compute_108
        · refine lv_aload_n hx hb dX2_compute_85 rfl (lv_at hl 0 rfl) ?_
          refine va_get (D := D) (ci := 2) (v := .ref h3) (C := RX2) (T := TX2) (N := 3) hx hb hts hi2 hown hK hP 0 rfl rfl 2 (by decide) hk2 (fun _ h9 => h9) rfl dX2_compute_86 ?_
          refine sp_callv (sp_runV (As := []) (rest := []) C (c_X1_becomeAny l D h3 ((f_X1_settle (f_X2_shift (f_X1_become n0 n3) (f_X1_become n1 n3) (f_X1_becomeAny n2) p1 p4)).1)) (cwV 0 hts (gV wG_c wm_243 wm_244 wm_245 wm_31 wm_242) rfl rfl rfl (by decide +kernel) ⟨Nat.le_of_ble_eq_true rfl, Nat.le_of_ble_eq_true rfl⟩) hK hP hD [3] (by decide) rfl [] rfl 0 1 rfl rfl rfl rfl hl.1 rfl (Nat.le_of_ble_eq_true rfl) dX2_compute_89 ⟨Nat.le_of_ble_eq_true rfl, Nat.le_of_ble_eq_true rfl⟩) hP hD hS hA [3] rfl (sp_fc sp_f0) (fun H locs hP hD hS => ?_)
          have hP : va_P D vwCl ([(h0, .inr (2, [.ref h1, .ref h2, .ref h3])), (h1, .inr (1, nm_fs (f_X1_become n0 n3))), (h2, .inr (1, nm_fs (f_X1_become n1 n3))), (h3, .inr (1, nm_fs (f_X1_becomeAny ((f_X1_settle (f_X2_shift (f_X1_become n0 n3) (f_X1_become n1 n3) (f_X1_becomeAny n2) p1 p4)).1)))), (h4, .inr (1, nm_fs n3))]) H := hP
          have hD : va_D A ([(h0, .inr (2, [.ref h1, .ref h2, .ref h3])), (h1, .inr (1, nm_fs (f_X1_become n0 n3))), (h2, .inr (1, nm_fs (f_X1_become n1 n3))), (h3, .inr (1, nm_fs (f_X1_becomeAny ((f_X1_settle (f_X2_shift (f_X1_become n0 n3) (f_X1_become n1 n3) (f_X1_becomeAny n2) p1 p4)).1)))), (h4, .inr (1, nm_fs n3))]) := hD
          refine lv_iload hx hb dX2_compute_92 (lv_at hl 4 rfl) ?_
          refine lv_if_eq (tgt := 104) hx hb dX2_compute_94 (by decide) (fun _ => ?_) (fun h9 => absurd c1 h9)
          refine lv_aload_n hx hb dX2_compute_104 rfl (lv_at hl 0 rfl) ?_
          refine va_get (D := D) (ci := 2) (v := .ref h3) (C := RX2) (T := TX2) (N := 3) hx hb hts hi2 hown hK hP 0 rfl rfl 2 (by decide) hk2 (fun _ h9 => h9) rfl dX2_compute_105 ?_
          have e9 : f_X2_compute n0 n1 n2 n3 n3 p1 p4 = ((f_X1_become n0 n3), (f_X1_become n1 n3), (f_X1_becomeAny ((f_X1_settle (f_X2_shift (f_X1_become n0 n3) (f_X1_become n1 n3) (f_X1_becomeAny n2) p1 p4)).1))) := (if_pos c1).trans ((if_neg c2).trans ((if_pos c7).trans ((if_pos c9).trans (rfl))))
          rw [e9]
          exact sp_aret C hAe hP hK hD hS dX2_compute_108
      · refine lv_iload_n hx hb dX2_compute_54 rfl (lv_at hl 1 rfl) ?_
        refine lv_bipush (v := 10) hx hb dX2_compute_55 (by decide) ?_
        refine lv_icmp_ne (tgt := 70) hx hb dX2_compute_57 (by decide) (fun c12 => ?_) (fun c12 => ?_)
        · refine lv_aload_n hx hb dX2_compute_70 rfl (lv_at hl 0 rfl) ?_
          refine lv_iload_n hx hb dX2_compute_71 rfl (lv_at hl 1 rfl) ?_
          refine sp_callv (sp_runV (As := [.int p1]) (rest := []) C (c_X2_apply l D h0 h1 h2 h3 (f_X1_become n0 n3) (f_X1_become n1 n3) (f_X1_becomeAny n2) p1) (cwV 1 hts (gV wG_c wm_252 wm_253 wm_254 wm_122 wm_251) rfl rfl rfl (by decide +kernel) ⟨Nat.le_of_ble_eq_true rfl, Nat.le_of_ble_eq_true rfl⟩) hK hP hD [0, 1, 2, 3] (by decide) rfl [] rfl 0 2 rfl rfl rfl rfl hl.1 rfl (Nat.le_of_ble_eq_true rfl) dX2_compute_72 ⟨Nat.le_of_ble_eq_true rfl, Nat.le_of_ble_eq_true rfl⟩) hP hD hS hA [0, 1, 2, 3] rfl (sp_fc (sp_fc (sp_fc (sp_fc sp_f0)))) (fun H locs hP hD hS => ?_)
          have hP : va_P D vwCl ([(h0, .inr (2, [.ref h1, .ref h2, .ref h3])), (h1, .inr (1, nm_fs ((f_X2_apply (f_X1_become n0 n3) (f_X1_become n1 n3) (f_X1_becomeAny n2) p1).1))), (h2, .inr (1, nm_fs ((f_X2_apply (f_X1_become n0 n3) (f_X1_become n1 n3) (f_X1_becomeAny n2) p1).2.1))), (h3, .inr (1, nm_fs ((f_X2_apply (f_X1_become n0 n3) (f_X1_become n1 n3) (f_X1_becomeAny n2) p1).2.2))), (h4, .inr (1, nm_fs n3))]) H := hP
          have hD : va_D A ([(h0, .inr (2, [.ref h1, .ref h2, .ref h3])), (h1, .inr (1, nm_fs ((f_X2_apply (f_X1_become n0 n3) (f_X1_become n1 n3) (f_X1_becomeAny n2) p1).1))), (h2, .inr (1, nm_fs ((f_X2_apply (f_X1_become n0 n3) (f_X1_become n1 n3) (f_X1_becomeAny n2) p1).2.1))), (h3, .inr (1, nm_fs ((f_X2_apply (f_X1_become n0 n3) (f_X1_become n1 n3) (f_X1_becomeAny n2) p1).2.2))), (h4, .inr (1, nm_fs n3))]) := hD
          refine lv_aload_n hx hb dX2_compute_75 rfl (lv_at hl 0 rfl) ?_
          refine va_get (D := D) (ci := 2) (v := .ref h3) (C := RX2) (T := TX2) (N := 3) hx hb hts hi2 hown hK hP 0 rfl rfl 2 (by decide) hk2 (fun _ h9 => h9) rfl dX2_compute_76 ?_
          refine sp_callz (sp_runV (As := []) (rest := []) C (c_X1_settle l D h3 ((f_X2_apply (f_X1_become n0 n3) (f_X1_become n1 n3) (f_X1_becomeAny n2) p1).2.2)) (cwV 0 hts (gV wG_c wm_250 wm_100 wm_101 wm_31 wm_98) rfl rfl rfl (by decide +kernel) ⟨Nat.le_of_ble_eq_true rfl, Nat.le_of_ble_eq_true rfl⟩) hK hP hD [3] (by decide) rfl [] rfl 0 1 rfl rfl rfl rfl hl.1 rfl (Nat.le_of_ble_eq_true rfl) dX2_compute_79 ⟨Nat.le_of_ble_eq_true rfl, Nat.le_of_ble_eq_true rfl⟩) hP hD hS hA [3] rfl (sp_fc sp_f0) (fun H locs z13 hP hD hS => ?_)
          have hP : va_P D vwCl ([(h0, .inr (2, [.ref h1, .ref h2, .ref h3])), (h1, .inr (1, nm_fs ((f_X2_apply (f_X1_become n0 n3) (f_X1_become n1 n3) (f_X1_becomeAny n2) p1).1))), (h2, .inr (1, nm_fs ((f_X2_apply (f_X1_become n0 n3) (f_X1_become n1 n3) (f_X1_becomeAny n2) p1).2.1))), (h3, .inr (1, nm_fs ((f_X1_settle ((f_X2_apply (f_X1_become n0 n3) (f_X1_become n1 n3) (f_X1_becomeAny n2) p1).2.2)).1))), (h4, .inr (1, nm_fs n3))]) H := hP
          have hD : va_D A ([(h0, .inr (2, [.ref h1, .ref h2, .ref h3])), (h1, .inr (1, nm_fs ((f_X2_apply (f_X1_become n0 n3) (f_X1_become n1 n3) (f_X1_becomeAny n2) p1).1))), (h2, .inr (1, nm_fs ((f_X2_apply (f_X1_become n0 n3) (f_X1_become n1 n3) (f_X1_becomeAny n2) p1).2.1))), (h3, .inr (1, nm_fs ((f_X1_settle ((f_X2_apply (f_X1_become n0 n3) (f_X1_become n1 n3) (f_X1_becomeAny n2) p1).2.2)).1))), (h4, .inr (1, nm_fs n3))]) := hD
          refine lv_if_ne (tgt := 92) hx hb dX2_compute_82 (by decide) (fun c14 => ?_) (fun c14 => ?_)
          · refine lv_iload hx hb dX2_compute_92 (lv_at hl 4 rfl) ?_
            refine lv_if_eq (tgt := 104) hx hb dX2_compute_94 (by decide) (fun _ => ?_) (fun h9 => absurd c1 h9)
            refine lv_aload_n hx hb dX2_compute_104 rfl (lv_at hl 0 rfl) ?_
            refine va_get (D := D) (ci := 2) (v := .ref h3) (C := RX2) (T := TX2) (N := 3) hx hb hts hi2 hown hK hP 0 rfl rfl 2 (by decide) hk2 (fun _ h9 => h9) rfl dX2_compute_105 ?_
            have e9 : f_X2_compute n0 n1 n2 n3 n3 p1 p4 = (((f_X2_apply (f_X1_become n0 n3) (f_X1_become n1 n3) (f_X1_becomeAny n2) p1).1), ((f_X2_apply (f_X1_become n0 n3) (f_X1_become n1 n3) (f_X1_becomeAny n2) p1).2.1), ((f_X1_settle ((f_X2_apply (f_X1_become n0 n3) (f_X1_become n1 n3) (f_X1_becomeAny n2) p1).2.2)).1)) := (if_pos c1).trans ((if_neg c2).trans ((if_neg c7).trans ((if_neg c12).trans ((if_neg c14).trans (rfl)))))
            rw [e9]
            exact sp_aret C hAe hP hK hD hS dX2_compute_108
          · refine lv_aload_n hx hb dX2_compute_85 rfl (lv_at hl 0 rfl) ?_
            refine va_get (D := D) (ci := 2) (v := .ref h3) (C := RX2) (T := TX2) (N := 3) hx hb hts hi2 hown hK hP 0 rfl rfl 2 (by decide) hk2 (fun _ h9 => h9) rfl dX2_compute_86 ?_
            refine sp_callv (sp_runV (As := []) (rest := []) C (c_X1_becomeAny l D h3 ((f_X1_settle ((f_X2_apply (f_X1_become n0 n3) (f_X1_become n1 n3) (f_X1_becomeAny n2) p1).2.2)).1)) (cwV 0 hts (gV wG_c wm_243 wm_244 wm_245 wm_31 wm_242) rfl rfl rfl (by decide +kernel) ⟨Nat.le_of_ble_eq_true rfl, Nat.le_of_ble_eq_true rfl⟩) hK hP hD [3] (by decide) rfl [] rfl 0 1 rfl rfl rfl rfl hl.1 rfl (Nat.le_of_ble_eq_true rfl) dX2_compute_89 ⟨Nat.le_of_ble_eq_true rfl, Nat.le_of_ble_eq_true rfl⟩) hP hD hS hA [3] rfl (sp_fc sp_f0) (fun H locs hP hD hS => ?_)
            have hP : va_P D vwCl ([(h0, .inr (2, [.ref h1, .ref h2, .ref h3])), (h1, .inr (1, nm_fs ((f_X2_apply (f_X1_become n0 n3) (f_X1_become n1 n3) (f_X1_becomeAny n2) p1).1))), (h2, .inr (1, nm_fs ((f_X2_apply (f_X1_become n0 n3) (f_X1_become n1 n3) (f_X1_becomeAny n2) p1).2.1))), (h3, .inr (1, nm_fs (f_X1_becomeAny ((f_X1_settle ((f_X2_apply (f_X1_become n0 n3) (f_X1_become n1 n3) (f_X1_becomeAny n2) p1).2.2)).1)))), (h4, .inr (1, nm_fs n3))]) H := hP
            have hD : va_D A ([(h0, .inr (2, [.ref h1, .ref h2, .ref h3])), (h1, .inr (1, nm_fs ((f_X2_apply (f_X1_become n0 n3) (f_X1_become n1 n3) (f_X1_becomeAny n2) p1).1))), (h2, .inr (1, nm_fs ((f_X2_apply (f_X1_become n0 n3) (f_X1_become n1 n3) (f_X1_becomeAny n2) p1).2.1))), (h3, .inr (1, nm_fs (f_X1_becomeAny ((f_X1_settle ((f_X2_apply (f_X1_become n0 n3) (f_X1_become n1 n3) (f_X1_becomeAny n2) p1).2.2)).1)))), (h4, .inr (1, nm_fs n3))]) := hD
            refine lv_iload hx hb dX2_compute_92 (lv_at hl 4 rfl) ?_
            refine lv_if_eq (tgt := 104) hx hb dX2_compute_94 (by decide) (fun _ => ?_) (fun h9 => absurd c1 h9)
            refine lv_aload_n hx hb dX2_compute_104 rfl (lv_at hl 0 rfl) ?_
            refine va_get (D := D) (ci := 2) (v := .ref h3) (C := RX2) (T := TX2) (N := 3) hx hb hts hi2 hown hK hP 0 rfl rfl 2 (by decide) hk2 (fun _ h9 => h9) rfl dX2_compute_105 ?_
            have e9 : f_X2_compute n0 n1 n2 n3 n3 p1 p4 = (((f_X2_apply (f_X1_become n0 n3) (f_X1_become n1 n3) (f_X1_becomeAny n2) p1).1), ((f_X2_apply (f_X1_become n0 n3) (f_X1_become n1 n3) (f_X1_becomeAny n2) p1).2.1), (f_X1_becomeAny ((f_X1_settle ((f_X2_apply (f_X1_become n0 n3) (f_X1_become n1 n3) (f_X1_becomeAny n2) p1).2.2)).1))) := (if_pos c1).trans ((if_neg c2).trans ((if_neg c7).trans ((if_neg c12).trans ((if_pos c14).trans (rfl)))))
            rw [e9]
            exact sp_aret C hAe hP hK hD hS dX2_compute_108
        · refine lv_aload_n hx hb dX2_compute_60 rfl (lv_at hl 0 rfl) ?_
          refine lv_iload_n hx hb dX2_compute_61 rfl (lv_at hl 1 rfl) ?_
          refine lv_iload hx hb dX2_compute_62 (lv_at hl 4 rfl) ?_
          refine sp_callv (sp_runV (As := [.int p1, .int p4]) (rest := []) C (c_X2_shift l D h0 h1 h2 h3 (f_X1_become n0 n3) (f_X1_become n1 n3) (f_X1_becomeAny n2) p1 p4) (cwV 2 hts (gV wG_c wm_247 wm_248 wm_249 wm_122 wm_246) rfl rfl rfl (by decide +kernel) ⟨Nat.le_of_ble_eq_true rfl, Nat.le_of_ble_eq_true rfl⟩) hK hP hD [0, 1, 2, 3] (by decide) rfl [] rfl 0 2 rfl rfl rfl rfl hl.1 rfl (Nat.le_of_ble_eq_true rfl) dX2_compute_64 ⟨Nat.le_of_ble_eq_true rfl, Nat.le_of_ble_eq_true rfl⟩) hP hD hS hA [0, 1, 2, 3] rfl (sp_fc (sp_fc (sp_fc (sp_fc sp_f0)))) (fun H locs hP hD hS => ?_)
          have hP : va_P D vwCl ([(h0, .inr (2, [.ref h1, .ref h2, .ref h3])), (h1, .inr (1, nm_fs (f_X1_become n0 n3))), (h2, .inr (1, nm_fs (f_X1_become n1 n3))), (h3, .inr (1, nm_fs (f_X2_shift (f_X1_become n0 n3) (f_X1_become n1 n3) (f_X1_becomeAny n2) p1 p4))), (h4, .inr (1, nm_fs n3))]) H := hP
          have hD : va_D A ([(h0, .inr (2, [.ref h1, .ref h2, .ref h3])), (h1, .inr (1, nm_fs (f_X1_become n0 n3))), (h2, .inr (1, nm_fs (f_X1_become n1 n3))), (h3, .inr (1, nm_fs (f_X2_shift (f_X1_become n0 n3) (f_X1_become n1 n3) (f_X1_becomeAny n2) p1 p4))), (h4, .inr (1, nm_fs n3))]) := hD
          refine lv_goto (tgt := 75) hx hb dX2_compute_67 (by decide) ?_
          refine lv_aload_n hx hb dX2_compute_75 rfl (lv_at hl 0 rfl) ?_
          refine va_get (D := D) (ci := 2) (v := .ref h3) (C := RX2) (T := TX2) (N := 3) hx hb hts hi2 hown hK hP 0 rfl rfl 2 (by decide) hk2 (fun _ h9 => h9) rfl dX2_compute_76 ?_
          refine sp_callz (sp_runV (As := []) (rest := []) C (c_X1_settle l D h3 (f_X2_shift (f_X1_become n0 n3) (f_X1_become n1 n3) (f_X1_becomeAny n2) p1 p4)) (cwV 0 hts (gV wG_c wm_250 wm_100 wm_101 wm_31 wm_98) rfl rfl rfl (by decide +kernel) ⟨Nat.le_of_ble_eq_true rfl, Nat.le_of_ble_eq_true rfl⟩) hK hP hD [3] (by decide) rfl [] rfl 0 1 rfl rfl rfl rfl hl.1 rfl (Nat.le_of_ble_eq_true rfl) dX2_compute_79 ⟨Nat.le_of_ble_eq_true rfl, Nat.le_of_ble_eq_true rfl⟩) hP hD hS hA [3] rfl (sp_fc sp_f0) (fun H locs z17 hP hD hS => ?_)
          have hP : va_P D vwCl ([(h0, .inr (2, [.ref h1, .ref h2, .ref h3])), (h1, .inr (1, nm_fs (f_X1_become n0 n3))), (h2, .inr (1, nm_fs (f_X1_become n1 n3))), (h3, .inr (1, nm_fs ((f_X1_settle (f_X2_shift (f_X1_become n0 n3) (f_X1_become n1 n3) (f_X1_becomeAny n2) p1 p4)).1))), (h4, .inr (1, nm_fs n3))]) H := hP
          have hD : va_D A ([(h0, .inr (2, [.ref h1, .ref h2, .ref h3])), (h1, .inr (1, nm_fs (f_X1_become n0 n3))), (h2, .inr (1, nm_fs (f_X1_become n1 n3))), (h3, .inr (1, nm_fs ((f_X1_settle (f_X2_shift (f_X1_become n0 n3) (f_X1_become n1 n3) (f_X1_becomeAny n2) p1 p4)).1))), (h4, .inr (1, nm_fs n3))]) := hD
          refine lv_if_ne (tgt := 92) hx hb dX2_compute_82 (by decide) (fun c18 => ?_) (fun c18 => ?_)
          · refine lv_iload hx hb dX2_compute_92 (lv_at hl 4 rfl) ?_
            refine lv_if_eq (tgt := 104) hx hb dX2_compute_94 (by decide) (fun _ => ?_) (fun h9 => absurd c1 h9)
            refine lv_aload_n hx hb dX2_compute_104 rfl (lv_at hl 0 rfl) ?_
            refine va_get (D := D) (ci := 2) (v := .ref h3) (C := RX2) (T := TX2) (N := 3) hx hb hts hi2 hown hK hP 0 rfl rfl 2 (by decide) hk2 (fun _ h9 => h9) rfl dX2_compute_105 ?_
            have e9 : f_X2_compute n0 n1 n2 n3 n3 p1 p4 = ((f_X1_become n0 n3), (f_X1_become n1 n3), ((f_X1_settle (f_X2_shift (f_X1_become n0 n3) (f_X1_become n1 n3) (f_X1_becomeAny n2) p1 p4)).1)) := (if_pos c1).trans ((if_neg c2).trans ((if_neg c7).trans ((if_pos c12).trans ((if_neg c18).trans (rfl)))))
            rw [e9]
            exact sp_aret C hAe hP hK hD hS dX2_compute_108
          · refine lv_aload_n hx hb dX2_compute_85 rfl (lv_at hl 0 rfl) ?_
            refine va_get (D := D) (ci := 2) (v := .ref h3) (C := RX2) (T := TX2) (N := 3) hx hb hts hi2 hown hK hP 0 rfl rfl 2 (by decide) hk2 (fun _ h9 => h9) rfl dX2_compute_86 ?_
            refine sp_callv (sp_runV (As := []) (rest := []) C (c_X1_becomeAny l D h3 ((f_X1_settle (f_X2_shift (f_X1_become n0 n3) (f_X1_become n1 n3) (f_X1_becomeAny n2) p1 p4)).1)) (cwV 0 hts (gV wG_c wm_243 wm_244 wm_245 wm_31 wm_242) rfl rfl rfl (by decide +kernel) ⟨Nat.le_of_ble_eq_true rfl, Nat.le_of_ble_eq_true rfl⟩) hK hP hD [3] (by decide) rfl [] rfl 0 1 rfl rfl rfl rfl hl.1 rfl (Nat.le_of_ble_eq_true rfl) dX2_compute_89 ⟨Nat.le_of_ble_eq_true rfl, Nat.le_of_ble_eq_true rfl⟩) hP hD hS hA [3] rfl (sp_fc sp_f0) (fun H locs hP hD hS => ?_)
            have hP : va_P D vwCl ([(h0, .inr (2, [.ref h1, .ref h2, .ref h3])), (h1, .inr (1, nm_fs (f_X1_become n0 n3))), (h2, .inr (1, nm_fs (f_X1_become n1 n3))), (h3, .inr (1, nm_fs (f_X1_becomeAny ((f_X1_settle (f_X2_shift (f_X1_become n0 n3) (f_X1_become n1 n3) (f_X1_becomeAny n2) p1 p4)).1)))), (h4, .inr (1, nm_fs n3))]) H := hP
            have hD : va_D A ([(h0, .inr (2, [.ref h1, .ref h2, .ref h3])), (h1, .inr (1, nm_fs (f_X1_become n0 n3))), (h2, .inr (1, nm_fs (f_X1_become n1 n3))), (h3, .inr (1, nm_fs (f_X1_becomeAny ((f_X1_settle (f_X2_shift (f_X1_become n0 n3) (f_X1_become n1 n3) (f_X1_becomeAny n2) p1 p4)).1)))), (h4, .inr (1, nm_fs n3))]) := hD
            refine lv_iload hx hb dX2_compute_92 (lv_at hl 4 rfl) ?_
            refine lv_if_eq (tgt := 104) hx hb dX2_compute_94 (by decide) (fun _ => ?_) (fun h9 => absurd c1 h9)
            refine lv_aload_n hx hb dX2_compute_104 rfl (lv_at hl 0 rfl) ?_
            refine va_get (D := D) (ci := 2) (v := .ref h3) (C := RX2) (T := TX2) (N := 3) hx hb hts hi2 hown hK hP 0 rfl rfl 2 (by decide) hk2 (fun _ h9 => h9) rfl dX2_compute_105 ?_
            have e9 : f_X2_compute n0 n1 n2 n3 n3 p1 p4 = ((f_X1_become n0 n3), (f_X1_become n1 n3), (f_X1_becomeAny ((f_X1_settle (f_X2_shift (f_X1_become n0 n3) (f_X1_become n1 n3) (f_X1_becomeAny n2) p1 p4)).1))) := (if_pos c1).trans ((if_neg c2).trans ((if_neg c7).trans ((if_pos c12).trans ((if_pos c18).trans (rfl)))))
            rw [e9]
            exact sp_aret C hAe hP hK hD hS dX2_compute_108
  · refine lv_aload_n hx hb dX2_compute_21 rfl (lv_at hl 0 rfl) ?_
    refine va_get (D := D) (ci := 2) (v := .ref h1) (C := RX2) (T := TX2) (N := 3) hx hb hts hi2 hown hK hP 0 rfl rfl 0 (by decide) hk0 (fun _ h9 => h9) rfl dX2_compute_22 ?_
    refine sp_callv (sp_runV (As := []) (rest := []) C (c_X1_narrow l D h1 (f_X1_become n0 n3)) (cwV 0 hts (gV wG_c wm_256 wm_257 wm_258 wm_31 wm_255) rfl rfl rfl (by decide +kernel) ⟨Nat.le_of_ble_eq_true rfl, Nat.le_of_ble_eq_true rfl⟩) hK hP hD [1] (by decide) rfl [] rfl 0 1 rfl rfl rfl rfl hl.1 rfl (Nat.le_of_ble_eq_true rfl) dX2_compute_25 ⟨Nat.le_of_ble_eq_true rfl, Nat.le_of_ble_eq_true rfl⟩) hP hD hS hA [1] rfl (sp_fc sp_f0) (fun H locs hP hD hS => ?_)
    have hP : va_P D vwCl ([(h0, .inr (2, [.ref h1, .ref h2, .ref h3])), (h1, .inr (1, nm_fs (f_X1_narrow (f_X1_become n0 n3)))), (h2, .inr (1, nm_fs (f_X1_become n1 n3))), (h3, .inr (1, nm_fs n2)), (h4, .inr (1, nm_fs n3))]) H := hP
    have hD : va_D A ([(h0, .inr (2, [.ref h1, .ref h2, .ref h3])), (h1, .inr (1, nm_fs (f_X1_narrow (f_X1_become n0 n3)))), (h2, .inr (1, nm_fs (f_X1_become n1 n3))), (h3, .inr (1, nm_fs n2)), (h4, .inr (1, nm_fs n3))]) := hD
    refine lv_aload_n hx hb dX2_compute_28 rfl (lv_at hl 0 rfl) ?_
    refine va_get (D := D) (ci := 2) (v := .ref h2) (C := RX2) (T := TX2) (N := 3) hx hb hts hi2 hown hK hP 0 rfl rfl 1 (by decide) hk1 (fun _ h9 => h9) rfl dX2_compute_29 ?_
    refine sp_callv (sp_runV (As := []) (rest := []) C (c_X1_narrow l D h2 (f_X1_become n1 n3)) (cwV 0 hts (gV wG_c wm_256 wm_257 wm_258 wm_31 wm_255) rfl rfl rfl (by decide +kernel) ⟨Nat.le_of_ble_eq_true rfl, Nat.le_of_ble_eq_true rfl⟩) hK hP hD [2] (by decide) rfl [] rfl 0 1 rfl rfl rfl rfl hl.1 rfl (Nat.le_of_ble_eq_true rfl) dX2_compute_32 ⟨Nat.le_of_ble_eq_true rfl, Nat.le_of_ble_eq_true rfl⟩) hP hD hS hA [2] rfl (sp_fc sp_f0) (fun H locs hP hD hS => ?_)
    have hP : va_P D vwCl ([(h0, .inr (2, [.ref h1, .ref h2, .ref h3])), (h1, .inr (1, nm_fs (f_X1_narrow (f_X1_become n0 n3)))), (h2, .inr (1, nm_fs (f_X1_narrow (f_X1_become n1 n3)))), (h3, .inr (1, nm_fs n2)), (h4, .inr (1, nm_fs n3))]) H := hP
    have hD : va_D A ([(h0, .inr (2, [.ref h1, .ref h2, .ref h3])), (h1, .inr (1, nm_fs (f_X1_narrow (f_X1_become n0 n3)))), (h2, .inr (1, nm_fs (f_X1_narrow (f_X1_become n1 n3)))), (h3, .inr (1, nm_fs n2)), (h4, .inr (1, nm_fs n3))]) := hD
    refine lv_aload_n hx hb dX2_compute_35 rfl (lv_at hl 0 rfl) ?_
    refine va_get (D := D) (ci := 2) (v := .ref h3) (C := RX2) (T := TX2) (N := 3) hx hb hts hi2 hown hK hP 0 rfl rfl 2 (by decide) hk2 (fun _ h9 => h9) rfl dX2_compute_36 ?_
    refine sp_callv (sp_runV (As := []) (rest := []) C (c_X1_becomeAny l D h3 n2) (cwV 0 hts (gV wG_c wm_243 wm_244 wm_245 wm_31 wm_242) rfl rfl rfl (by decide +kernel) ⟨Nat.le_of_ble_eq_true rfl, Nat.le_of_ble_eq_true rfl⟩) hK hP hD [3] (by decide) rfl [] rfl 0 1 rfl rfl rfl rfl hl.1 rfl (Nat.le_of_ble_eq_true rfl) dX2_compute_39 ⟨Nat.le_of_ble_eq_true rfl, Nat.le_of_ble_eq_true rfl⟩) hP hD hS hA [3] rfl (sp_fc sp_f0) (fun H locs hP hD hS => ?_)
    have hP : va_P D vwCl ([(h0, .inr (2, [.ref h1, .ref h2, .ref h3])), (h1, .inr (1, nm_fs (f_X1_narrow (f_X1_become n0 n3)))), (h2, .inr (1, nm_fs (f_X1_narrow (f_X1_become n1 n3)))), (h3, .inr (1, nm_fs (f_X1_becomeAny n2))), (h4, .inr (1, nm_fs n3))]) H := hP
    have hD : va_D A ([(h0, .inr (2, [.ref h1, .ref h2, .ref h3])), (h1, .inr (1, nm_fs (f_X1_narrow (f_X1_become n0 n3)))), (h2, .inr (1, nm_fs (f_X1_narrow (f_X1_become n1 n3)))), (h3, .inr (1, nm_fs (f_X1_becomeAny n2))), (h4, .inr (1, nm_fs n3))]) := hD
    refine lv_iload_n hx hb dX2_compute_42 rfl (lv_at hl 1 rfl) ?_
    refine lv_bipush (v := 8) hx hb dX2_compute_43 (by decide) ?_
    refine lv_icmp_eq (tgt := 60) hx hb dX2_compute_45 (by decide) (fun c21 => ?_) (fun c21 => ?_)
    · refine lv_aload_n hx hb dX2_compute_60 rfl (lv_at hl 0 rfl) ?_
      refine lv_iload_n hx hb dX2_compute_61 rfl (lv_at hl 1 rfl) ?_
      refine lv_iload hx hb dX2_compute_62 (lv_at hl 4 rfl) ?_
      refine sp_callv (sp_runV (As := [.int p1, .int p4]) (rest := []) C (c_X2_shift l D h0 h1 h2 h3 (f_X1_narrow (f_X1_become n0 n3)) (f_X1_narrow (f_X1_become n1 n3)) (f_X1_becomeAny n2) p1 p4) (cwV 2 hts (gV wG_c wm_247 wm_248 wm_249 wm_122 wm_246) rfl rfl rfl (by decide +kernel) ⟨Nat.le_of_ble_eq_true rfl, Nat.le_of_ble_eq_true rfl⟩) hK hP hD [0, 1, 2, 3] (by decide) rfl [] rfl 0 2 rfl rfl rfl rfl hl.1 rfl (Nat.le_of_ble_eq_true rfl) dX2_compute_64 ⟨Nat.le_of_ble_eq_true rfl, Nat.le_of_ble_eq_true rfl⟩) hP hD hS hA [0, 1, 2, 3] rfl (sp_fc (sp_fc (sp_fc (sp_fc sp_f0)))) (fun H locs hP hD hS => ?_)
      have hP : va_P D vwCl ([(h0, .inr (2, [.ref h1, .ref h2, .ref h3])), (h1, .inr (1, nm_fs (f_X1_narrow (f_X1_become n0 n3)))), (h2, .inr (1, nm_fs (f_X1_narrow (f_X1_become n1 n3)))), (h3, .inr (1, nm_fs (f_X2_shift (f_X1_narrow (f_X1_become n0 n3)) (f_X1_narrow (f_X1_become n1 n3)) (f_X1_becomeAny n2) p1 p4))), (h4, .inr (1, nm_fs n3))]) H := hP
      have hD : va_D A ([(h0, .inr (2, [.ref h1, .ref h2, .ref h3])), (h1, .inr (1, nm_fs (f_X1_narrow (f_X1_become n0 n3)))), (h2, .inr (1, nm_fs (f_X1_narrow (f_X1_become n1 n3)))), (h3, .inr (1, nm_fs (f_X2_shift (f_X1_narrow (f_X1_become n0 n3)) (f_X1_narrow (f_X1_become n1 n3)) (f_X1_becomeAny n2) p1 p4))), (h4, .inr (1, nm_fs n3))]) := hD
      refine lv_goto (tgt := 75) hx hb dX2_compute_67 (by decide) ?_
      refine lv_aload_n hx hb dX2_compute_75 rfl (lv_at hl 0 rfl) ?_
      refine va_get (D := D) (ci := 2) (v := .ref h3) (C := RX2) (T := TX2) (N := 3) hx hb hts hi2 hown hK hP 0 rfl rfl 2 (by decide) hk2 (fun _ h9 => h9) rfl dX2_compute_76 ?_
      refine sp_callz (sp_runV (As := []) (rest := []) C (c_X1_settle l D h3 (f_X2_shift (f_X1_narrow (f_X1_become n0 n3)) (f_X1_narrow (f_X1_become n1 n3)) (f_X1_becomeAny n2) p1 p4)) (cwV 0 hts (gV wG_c wm_250 wm_100 wm_101 wm_31 wm_98) rfl rfl rfl (by decide +kernel) ⟨Nat.le_of_ble_eq_true rfl, Nat.le_of_ble_eq_true rfl⟩) hK hP hD [3] (by decide) rfl [] rfl 0 1 rfl rfl rfl rfl hl.1 rfl (Nat.le_of_ble_eq_true rfl) dX2_compute_79 ⟨Nat.le_of_ble_eq_true rfl, Nat.le_of_ble_eq_true rfl⟩) hP hD hS hA [3] rfl (sp_fc sp_f0) (fun H locs z22 hP hD hS => ?_)
      have hP : va_P D vwCl ([(h0, .inr (2, [.ref h1, .ref h2, .ref h3])), (h1, .inr (1, nm_fs (f_X1_narrow (f_X1_become n0 n3)))), (h2, .inr (1, nm_fs (f_X1_narrow (f_X1_become n1 n3)))), (h3, .inr (1, nm_fs ((f_X1_settle (f_X2_shift (f_X1_narrow (f_X1_become n0 n3)) (f_X1_narrow (f_X1_become n1 n3)) (f_X1_becomeAny n2) p1 p4)).1))), (h4, .inr (1, nm_fs n3))]) H := hP
      have hD : va_D A ([(h0, .inr (2, [.ref h1, .ref h2, .ref h3])), (h1, .inr (1, nm_fs (f_X1_narrow (f_X1_become n0 n3)))), (h2, .inr (1, nm_fs (f_X1_narrow (f_X1_become n1 n3)))), (h3, .inr (1, nm_fs ((f_X1_settle (f_X2_shift (f_X1_narrow (f_X1_become n0 n3)) (f_X1_narrow (f_X1_become n1 n3)) (f_X1_becomeAny n2) p1 p4)).1))), (h4, .inr (1, nm_fs n3))]) := hD
      refine lv_if_ne (tgt := 92) hx hb dX2_compute_82 (by decide) (fun c23 => ?_) (fun c23 => ?_)
      · refine lv_iload hx hb dX2_compute_92 (lv_at hl 4 rfl) ?_
        refine lv_if_eq (tgt := 104) hx hb dX2_compute_94 (by decide) (fun h9 => absurd h9 c1) (fun _ => ?_)
        refine lv_aload_n hx hb dX2_compute_97 rfl (lv_at hl 0 rfl) ?_
        refine va_get (D := D) (ci := 2) (v := .ref h3) (C := RX2) (T := TX2) (N := 3) hx hb hts hi2 hown hK hP 0 rfl rfl 2 (by decide) hk2 (fun _ h9 => h9) rfl dX2_compute_98 ?_
        refine sp_callv (sp_runV (As := []) (rest := []) C (c_X1_narrow l D h3 ((f_X1_settle (f_X2_shift (f_X1_narrow (f_X1_become n0 n3)) (f_X1_narrow (f_X1_become n1 n3)) (f_X1_becomeAny n2) p1 p4)).1)) (cwV 0 hts (gV wG_c wm_256 wm_257 wm_258 wm_31 wm_255) rfl rfl rfl (by decide +kernel) ⟨Nat.le_of_ble_eq_true rfl, Nat.le_of_ble_eq_true rfl⟩) hK hP hD [3] (by decide) rfl [] rfl 0 1 rfl rfl rfl rfl hl.1 rfl (Nat.le_of_ble_eq_true rfl) dX2_compute_101 ⟨Nat.le_of_ble_eq_true rfl, Nat.le_of_ble_eq_true rfl⟩) hP hD hS hA [3] rfl (sp_fc sp_f0) (fun H locs hP hD hS => ?_)
        have hP : va_P D vwCl ([(h0, .inr (2, [.ref h1, .ref h2, .ref h3])), (h1, .inr (1, nm_fs (f_X1_narrow (f_X1_become n0 n3)))), (h2, .inr (1, nm_fs (f_X1_narrow (f_X1_become n1 n3)))), (h3, .inr (1, nm_fs (f_X1_narrow ((f_X1_settle (f_X2_shift (f_X1_narrow (f_X1_become n0 n3)) (f_X1_narrow (f_X1_become n1 n3)) (f_X1_becomeAny n2) p1 p4)).1)))), (h4, .inr (1, nm_fs n3))]) H := hP
        have hD : va_D A ([(h0, .inr (2, [.ref h1, .ref h2, .ref h3])), (h1, .inr (1, nm_fs (f_X1_narrow (f_X1_become n0 n3)))), (h2, .inr (1, nm_fs (f_X1_narrow (f_X1_become n1 n3)))), (h3, .inr (1, nm_fs (f_X1_narrow ((f_X1_settle (f_X2_shift (f_X1_narrow (f_X1_become n0 n3)) (f_X1_narrow (f_X1_become n1 n3)) (f_X1_becomeAny n2) p1 p4)).1)))), (h4, .inr (1, nm_fs n3))]) := hD
        refine lv_aload_n hx hb dX2_compute_104 rfl (lv_at hl 0 rfl) ?_
        refine va_get (D := D) (ci := 2) (v := .ref h3) (C := RX2) (T := TX2) (N := 3) hx hb hts hi2 hown hK hP 0 rfl rfl 2 (by decide) hk2 (fun _ h9 => h9) rfl dX2_compute_105 ?_
        have e9 : f_X2_compute n0 n1 n2 n3 n3 p1 p4 = ((f_X1_narrow (f_X1_become n0 n3)), (f_X1_narrow (f_X1_become n1 n3)), (f_X1_narrow ((f_X1_settle (f_X2_shift (f_X1_narrow (f_X1_become n0 n3)) (f_X1_narrow (f_X1_become n1 n3)) (f_X1_becomeAny n2) p1 p4)).1))) := (if_neg c1).trans ((if_pos c21).trans ((if_neg c23).trans (rfl)))
        rw [e9]
        exact sp_aret C hAe hP hK hD hS dX2_compute_108
      · refine lv_aload_n hx hb dX2_compute_85 rfl (lv_at hl 0 rfl) ?_
        refine va_get (D := D) (ci := 2) (v := .ref h3) (C := RX2) (T := TX2) (N := 3) hx hb hts hi2 hown hK hP 0 rfl rfl 2 (by decide) hk2 (fun _ h9 => h9) rfl dX2_compute_86 ?_
        refine sp_callv (sp_runV (As := []) (rest := []) C (c_X1_becomeAny l D h3 ((f_X1_settle (f_X2_shift (f_X1_narrow (f_X1_become n0 n3)) (f_X1_narrow (f_X1_become n1 n3)) (f_X1_becomeAny n2) p1 p4)).1)) (cwV 0 hts (gV wG_c wm_243 wm_244 wm_245 wm_31 wm_242) rfl rfl rfl (by decide +kernel) ⟨Nat.le_of_ble_eq_true rfl, Nat.le_of_ble_eq_true rfl⟩) hK hP hD [3] (by decide) rfl [] rfl 0 1 rfl rfl rfl rfl hl.1 rfl (Nat.le_of_ble_eq_true rfl) dX2_compute_89 ⟨Nat.le_of_ble_eq_true rfl, Nat.le_of_ble_eq_true rfl⟩) hP hD hS hA [3] rfl (sp_fc sp_f0) (fun H locs hP hD hS => ?_)
        have hP : va_P D vwCl ([(h0, .inr (2, [.ref h1, .ref h2, .ref h3])), (h1, .inr (1, nm_fs (f_X1_narrow (f_X1_become n0 n3)))), (h2, .inr (1, nm_fs (f_X1_narrow (f_X1_become n1 n3)))), (h3, .inr (1, nm_fs (f_X1_becomeAny ((f_X1_settle (f_X2_shift (f_X1_narrow (f_X1_become n0 n3)) (f_X1_narrow (f_X1_become n1 n3)) (f_X1_becomeAny n2) p1 p4)).1)))), (h4, .inr (1, nm_fs n3))]) H := hP
        have hD : va_D A ([(h0, .inr (2, [.ref h1, .ref h2, .ref h3])), (h1, .inr (1, nm_fs (f_X1_narrow (f_X1_become n0 n3)))), (h2, .inr (1, nm_fs (f_X1_narrow (f_X1_become n1 n3)))), (h3, .inr (1, nm_fs (f_X1_becomeAny ((f_X1_settle (f_X2_shift (f_X1_narrow (f_X1_become n0 n3)) (f_X1_narrow (f_X1_become n1 n3)) (f_X1_becomeAny n2) p1 p4)).1)))), (h4, .inr (1, nm_fs n3))]) := hD
        refine lv_iload hx hb dX2_compute_92 (lv_at hl 4 rfl) ?_
        refine lv_if_eq (tgt := 104) hx hb dX2_compute_94 (by decide) (fun h9 => absurd h9 c1) (fun _ => ?_)
        refine lv_aload_n hx hb dX2_compute_97 rfl (lv_at hl 0 rfl) ?_
        refine va_get (D := D) (ci := 2) (v := .ref h3) (C := RX2) (T := TX2) (N := 3) hx hb hts hi2 hown hK hP 0 rfl rfl 2 (by decide) hk2 (fun _ h9 => h9) rfl dX2_compute_98 ?_
        refine sp_callv (sp_runV (As := []) (rest := []) C (c_X1_narrow l D h3 (f_X1_becomeAny ((f_X1_settle (f_X2_shift (f_X1_narrow (f_X1_become n0 n3)) (f_X1_narrow (f_X1_become n1 n3)) (f_X1_becomeAny n2) p1 p4)).1))) (cwV 0 hts (gV wG_c wm_256 wm_257 wm_258 wm_31 wm_255) rfl rfl rfl (by decide +kernel) ⟨Nat.le_of_ble_eq_true rfl, Nat.le_of_ble_eq_true rfl⟩) hK hP hD [3] (by decide) rfl [] rfl 0 1 rfl rfl rfl rfl hl.1 rfl (Nat.le_of_ble_eq_true rfl) dX2_compute_101 ⟨Nat.le_of_ble_eq_true rfl, Nat.le_of_ble_eq_true rfl⟩) hP hD hS hA [3] rfl (sp_fc sp_f0) (fun H locs hP hD hS => ?_)
        have hP : va_P D vwCl ([(h0, .inr (2, [.ref h1, .ref h2, .ref h3])), (h1, .inr (1, nm_fs (f_X1_narrow (f_X1_become n0 n3)))), (h2, .inr (1, nm_fs (f_X1_narrow (f_X1_become n1 n3)))), (h3, .inr (1, nm_fs (f_X1_narrow (f_X1_becomeAny ((f_X1_settle (f_X2_shift (f_X1_narrow (f_X1_become n0 n3)) (f_X1_narrow (f_X1_become n1 n3)) (f_X1_becomeAny n2) p1 p4)).1))))), (h4, .inr (1, nm_fs n3))]) H := hP
        have hD : va_D A ([(h0, .inr (2, [.ref h1, .ref h2, .ref h3])), (h1, .inr (1, nm_fs (f_X1_narrow (f_X1_become n0 n3)))), (h2, .inr (1, nm_fs (f_X1_narrow (f_X1_become n1 n3)))), (h3, .inr (1, nm_fs (f_X1_narrow (f_X1_becomeAny ((f_X1_settle (f_X2_shift (f_X1_narrow (f_X1_become n0 n3)) (f_X1_narrow (f_X1_become n1 n3)) (f_X1_becomeAny n2) p1 p4)).1))))), (h4, .inr (1, nm_fs n3))]) := hD
        refine lv_aload_n hx hb dX2_compute_104 rfl (lv_at hl 0 rfl) ?_
        refine va_get (D := D) (ci := 2) (v := .ref h3) (C := RX2) (T := TX2) (N := 3) hx hb hts hi2 hown hK hP 0 rfl rfl 2 (by decide) hk2 (fun _ h9 => h9) rfl dX2_compute_105 ?_
        have e9 : f_X2_compute n0 n1 n2 n3 n3 p1 p4 = ((f_X1_narrow (f_X1_become n0 n3)), (f_X1_narrow (f_X1_become n1 n3)), (f_X1_narrow (f_X1_becomeAny ((f_X1_settle (f_X2_shift (f_X1_narrow (f_X1_become n0 n3)) (f_X1_narrow (f_X1_become n1 n3)) (f_X1_becomeAny n2) p1 p4)).1)))) := (if_neg c1).trans ((if_pos c21).trans ((if_pos c23).trans (rfl)))
        rw [e9]
        exact sp_aret C hAe hP hK hD hS dX2_compute_108
    · refine lv_iload_n hx hb dX2_compute_48 rfl (lv_at hl 1 rfl) ?_
      refine lv_bipush (v := 9) hx hb dX2_compute_49 (by decide) ?_
      refine lv_icmp_eq (tgt := 60) hx hb dX2_compute_51 (by decide) (fun c26 => ?_) (fun c26 => ?_)
      · refine lv_aload_n hx hb dX2_compute_60 rfl (lv_at hl 0 rfl) ?_
        refine lv_iload_n hx hb dX2_compute_61 rfl (lv_at hl 1 rfl) ?_
        refine lv_iload hx hb dX2_compute_62 (lv_at hl 4 rfl) ?_
        refine sp_callv (sp_runV (As := [.int p1, .int p4]) (rest := []) C (c_X2_shift l D h0 h1 h2 h3 (f_X1_narrow (f_X1_become n0 n3)) (f_X1_narrow (f_X1_become n1 n3)) (f_X1_becomeAny n2) p1 p4) (cwV 2 hts (gV wG_c wm_247 wm_248 wm_249 wm_122 wm_246) rfl rfl rfl (by decide +kernel) ⟨Nat.le_of_ble_eq_true rfl, Nat.le_of_ble_eq_true rfl⟩) hK hP hD [0, 1, 2, 3] (by decide) rfl [] rfl 0 2 rfl rfl rfl rfl hl.1 rfl (Nat.le_of_ble_eq_true rfl) dX2_compute_64 ⟨Nat.le_of_ble_eq_true rfl, Nat.le_of_ble_eq_true rfl⟩) hP hD hS hA [0, 1, 2, 3] rfl (sp_fc (sp_fc (sp_fc (sp_fc sp_f0)))) (fun H locs hP hD hS => ?_)
        have hP : va_P D vwCl ([(h0, .inr (2, [.ref h1, .ref h2, .ref h3])), (h1, .inr (1, nm_fs (f_X1_narrow (f_X1_become n0 n3)))), (h2, .inr (1, nm_fs (f_X1_narrow (f_X1_become n1 n3)))), (h3, .inr (1, nm_fs (f_X2_shift (f_X1_narrow (f_X1_become n0 n3)) (f_X1_narrow (f_X1_become n1 n3)) (f_X1_becomeAny n2) p1 p4))), (h4, .inr (1, nm_fs n3))]) H := hP
        have hD : va_D A ([(h0, .inr (2, [.ref h1, .ref h2, .ref h3])), (h1, .inr (1, nm_fs (f_X1_narrow (f_X1_become n0 n3)))), (h2, .inr (1, nm_fs (f_X1_narrow (f_X1_become n1 n3)))), (h3, .inr (1, nm_fs (f_X2_shift (f_X1_narrow (f_X1_become n0 n3)) (f_X1_narrow (f_X1_become n1 n3)) (f_X1_becomeAny n2) p1 p4))), (h4, .inr (1, nm_fs n3))]) := hD
        refine lv_goto (tgt := 75) hx hb dX2_compute_67 (by decide) ?_
        refine lv_aload_n hx hb dX2_compute_75 rfl (lv_at hl 0 rfl) ?_
        refine va_get (D := D) (ci := 2) (v := .ref h3) (C := RX2) (T := TX2) (N := 3) hx hb hts hi2 hown hK hP 0 rfl rfl 2 (by decide) hk2 (fun _ h9 => h9) rfl dX2_compute_76 ?_
        refine sp_callz (sp_runV (As := []) (rest := []) C (c_X1_settle l D h3 (f_X2_shift (f_X1_narrow (f_X1_become n0 n3)) (f_X1_narrow (f_X1_become n1 n3)) (f_X1_becomeAny n2) p1 p4)) (cwV 0 hts (gV wG_c wm_250 wm_100 wm_101 wm_31 wm_98) rfl rfl rfl (by decide +kernel) ⟨Nat.le_of_ble_eq_true rfl, Nat.le_of_ble_eq_true rfl⟩) hK hP hD [3] (by decide) rfl [] rfl 0 1 rfl rfl rfl rfl hl.1 rfl (Nat.le_of_ble_eq_true rfl) dX2_compute_79 ⟨Nat.le_of_ble_eq_true rfl, Nat.le_of_ble_eq_true rfl⟩) hP hD hS hA [3] rfl (sp_fc sp_f0) (fun H locs z27 hP hD hS => ?_)
        have hP : va_P D vwCl ([(h0, .inr (2, [.ref h1, .ref h2, .ref h3])), (h1, .inr (1, nm_fs (f_X1_narrow (f_X1_become n0 n3)))), (h2, .inr (1, nm_fs (f_X1_narrow (f_X1_become n1 n3)))), (h3, .inr (1, nm_fs ((f_X1_settle (f_X2_shift (f_X1_narrow (f_X1_become n0 n3)) (f_X1_narrow (f_X1_become n1 n3)) (f_X1_becomeAny n2) p1 p4)).1))), (h4, .inr (1, nm_fs n3))]) H := hP
        have hD : va_D A ([(h0, .inr (2, [.ref h1, .ref h2, .ref h3])), (h1, .inr (1, nm_fs (f_X1_narrow (f_X1_become n0 n3)))), (h2, .inr (1, nm_fs (f_X1_narrow (f_X1_become n1 n3)))), (h3, .inr (1, nm_fs ((f_X1_settle (f_X2_shift (f_X1_narrow (f_X1_become n0 n3)) (f_X1_narrow (f_X1_become n1 n3)) (f_X1_becomeAny n2) p1 p4)).1))), (h4, .inr (1, nm_fs n3))]) := hD
        refine lv_if_ne (tgt := 92) hx hb dX2_compute_82 (by decide) (fun c28 => ?_) (fun c28 => ?_)
        · refine lv_iload hx hb dX2_compute_92 (lv_at hl 4 rfl) ?_
          refine lv_if_eq (tgt := 104) hx hb dX2_compute_94 (by decide) (fun h9 => absurd h9 c1) (fun _ => ?_)
          refine lv_aload_n hx hb dX2_compute_97 rfl (lv_at hl 0 rfl) ?_
          refine va_get (D := D) (ci := 2) (v := .ref h3) (C := RX2) (T := TX2) (N := 3) hx hb hts hi2 hown hK hP 0 rfl rfl 2 (by decide) hk2 (fun _ h9 => h9) rfl dX2_compute_98 ?_
          refine sp_callv (sp_runV (As := []) (rest := []) C (c_X1_narrow l D h3 ((f_X1_settle (f_X2_shift (f_X1_narrow (f_X1_become n0 n3)) (f_X1_narrow (f_X1_become n1 n3)) (f_X1_becomeAny n2) p1 p4)).1)) (cwV 0 hts (gV wG_c wm_256 wm_257 wm_258 wm_31 wm_255) rfl rfl rfl (by decide +kernel) ⟨Nat.le_of_ble_eq_true rfl, Nat.le_of_ble_eq_true rfl⟩) hK hP hD [3] (by decide) rfl [] rfl 0 1 rfl rfl rfl rfl hl.1 rfl (Nat.le_of_ble_eq_true rfl) dX2_compute_101 ⟨Nat.le_of_ble_eq_true rfl, Nat.le_of_ble_eq_true rfl⟩) hP hD hS hA [3] rfl (sp_fc sp_f0) (fun H locs hP hD hS => ?_)
          have hP : va_P D vwCl ([(h0, .inr (2, [.ref h1, .ref h2, .ref h3])), (h1, .inr (1, nm_fs (f_X1_narrow (f_X1_become n0 n3)))), (h2, .inr (1, nm_fs (f_X1_narrow (f_X1_become n1 n3)))), (h3, .inr (1, nm_fs (f_X1_narrow ((f_X1_settle (f_X2_shift (f_X1_narrow (f_X1_become n0 n3)) (f_X1_narrow (f_X1_become n1 n3)) (f_X1_becomeAny n2) p1 p4)).1)))), (h4, .inr (1, nm_fs n3))]) H := hP
          have hD : va_D A ([(h0, .inr (2, [.ref h1, .ref h2, .ref h3])), (h1, .inr (1, nm_fs (f_X1_narrow (f_X1_become n0 n3)))), (h2, .inr (1, nm_fs (f_X1_narrow (f_X1_become n1 n3)))), (h3, .inr (1, nm_fs (f_X1_narrow ((f_X1_settle (f_X2_shift (f_X1_narrow (f_X1_become n0 n3)) (f_X1_narrow (f_X1_become n1 n3)) (f_X1_becomeAny n2) p1 p4)).1)))), (h4, .inr (1, nm_fs n3))]) := hD
          refine lv_aload_n hx hb dX2_compute_104 rfl (lv_at hl 0 rfl) ?_
          refine va_get (D := D) (ci := 2) (v := .ref h3) (C := RX2) (T := TX2) (N := 3) hx hb hts hi2 hown hK hP 0 rfl rfl 2 (by decide) hk2 (fun _ h9 => h9) rfl dX2_compute_105 ?_
          have e9 : f_X2_compute n0 n1 n2 n3 n3 p1 p4 = ((f_X1_narrow (f_X1_become n0 n3)), (f_X1_narrow (f_X1_become n1 n3)), (f_X1_narrow ((f_X1_settle (f_X2_shift (f_X1_narrow (f_X1_become n0 n3)) (f_X1_narrow (f_X1_become n1 n3)) (f_X1_becomeAny n2) p1 p4)).1))) := (if_neg c1).trans ((if_neg c21).trans ((if_pos c26).trans ((if_neg c28).trans (rfl))))
          rw [e9]
          exact sp_aret C hAe hP hK hD hS dX2_compute_108
        · refine lv_aload_n hx hb dX2_compute_85 rfl (lv_at hl 0 rfl) ?_
          refine va_get (D := D) (ci := 2) (v := .ref h3) (C := RX2) (T := TX2) (N := 3) hx hb hts hi2 hown hK hP 0 rfl rfl 2 (by decide) hk2 (fun _ h9 => h9) rfl dX2_compute_86 ?_
          refine sp_callv (sp_runV (As := []) (rest := []) C (c_X1_becomeAny l D h3 ((f_X1_settle (f_X2_shift (f_X1_narrow (f_X1_become n0 n3)) (f_X1_narrow (f_X1_become n1 n3)) (f_X1_becomeAny n2) p1 p4)).1)) (cwV 0 hts (gV wG_c wm_243 wm_244 wm_245 wm_31 wm_242) rfl rfl rfl (by decide +kernel) ⟨Nat.le_of_ble_eq_true rfl, Nat.le_of_ble_eq_true rfl⟩) hK hP hD [3] (by decide) rfl [] rfl 0 1 rfl rfl rfl rfl hl.1 rfl (Nat.le_of_ble_eq_true rfl) dX2_compute_89 ⟨Nat.le_of_ble_eq_true rfl, Nat.le_of_ble_eq_true rfl⟩) hP hD hS hA [3] rfl (sp_fc sp_f0) (fun H locs hP hD hS => ?_)
          have hP : va_P D vwCl ([(h0, .inr (2, [.ref h1, .ref h2, .ref h3])), (h1, .inr (1, nm_fs (f_X1_narrow (f_X1_become n0 n3)))), (h2, .inr (1, nm_fs (f_X1_narrow (f_X1_become n1 n3)))), (h3, .inr (1, nm_fs (f_X1_becomeAny ((f_X1_settle (f_X2_shift (f_X1_narrow (f_X1_become n0 n3)) (f_X1_narrow (f_X1_become n1 n3)) (f_X1_becomeAny n2) p1 p4)).1)))), (h4, .inr (1, nm_fs n3))]) H := hP
          have hD : va_D A ([(h0, .inr (2, [.ref h1, .ref h2, .ref h3])), (h1, .inr (1, nm_fs (f_X1_narrow (f_X1_become n0 n3)))), (h2, .inr (1, nm_fs (f_X1_narrow (f_X1_become n1 n3)))), (h3, .inr (1, nm_fs (f_X1_becomeAny ((f_X1_settle (f_X2_shift (f_X1_narrow (f_X1_become n0 n3)) (f_X1_narrow (f_X1_become n1 n3)) (f_X1_becomeAny n2) p1 p4)).1)))), (h4, .inr (1, nm_fs n3))]) := hD
          refine lv_iload hx hb dX2_compute_92 (lv_at hl 4 rfl) ?_
          refine lv_if_eq (tgt := 104) hx hb dX2_compute_94 (by decide) (fun h9 => absurd h9 c1) (fun _ => ?_)
          refine lv_aload_n hx hb dX2_compute_97 rfl (lv_at hl 0 rfl) ?_
          refine va_get (D := D) (ci := 2) (v := .ref h3) (C := RX2) (T := TX2) (N := 3) hx hb hts hi2 hown hK hP 0 rfl rfl 2 (by decide) hk2 (fun _ h9 => h9) rfl dX2_compute_98 ?_
          refine sp_callv (sp_runV (As := []) (rest := []) C (c_X1_narrow l D h3 (f_X1_becomeAny ((f_X1_settle (f_X2_shift (f_X1_narrow (f_X1_become n0 n3)) (f_X1_narrow (f_X1_become n1 n3)) (f_X1_becomeAny n2) p1 p4)).1))) (cwV 0 hts (gV wG_c wm_256 wm_257 wm_258 wm_31 wm_255) rfl rfl rfl (by decide +kernel) ⟨Nat.le_of_ble_eq_true rfl, Nat.le_of_ble_eq_true rfl⟩) hK hP hD [3] (by decide) rfl [] rfl 0 1 rfl rfl rfl rfl hl.1 rfl (Nat.le_of_ble_eq_true rfl) dX2_compute_101 ⟨Nat.le_of_ble_eq_true rfl, Nat.le_of_ble_eq_true rfl⟩) hP hD hS hA [3] rfl (sp_fc sp_f0) (fun H locs hP hD hS => ?_)
          have hP : va_P D vwCl ([(h0, .inr (2, [.ref h1, .ref h2, .ref h3])), (h1, .inr (1, nm_fs (f_X1_narrow (f_X1_become n0 n3)))), (h2, .inr (1, nm_fs (f_X1_narrow (f_X1_become n1 n3)))), (h3, .inr (1, nm_fs (f_X1_narrow (f_X1_becomeAny ((f_X1_settle (f_X2_shift (f_X1_narrow (f_X1_become n0 n3)) (f_X1_narrow (f_X1_become n1 n3)) (f_X1_becomeAny n2) p1 p4)).1))))), (h4, .inr (1, nm_fs n3))]) H := hP
          have hD : va_D A ([(h0, .inr (2, [.ref h1, .ref h2, .ref h3])), (h1, .inr (1, nm_fs (f_X1_narrow (f_X1_become n0 n3)))), (h2, .inr (1, nm_fs (f_X1_narrow (f_X1_become n1 n3)))), (h3, .inr (1, nm_fs (f_X1_narrow (f_X1_becomeAny ((f_X1_settle (f_X2_shift (f_X1_narrow (f_X1_become n0 n3)) (f_X1_narrow (f_X1_become n1 n3)) (f_X1_becomeAny n2) p1 p4)).1))))), (h4, .inr (1, nm_fs n3))]) := hD
          refine lv_aload_n hx hb dX2_compute_104 rfl (lv_at hl 0 rfl) ?_
          refine va_get (D := D) (ci := 2) (v := .ref h3) (C := RX2) (T := TX2) (N := 3) hx hb hts hi2 hown hK hP 0 rfl rfl 2 (by decide) hk2 (fun _ h9 => h9) rfl dX2_compute_105 ?_
          have e9 : f_X2_compute n0 n1 n2 n3 n3 p1 p4 = ((f_X1_narrow (f_X1_become n0 n3)), (f_X1_narrow (f_X1_become n1 n3)), (f_X1_narrow (f_X1_becomeAny ((f_X1_settle (f_X2_shift (f_X1_narrow (f_X1_become n0 n3)) (f_X1_narrow (f_X1_become n1 n3)) (f_X1_becomeAny n2) p1 p4)).1)))) := (if_neg c1).trans ((if_neg c21).trans ((if_pos c26).trans ((if_pos c28).trans (rfl))))
          rw [e9]
          exact sp_aret C hAe hP hK hD hS dX2_compute_108
      · refine lv_iload_n hx hb dX2_compute_54 rfl (lv_at hl 1 rfl) ?_
        refine lv_bipush (v := 10) hx hb dX2_compute_55 (by decide) ?_
        refine lv_icmp_ne (tgt := 70) hx hb dX2_compute_57 (by decide) (fun c31 => ?_) (fun c31 => ?_)
        · refine lv_aload_n hx hb dX2_compute_70 rfl (lv_at hl 0 rfl) ?_
          refine lv_iload_n hx hb dX2_compute_71 rfl (lv_at hl 1 rfl) ?_
          refine sp_callv (sp_runV (As := [.int p1]) (rest := []) C (c_X2_apply l D h0 h1 h2 h3 (f_X1_narrow (f_X1_become n0 n3)) (f_X1_narrow (f_X1_become n1 n3)) (f_X1_becomeAny n2) p1) (cwV 1 hts (gV wG_c wm_252 wm_253 wm_254 wm_122 wm_251) rfl rfl rfl (by decide +kernel) ⟨Nat.le_of_ble_eq_true rfl, Nat.le_of_ble_eq_true rfl⟩) hK hP hD [0, 1, 2, 3] (by decide) rfl [] rfl 0 2 rfl rfl rfl rfl hl.1 rfl (Nat.le_of_ble_eq_true rfl) dX2_compute_72 ⟨Nat.le_of_ble_eq_true rfl, Nat.le_of_ble_eq_true rfl⟩) hP hD hS hA [0, 1, 2, 3] rfl (sp_fc (sp_fc (sp_fc (sp_fc sp_f0)))) (fun H locs hP hD hS => ?_)
          have hP : va_P D vwCl ([(h0, .inr (2, [.ref h1, .ref h2, .ref h3])), (h1, .inr (1, nm_fs ((f_X2_apply (f_X1_narrow (f_X1_become n0 n3)) (f_X1_narrow (f_X1_become n1 n3)) (f_X1_becomeAny n2) p1).1))), (h2, .inr (1, nm_fs ((f_X2_apply (f_X1_narrow (f_X1_become n0 n3)) (f_X1_narrow (f_X1_become n1 n3)) (f_X1_becomeAny n2) p1).2.1))), (h3, .inr (1, nm_fs ((f_X2_apply (f_X1_narrow (f_X1_become n0 n3)) (f_X1_narrow (f_X1_become n1 n3)) (f_X1_becomeAny n2) p1).2.2))), (h4, .inr (1, nm_fs n3))]) H := hP
          have hD : va_D A ([(h0, .inr (2, [.ref h1, .ref h2, .ref h3])), (h1, .inr (1, nm_fs ((f_X2_apply (f_X1_narrow (f_X1_become n0 n3)) (f_X1_narrow (f_X1_become n1 n3)) (f_X1_becomeAny n2) p1).1))), (h2, .inr (1, nm_fs ((f_X2_apply (f_X1_narrow (f_X1_become n0 n3)) (f_X1_narrow (f_X1_become n1 n3)) (f_X1_becomeAny n2) p1).2.1))), (h3, .inr (1, nm_fs ((f_X2_apply (f_X1_narrow (f_X1_become n0 n3)) (f_X1_narrow (f_X1_become n1 n3)) (f_X1_becomeAny n2) p1).2.2))), (h4, .inr (1, nm_fs n3))]) := hD
          refine lv_aload_n hx hb dX2_compute_75 rfl (lv_at hl 0 rfl) ?_
          refine va_get (D := D) (ci := 2) (v := .ref h3) (C := RX2) (T := TX2) (N := 3) hx hb hts hi2 hown hK hP 0 rfl rfl 2 (by decide) hk2 (fun _ h9 => h9) rfl dX2_compute_76 ?_
          refine sp_callz (sp_runV (As := []) (rest := []) C (c_X1_settle l D h3 ((f_X2_apply (f_X1_narrow (f_X1_become n0 n3)) (f_X1_narrow (f_X1_become n1 n3)) (f_X1_becomeAny n2) p1).2.2)) (cwV 0 hts (gV wG_c wm_250 wm_100 wm_101 wm_31 wm_98) rfl rfl rfl (by decide +kernel) ⟨Nat.le_of_ble_eq_true rfl, Nat.le_of_ble_eq_true rfl⟩) hK hP hD [3] (by decide) rfl [] rfl 0 1 rfl rfl rfl rfl hl.1 rfl (Nat.le_of_ble_eq_true rfl) dX2_compute_79 ⟨Nat.le_of_ble_eq_true rfl, Nat.le_of_ble_eq_true rfl⟩) hP hD hS hA [3] rfl (sp_fc sp_f0) (fun H locs z32 hP hD hS => ?_)
          have hP : va_P D vwCl ([(h0, .inr (2, [.ref h1, .ref h2, .ref h3])), (h1, .inr (1, nm_fs ((f_X2_apply (f_X1_narrow (f_X1_become n0 n3)) (f_X1_narrow (f_X1_become n1 n3)) (f_X1_becomeAny n2) p1).1))), (h2, .inr (1, nm_fs ((f_X2_apply (f_X1_narrow (f_X1_become n0 n3)) (f_X1_narrow (f_X1_become n1 n3)) (f_X1_becomeAny n2) p1).2.1))), (h3, .inr (1, nm_fs ((f_X1_settle ((f_X2_apply (f_X1_narrow (f_X1_become n0 n3)) (f_X1_narrow (f_X1_become n1 n3)) (f_X1_becomeAny n2) p1).2.2)).1))), (h4, .inr (1, nm_fs n3))]) H := hP
          have hD : va_D A ([(h0, .inr (2, [.ref h1, .ref h2, .ref h3])), (h1, .inr (1, nm_fs ((f_X2_apply (f_X1_narrow (f_X1_become n0 n3)) (f_X1_narrow (f_X1_become n1 n3)) (f_X1_becomeAny n2) p1).1))), (h2, .inr (1, nm_fs ((f_X2_apply (f_X1_narrow (f_X1_become n0 n3)) (f_X1_narrow (f_X1_become n1 n3)) (f_X1_becomeAny n2) p1).2.1))), (h3, .inr (1, nm_fs ((f_X1_settle ((f_X2_apply (f_X1_narrow (f_X1_become n0 n3)) (f_X1_narrow (f_X1_become n1 n3)) (f_X1_becomeAny n2) p1).2.2)).1))), (h4, .inr (1, nm_fs n3))]) := hD
          refine lv_if_ne (tgt := 92) hx hb dX2_compute_82 (by decide) (fun c33 => ?_) (fun c33 => ?_)
          · refine lv_iload hx hb dX2_compute_92 (lv_at hl 4 rfl) ?_
            refine lv_if_eq (tgt := 104) hx hb dX2_compute_94 (by decide) (fun h9 => absurd h9 c1) (fun _ => ?_)
            refine lv_aload_n hx hb dX2_compute_97 rfl (lv_at hl 0 rfl) ?_
            refine va_get (D := D) (ci := 2) (v := .ref h3) (C := RX2) (T := TX2) (N := 3) hx hb hts hi2 hown hK hP 0 rfl rfl 2 (by decide) hk2 (fun _ h9 => h9) rfl dX2_compute_98 ?_
            refine sp_callv (sp_runV (As := []) (rest := []) C (c_X1_narrow l D h3 ((f_X1_settle ((f_X2_apply (f_X1_narrow (f_X1_become n0 n3)) (f_X1_narrow (f_X1_become n1 n3)) (f_X1_becomeAny n2) p1).2.2)).1)) (cwV 0 hts (gV wG_c wm_256 wm_257 wm_258 wm_31 wm_255) rfl rfl rfl (by decide +kernel) ⟨Nat.le_of_ble_eq_true rfl, Nat.le_of_ble_eq_true rfl⟩) hK hP hD [3] (by decide) rfl [] rfl 0 1 rfl rfl rfl rfl hl.1 rfl (Nat.le_of_ble_eq_true rfl) dX2_compute_101 ⟨Nat.le_of_ble_eq_true rfl, Nat.le_of_ble_eq_true rfl⟩) hP hD hS hA [3] rfl (sp_fc sp_f0) (fun H locs hP hD hS => ?_)
            have hP : va_P D vwCl ([(h0, .inr (2, [.ref h1, .ref h2, .ref h3])), (h1, .inr (1, nm_fs ((f_X2_apply (f_X1_narrow (f_X1_become n0 n3)) (f_X1_narrow (f_X1_become n1 n3)) (f_X1_becomeAny n2) p1).1))), (h2, .inr (1, nm_fs ((f_X2_apply (f_X1_narrow (f_X1_become n0 n3)) (f_X1_narrow (f_X1_become n1 n3)) (f_X1_becomeAny n2) p1).2.1))), (h3, .inr (1, nm_fs (f_X1_narrow ((f_X1_settle ((f_X2_apply (f_X1_narrow (f_X1_become n0 n3)) (f_X1_narrow (f_X1_become n1 n3)) (f_X1_becomeAny n2) p1).2.2)).1)))), (h4, .inr (1, nm_fs n3))]) H := hP
            have hD : va_D A ([(h0, .inr (2, [.ref h1, .ref h2, .ref h3])), (h1, .inr (1, nm_fs ((f_X2_apply (f_X1_narrow (f_X1_become n0 n3)) (f_X1_narrow (f_X1_become n1 n3)) (f_X1_becomeAny n2) p1).1))), (h2, .inr (1, nm_fs ((f_X2_apply (f_X1_narrow (f_X1_become n0 n3)) (f_X1_narrow (f_X1_become n1 n3)) (f_X1_becomeAny n2) p1).2.1))), (h3, .inr (1, nm_fs (f_X1_narrow ((f_X1_settle ((f_X2_apply (f_X1_narrow (f_X1_become n0 n3)) (f_X1_narrow (f_X1_become n1 n3)) (f_X1_becomeAny n2) p1).2.2)).1)))), (h4, .inr (1, nm_fs n3))]) := hD
            refine lv_aload_n hx hb dX2_compute_104 rfl (lv_at hl 0 rfl) ?_
            refine va_get (D := D) (ci := 2) (v := .ref h3) (C := RX2) (T := TX2) (N := 3) hx hb hts hi2 hown hK hP 0 rfl rfl 2 (by decide) hk2 (fun _ h9 => h9) rfl dX2_compute_105 ?_
            have e9 : f_X2_compute n0 n1 n2 n3 n3 p1 p4 = (((f_X2_apply (f_X1_narrow (f_X1_become n0 n3)) (f_X1_narrow (f_X1_become n1 n3)) (f_X1_becomeAny n2) p1).1), ((f_X2_apply (f_X1_narrow (f_X1_become n0 n3)) (f_X1_narrow (f_X1_become n1 n3)) (f_X1_becomeAny n2) p1).2.1), (f_X1_narrow ((f_X1_settle ((f_X2_apply (f_X1_narrow (f_X1_become n0 n3)) (f_X1_narrow (f_X1_become n1 n3)) (f_X1_becomeAny n2) p1).2.2)).1))) := (if_neg c1).trans ((if_neg c21).trans ((if_neg c26).trans ((if_neg c31).trans ((if_neg c33).trans (rfl)))))
            rw [e9]
            exact sp_aret C hAe hP hK hD hS dX2_compute_108
          · refine lv_aload_n hx hb dX2_compute_85 rfl (lv_at hl 0 rfl) ?_
            refine va_get (D := D) (ci := 2) (v := .ref h3) (C := RX2) (T := TX2) (N := 3) hx hb hts hi2 hown hK hP 0 rfl rfl 2 (by decide) hk2 (fun _ h9 => h9) rfl dX2_compute_86 ?_
            refine sp_callv (sp_runV (As := []) (rest := []) C (c_X1_becomeAny l D h3 ((f_X1_settle ((f_X2_apply (f_X1_narrow (f_X1_become n0 n3)) (f_X1_narrow (f_X1_become n1 n3)) (f_X1_becomeAny n2) p1).2.2)).1)) (cwV 0 hts (gV wG_c wm_243 wm_244 wm_245 wm_31 wm_242) rfl rfl rfl (by decide +kernel) ⟨Nat.le_of_ble_eq_true rfl, Nat.le_of_ble_eq_true rfl⟩) hK hP hD [3] (by decide) rfl [] rfl 0 1 rfl rfl rfl rfl hl.1 rfl (Nat.le_of_ble_eq_true rfl) dX2_compute_89 ⟨Nat.le_of_ble_eq_true rfl, Nat.le_of_ble_eq_true rfl⟩) hP hD hS hA [3] rfl (sp_fc sp_f0) (fun H locs hP hD hS => ?_)
            have hP : va_P D vwCl ([(h0, .inr (2, [.ref h1, .ref h2, .ref h3])), (h1, .inr (1, nm_fs ((f_X2_apply (f_X1_narrow (f_X1_become n0 n3)) (f_X1_narrow (f_X1_become n1 n3)) (f_X1_becomeAny n2) p1).1))), (h2, .inr (1, nm_fs ((f_X2_apply (f_X1_narrow (f_X1_become n0 n3)) (f_X1_narrow (f_X1_become n1 n3)) (f_X1_becomeAny n2) p1).2.1))), (h3, .inr (1, nm_fs (f_X1_becomeAny ((f_X1_settle ((f_X2_apply (f_X1_narrow (f_X1_become n0 n3)) (f_X1_narrow (f_X1_become n1 n3)) (f_X1_becomeAny n2) p1).2.2)).1)))), (h4, .inr (1, nm_fs n3))]) H := hP
            have hD : va_D A ([(h0, .inr (2, [.ref h1, .ref h2, .ref h3])), (h1, .inr (1, nm_fs ((f_X2_apply (f_X1_narrow (f_X1_become n0 n3)) (f_X1_narrow (f_X1_become n1 n3)) (f_X1_becomeAny n2) p1).1))), (h2, .inr (1, nm_fs ((f_X2_apply (f_X1_narrow (f_X1_become n0 n3)) (f_X1_narrow (f_X1_become n1 n3)) (f_X1_becomeAny n2) p1).2.1))), (h3, .inr (1, nm_fs (f_X1_becomeAny ((f_X1_settle ((f_X2_apply (f_X1_narrow (f_X1_become n0 n3)) (f_X1_narrow (f_X1_become n1 n3)) (f_X1_becomeAny n2) p1).2.2)).1)))), (h4, .inr (1, nm_fs n3))]) := hD
            refine lv_iload hx hb dX2_compute_92 (lv_at hl 4 rfl) ?_
            refine lv_if_eq (tgt := 104) hx hb dX2_compute_94 (by decide) (fun h9 => absurd h9 c1) (fun _ => ?_)
            refine lv_aload_n hx hb dX2_compute_97 rfl (lv_at hl 0 rfl) ?_
            refine va_get (D := D) (ci := 2) (v := .ref h3) (C := RX2) (T := TX2) (N := 3) hx hb hts hi2 hown hK hP 0 rfl rfl 2 (by decide) hk2 (fun _ h9 => h9) rfl dX2_compute_98 ?_
            refine sp_callv (sp_runV (As := []) (rest := []) C (c_X1_narrow l D h3 (f_X1_becomeAny ((f_X1_settle ((f_X2_apply (f_X1_narrow (f_X1_become n0 n3)) (f_X1_narrow (f_X1_become n1 n3)) (f_X1_becomeAny n2) p1).2.2)).1))) (cwV 0 hts (gV wG_c wm_256 wm_257 wm_258 wm_31 wm_255) rfl rfl rfl (by decide +kernel) ⟨Nat.le_of_ble_eq_true rfl, Nat.le_of_ble_eq_true rfl⟩) hK hP hD [3] (by decide) rfl [] rfl 0 1 rfl rfl rfl rfl hl.1 rfl (Nat.le_of_ble_eq_true rfl) dX2_compute_101 ⟨Nat.le_of_ble_eq_true rfl, Nat.le_of_ble_eq_true rfl⟩) hP hD hS hA [3] rfl (sp_fc sp_f0) (fun H locs hP hD hS => ?_)
            have hP : va_P D vwCl ([(h0, .inr (2, [.ref h1, .ref h2, .ref h3])), (h1, .inr (1, nm_fs ((f_X2_apply (f_X1_narrow (f_X1_become n0 n3)) (f_X1_narrow (f_X1_become n1 n3)) (f_X1_becomeAny n2) p1).1))), (h2, .inr (1, nm_fs ((f_X2_apply (f_X1_narrow (f_X1_become n0 n3)) (f_X1_narrow (f_X1_become n1 n3)) (f_X1_becomeAny n2) p1).2.1))), (h3, .inr (1, nm_fs (f_X1_narrow (f_X1_becomeAny ((f_X1_settle ((f_X2_apply (f_X1_narrow (f_X1_become n0 n3)) (f_X1_narrow (f_X1_become n1 n3)) (f_X1_becomeAny n2) p1).2.2)).1))))), (h4, .inr (1, nm_fs n3))]) H := hP
            have hD : va_D A ([(h0, .inr (2, [.ref h1, .ref h2, .ref h3])), (h1, .inr (1, nm_fs ((f_X2_apply (f_X1_narrow (f_X1_become n0 n3)) (f_X1_narrow (f_X1_become n1 n3)) (f_X1_becomeAny n2) p1).1))), (h2, .inr (1, nm_fs ((f_X2_apply (f_X1_narrow (f_X1_become n0 n3)) (f_X1_narrow (f_X1_become n1 n3)) (f_X1_becomeAny n2) p1).2.1))), (h3, .inr (1, nm_fs (f_X1_narrow (f_X1_becomeAny ((f_X1_settle ((f_X2_apply (f_X1_narrow (f_X1_become n0 n3)) (f_X1_narrow (f_X1_become n1 n3)) (f_X1_becomeAny n2) p1).2.2)).1))))), (h4, .inr (1, nm_fs n3))]) := hD
            refine lv_aload_n hx hb dX2_compute_104 rfl (lv_at hl 0 rfl) ?_
            refine va_get (D := D) (ci := 2) (v := .ref h3) (C := RX2) (T := TX2) (N := 3) hx hb hts hi2 hown hK hP 0 rfl rfl 2 (by decide) hk2 (fun _ h9 => h9) rfl dX2_compute_105 ?_
            have e9 : f_X2_compute n0 n1 n2 n3 n3 p1 p4 = (((f_X2_apply (f_X1_narrow (f_X1_become n0 n3)) (f_X1_narrow (f_X1_become n1 n3)) (f_X1_becomeAny n2) p1).1), ((f_X2_apply (f_X1_narrow (f_X1_become n0 n3)) (f_X1_narrow (f_X1_become n1 n3)) (f_X1_becomeAny n2) p1).2.1), (f_X1_narrow (f_X1_becomeAny ((f_X1_settle ((f_X2_apply (f_X1_narrow (f_X1_become n0 n3)) (f_X1_narrow (f_X1_become n1 n3)) (f_X1_becomeAny n2) p1).2.2)).1)))) := (if_neg c1).trans ((if_neg c21).trans ((if_neg c26).trans ((if_neg c31).trans ((if_pos c33).trans (rfl)))))
            rw [e9]
            exact sp_aret C hAe hP hK hD hS dX2_compute_108
        · refine lv_aload_n hx hb dX2_compute_60 rfl (lv_at hl 0 rfl) ?_
          refine lv_iload_n hx hb dX2_compute_61 rfl (lv_at hl 1 rfl) ?_
          refine lv_iload hx hb dX2_compute_62 (lv_at hl 4 rfl) ?_
          refine sp_callv (sp_runV (As := [.int p1, .int p4]) (rest := []) C (c_X2_shift l D h0 h1 h2 h3 (f_X1_narrow (f_X1_become n0 n3)) (f_X1_narrow (f_X1_become n1 n3)) (f_X1_becomeAny n2) p1 p4) (cwV 2 hts (gV wG_c wm_247 wm_248 wm_249 wm_122 wm_246) rfl rfl rfl (by decide +kernel) ⟨Nat.le_of_ble_eq_true rfl, Nat.le_of_ble_eq_true rfl⟩) hK hP hD [0, 1, 2, 3] (by decide) rfl [] rfl 0 2 rfl rfl rfl rfl hl.1 rfl (Nat.le_of_ble_eq_true rfl) dX2_compute_64 ⟨Nat.le_of_ble_eq_true rfl, Nat.le_of_ble_eq_true rfl⟩) hP hD hS hA [0, 1, 2, 3] rfl (sp_fc (sp_fc (sp_fc (sp_fc sp_f0)))) (fun H locs hP hD hS => ?_)
          have hP : va_P D vwCl ([(h0, .inr (2, [.ref h1, .ref h2, .ref h3])), (h1, .inr (1, nm_fs (f_X1_narrow (f_X1_become n0 n3)))), (h2, .inr (1, nm_fs (f_X1_narrow (f_X1_become n1 n3)))), (h3, .inr (1, nm_fs (f_X2_shift (f_X1_narrow (f_X1_become n0 n3)) (f_X1_narrow (f_X1_become n1 n3)) (f_X1_becomeAny n2) p1 p4))), (h4, .inr (1, nm_fs n3))]) H := hP
          have hD : va_D A ([(h0, .inr (2, [.ref h1, .ref h2, .ref h3])), (h1, .inr (1, nm_fs (f_X1_narrow (f_X1_become n0 n3)))), (h2, .inr (1, nm_fs (f_X1_narrow (f_X1_become n1 n3)))), (h3, .inr (1, nm_fs (f_X2_shift (f_X1_narrow (f_X1_become n0 n3)) (f_X1_narrow (f_X1_become n1 n3)) (f_X1_becomeAny n2) p1 p4))), (h4, .inr (1, nm_fs n3))]) := hD
          refine lv_goto (tgt := 75) hx hb dX2_compute_67 (by decide) ?_
          refine lv_aload_n hx hb dX2_compute_75 rfl (lv_at hl 0 rfl) ?_
          refine va_get (D := D) (ci := 2) (v := .ref h3) (C := RX2) (T := TX2) (N := 3) hx hb hts hi2 hown hK hP 0 rfl rfl 2 (by decide) hk2 (fun _ h9 => h9) rfl dX2_compute_76 ?_
          refine sp_callz (sp_runV (As := []) (rest := []) C (c_X1_settle l D h3 (f_X2_shift (f_X1_narrow (f_X1_become n0 n3)) (f_X1_narrow (f_X1_become n1 n3)) (f_X1_becomeAny n2) p1 p4)) (cwV 0 hts (gV wG_c wm_250 wm_100 wm_101 wm_31 wm_98) rfl rfl rfl (by decide +kernel) ⟨Nat.le_of_ble_eq_true rfl, Nat.le_of_ble_eq_true rfl⟩) hK hP hD [3] (by decide) rfl [] rfl 0 1 rfl rfl rfl rfl hl.1 rfl (Nat.le_of_ble_eq_true rfl) dX2_compute_79 ⟨Nat.le_of_ble_eq_true rfl, Nat.le_of_ble_eq_true rfl⟩) hP hD hS hA [3] rfl (sp_fc sp_f0) (fun H locs z36 hP hD hS => ?_)
          have hP : va_P D vwCl ([(h0, .inr (2, [.ref h1, .ref h2, .ref h3])), (h1, .inr (1, nm_fs (f_X1_narrow (f_X1_become n0 n3)))), (h2, .inr (1, nm_fs (f_X1_narrow (f_X1_become n1 n3)))), (h3, .inr (1, nm_fs ((f_X1_settle (f_X2_shift (f_X1_narrow (f_X1_become n0 n3)) (f_X1_narrow (f_X1_become n1 n3)) (f_X1_becomeAny n2) p1 p4)).1))), (h4, .inr (1, nm_fs n3))]) H := hP
          have hD : va_D A ([(h0, .inr (2, [.ref h1, .ref h2, .ref h3])), (h1, .inr (1, nm_fs (f_X1_narrow (f_X1_become n0 n3)))), (h2, .inr (1, nm_fs (f_X1_narrow (f_X1_become n1 n3)))), (h3, .inr (1, nm_fs ((f_X1_settle (f_X2_shift (f_X1_narrow (f_X1_become n0 n3)) (f_X1_narrow (f_X1_become n1 n3)) (f_X1_becomeAny n2) p1 p4)).1))), (h4, .inr (1, nm_fs n3))]) := hD
          refine lv_if_ne (tgt := 92) hx hb dX2_compute_82 (by decide) (fun c37 => ?_) (fun c37 => ?_)
          · refine lv_iload hx hb dX2_compute_92 (lv_at hl 4 rfl) ?_
            refine lv_if_eq (tgt := 104) hx hb dX2_compute_94 (by decide) (fun h9 => absurd h9 c1) (fun _ => ?_)
            refine lv_aload_n hx hb dX2_compute_97 rfl (lv_at hl 0 rfl) ?_
            refine va_get (D := D) (ci := 2) (v := .ref h3) (C := RX2) (T := TX2) (N := 3) hx hb hts hi2 hown hK hP 0 rfl rfl 2 (by decide) hk2 (fun _ h9 => h9) rfl dX2_compute_98 ?_
            refine sp_callv (sp_runV (As := []) (rest := []) C (c_X1_narrow l D h3 ((f_X1_settle (f_X2_shift (f_X1_narrow (f_X1_become n0 n3)) (f_X1_narrow (f_X1_become n1 n3)) (f_X1_becomeAny n2) p1 p4)).1)) (cwV 0 hts (gV wG_c wm_256 wm_257 wm_258 wm_31 wm_255) rfl rfl rfl (by decide +kernel) ⟨Nat.le_of_ble_eq_true rfl, Nat.le_of_ble_eq_true rfl⟩) hK hP hD [3] (by decide) rfl [] rfl 0 1 rfl rfl rfl rfl hl.1 rfl (Nat.le_of_ble_eq_true rfl) dX2_compute_101 ⟨Nat.le_of_ble_eq_true rfl, Nat.le_of_ble_eq_true rfl⟩) hP hD hS hA [3] rfl (sp_fc sp_f0) (fun H locs hP hD hS => ?_)
            have hP : va_P D vwCl ([(h0, .inr (2, [.ref h1, .ref h2, .ref h3])), (h1, .inr (1, nm_fs (f_X1_narrow (f_X1_become n0 n3)))), (h2, .inr (1, nm_fs (f_X1_narrow (f_X1_become n1 n3)))), (h3, .inr (1, nm_fs (f_X1_narrow ((f_X1_settle (f_X2_shift (f_X1_narrow (f_X1_become n0 n3)) (f_X1_narrow (f_X1_become n1 n3)) (f_X1_becomeAny n2) p1 p4)).1)))), (h4, .inr (1, nm_fs n3))]) H := hP
            have hD : va_D A ([(h0, .inr (2, [.ref h1, .ref h2, .ref h3])), (h1, .inr (1, nm_fs (f_X1_narrow (f_X1_become n0 n3)))), (h2, .inr (1, nm_fs (f_X1_narrow (f_X1_become n1 n3)))), (h3, .inr (1, nm_fs (f_X1_narrow ((f_X1_settle (f_X2_shift (f_X1_narrow (f_X1_become n0 n3)) (f_X1_narrow (f_X1_become n1 n3)) (f_X1_becomeAny n2) p1 p4)).1)))), (h4, .inr (1, nm_fs n3))]) := hD
            refine lv_aload_n hx hb dX2_compute_104 rfl (lv_at hl 0 rfl) ?_
            refine va_get (D := D) (ci := 2) (v := .ref h3) (C := RX2) (T := TX2) (N := 3) hx hb hts hi2 hown hK hP 0 rfl rfl 2 (by decide) hk2 (fun _ h9 => h9) rfl dX2_compute_105 ?_
            have e9 : f_X2_compute n0 n1 n2 n3 n3 p1 p4 = ((f_X1_narrow (f_X1_become n0 n3)), (f_X1_narrow (f_X1_become n1 n3)), (f_X1_narrow ((f_X1_settle (f_X2_shift (f_X1_narrow (f_X1_become n0 n3)) (f_X1_narrow (f_X1_become n1 n3)) (f_X1_becomeAny n2) p1 p4)).1))) := (if_neg c1).trans ((if_neg c21).trans ((if_neg c26).trans ((if_pos c31).trans ((if_neg c37).trans (rfl)))))
            rw [e9]
            exact sp_aret C hAe hP hK hD hS dX2_compute_108
          · refine lv_aload_n hx hb dX2_compute_85 rfl (lv_at hl 0 rfl) ?_
            refine va_get (D := D) (ci := 2) (v := .ref h3) (C := RX2) (T := TX2) (N := 3) hx hb hts hi2 hown hK hP 0 rfl rfl 2 (by decide) hk2 (fun _ h9 => h9) rfl dX2_compute_86 ?_
            refine sp_callv (sp_runV (As := []) (rest := []) C (c_X1_becomeAny l D h3 ((f_X1_settle (f_X2_shift (f_X1_narrow (f_X1_become n0 n3)) (f_X1_narrow (f_X1_become n1 n3)) (f_X1_becomeAny n2) p1 p4)).1)) (cwV 0 hts (gV wG_c wm_243 wm_244 wm_245 wm_31 wm_242) rfl rfl rfl (by decide +kernel) ⟨Nat.le_of_ble_eq_true rfl, Nat.le_of_ble_eq_true rfl⟩) hK hP hD [3] (by decide) rfl [] rfl 0 1 rfl rfl rfl rfl hl.1 rfl (Nat.le_of_ble_eq_true rfl) dX2_compute_89 ⟨Nat.le_of_ble_eq_true rfl, Nat.le_of_ble_eq_true rfl⟩) hP hD hS hA [3] rfl (sp_fc sp_f0) (fun H locs hP hD hS => ?_)
            have hP : va_P D vwCl ([(h0, .inr (2, [.ref h1, .ref h2, .ref h3])), (h1, .inr (1, nm_fs (f_X1_narrow (f_X1_become n0 n3)))), (h2, .inr (1, nm_fs (f_X1_narrow (f_X1_become n1 n3)))), (h3, .inr (1, nm_fs (f_X1_becomeAny ((f_X1_settle (f_X2_shift (f_X1_narrow (f_X1_become n0 n3)) (f_X1_narrow (f_X1_become n1 n3)) (f_X1_becomeAny n2) p1 p4)).1)))), (h4, .inr (1, nm_fs n3))]) H := hP
            have hD : va_D A ([(h0, .inr (2, [.ref h1, .ref h2, .ref h3])), (h1, .inr (1, nm_fs (f_X1_narrow (f_X1_become n0 n3)))), (h2, .inr (1, nm_fs (f_X1_narrow (f_X1_become n1 n3)))), (h3, .inr (1, nm_fs (f_X1_becomeAny ((f_X1_settle (f_X2_shift (f_X1_narrow (f_X1_become n0 n3)) (f_X1_narrow (f_X1_become n1 n3)) (f_X1_becomeAny n2) p1 p4)).1)))), (h4, .inr (1, nm_fs n3))]) := hD
            refine lv_iload hx hb dX2_compute_92 (lv_at hl 4 rfl) ?_
            refine lv_if_eq (tgt := 104) hx hb dX2_compute_94 (by decide) (fun h9 => absurd h9 c1) (fun _ => ?_)
            refine lv_aload_n hx hb dX2_compute_97 rfl (lv_at hl 0 rfl) ?_
            refine va_get (D := D) (ci := 2) (v := .ref h3) (C := RX2) (T := TX2) (N := 3) hx hb hts hi2 hown hK hP 0 rfl rfl 2 (by decide) hk2 (fun _ h9 => h9) rfl dX2_compute_98 ?_
            refine sp_callv (sp_runV (As := []) (rest := []) C (c_X1_narrow l D h3 (f_X1_becomeAny ((f_X1_settle (f_X2_shift (f_X1_narrow (f_X1_become n0 n3)) (f_X1_narrow (f_X1_become n1 n3)) (f_X1_becomeAny n2) p1 p4)).1))) (cwV 0 hts (gV wG_c wm_256 wm_257 wm_258 wm_31 wm_255) rfl rfl rfl (by decide +kernel) ⟨Nat.le_of_ble_eq_true rfl, Nat.le_of_ble_eq_true rfl⟩) hK hP hD [3] (by decide) rfl [] rfl 0 1 rfl rfl rfl rfl hl.1 rfl (Nat.le_of_ble_eq_true rfl) dX2_compute_101 ⟨Nat.le_of_ble_eq_true rfl, Nat.le_of_ble_eq_true rfl⟩) hP hD hS hA [3] rfl (sp_fc sp_f0) (fun H locs hP hD hS => ?_)
            have hP : va_P D vwCl ([(h0, .inr (2, [.ref h1, .ref h2, .ref h3])), (h1, .inr (1, nm_fs (f_X1_narrow (f_X1_become n0 n3)))), (h2, .inr (1, nm_fs (f_X1_narrow (f_X1_become n1 n3)))), (h3, .inr (1, nm_fs (f_X1_narrow (f_X1_becomeAny ((f_X1_settle (f_X2_shift (f_X1_narrow (f_X1_become n0 n3)) (f_X1_narrow (f_X1_become n1 n3)) (f_X1_becomeAny n2) p1 p4)).1))))), (h4, .inr (1, nm_fs n3))]) H := hP
            have hD : va_D A ([(h0, .inr (2, [.ref h1, .ref h2, .ref h3])), (h1, .inr (1, nm_fs (f_X1_narrow (f_X1_become n0 n3)))), (h2, .inr (1, nm_fs (f_X1_narrow (f_X1_become n1 n3)))), (h3, .inr (1, nm_fs (f_X1_narrow (f_X1_becomeAny ((f_X1_settle (f_X2_shift (f_X1_narrow (f_X1_become n0 n3)) (f_X1_narrow (f_X1_become n1 n3)) (f_X1_becomeAny n2) p1 p4)).1))))), (h4, .inr (1, nm_fs n3))]) := hD
            refine lv_aload_n hx hb dX2_compute_104 rfl (lv_at hl 0 rfl) ?_
            refine va_get (D := D) (ci := 2) (v := .ref h3) (C := RX2) (T := TX2) (N := 3) hx hb hts hi2 hown hK hP 0 rfl rfl 2 (by decide) hk2 (fun _ h9 => h9) rfl dX2_compute_105 ?_
            have e9 : f_X2_compute n0 n1 n2 n3 n3 p1 p4 = ((f_X1_narrow (f_X1_become n0 n3)), (f_X1_narrow (f_X1_become n1 n3)), (f_X1_narrow (f_X1_becomeAny ((f_X1_settle (f_X2_shift (f_X1_narrow (f_X1_become n0 n3)) (f_X1_narrow (f_X1_become n1 n3)) (f_X1_becomeAny n2) p1 p4)).1)))) := (if_neg c1).trans ((if_neg c21).trans ((if_neg c26).trans ((if_pos c31).trans ((if_pos c37).trans (rfl)))))
            rw [e9]
            exact sp_aret C hAe hP hK hD hS dX2_compute_108
