set_option maxHeartbeats 4000000 in
set_option maxRecDepth 100000 in
theorem lw_c0 (p : Program) (l : Launch) (e : Env) (s : State) (m : MethodId) (below : List Frame) (meth : Method) (c : Code) (b : Nat) (D : va_G) (q : Nat → Nat) (cA : ClassId) (ad : Nat → Nat) (r : Nat → Nat) (cj : Nat → ClassId) (o : Nat) (cO : ClassId) {L : Nat} {xs : Nat → Int32} (F : lw_F p l s m meth c b L xs D cA cj cO) {i : Int32} (hv : lw_in i L) {cells slots : Nat} (hf1 : cells + 1 ≤ room_1.cells ∧ slots + 6 ≤ room_1.slots) (J : lw_J p l e s m below meth c b D q cA ad r cj o cO i 857 (cells + 1) (slots + 6)) : lw_J p l e s m below meth c b D q cA ad r cj o cO i 92 cells slots := by
  obtain ⟨C, hX, hbl, hK, hZ, hl0⟩ := F
  obtain ⟨hv0, hv1, hv2, hv3, hv4, hv5, hv6⟩ := hv
  have hf0 : cells + 0 ≤ room_1.cells ∧ slots + 0 ≤ room_1.slots := ⟨Nat.le_trans (Nat.le_add_right cells 1) hf1.1, Nat.le_trans (Nat.le_add_right slots 6) hf1.2⟩
  have hA : ∀ z : Nat, s.heap.size ≤ z → (fun z : Nat => s.heap.size ≤ z) z := fun _ h => h
  have hbA : ¬ (fun z : Nat => s.heap.size ≤ z) b := Nat.not_le.mpr hbl
  have hx := C.1
  have hb := C.2.1
  have hown := C.2.2.2.2.1
  have hts := C.2.2.2.2.2.1
  intro sg x th st f H locs ls hr hi hP hD hS hl
  refine lv_aload_n hx hb dL_law_92 rfl (lv_at hl 2 rfl) ?_
  refine lv_aload_n hx hb dL_law_93 rfl (lv_at hl 1 rfl) ?_
  refine lv_iload hx hb dL_law_94 (lv_at hl 0 rfl) ?_
  refine lv_iconst (v := 1) hx hb dL_law_96 (by decide) ?_
  refine lv_iadd hx hb dL_law_97 ?_
  refine va_sld hx hb hX hbl hbA hS hv1 dL_law_98 ?_
  refine lv_topi (fun v1 ev1 => ?_)
  refine lv_aload_n hx hb dL_law_99 rfl (lv_at hl 1 rfl) ?_
  refine lv_iload hx hb dL_law_100 (lv_at hl 0 rfl) ?_
  refine lv_iconst (v := 2) hx hb dL_law_102 (by decide) ?_
  refine lv_iadd hx hb dL_law_103 ?_
  refine va_sld hx hb hX hbl hbA hS hv2 dL_law_104 ?_
  refine lv_topi (fun v2 ev2 => ?_)
  refine lv_i2l (v := v2.toInt64) hx hb dL_law_105 rfl ?_
  refine lv_bipush (v := 32) hx hb dL_law_106 (by decide) ?_
  refine lv_lshl (v := v2.toInt64 <<< ((32 : Int32).toInt64 &&& 63)) hx hb dL_law_108 rfl ?_
  refine lv_aload_n hx hb dL_law_109 rfl (lv_at hl 1 rfl) ?_
  refine lv_iload hx hb dL_law_110 (lv_at hl 0 rfl) ?_
  refine lv_iconst (v := 3) hx hb dL_law_112 (by decide) ?_
  refine lv_iadd hx hb dL_law_113 ?_
  refine va_sld hx hb hX hbl hbA hS hv3 dL_law_114 ?_
  refine lv_topi (fun v3 ev3 => ?_)
  refine lv_i2l (v := v3.toInt64) hx hb dL_law_115 rfl ?_
  refine lv_ldc2 (v := 4294967295) hx hb hown (hts _ wm_555) dL_law_116 ?_
  refine lv_land hx hb dL_law_119 ?_
  refine lv_lor hx hb dL_law_120 ?_
  refine lv_topl (fun w2 ew2 => ?_)
  refine sp_callz (sp_runV (As := [.int v1, .long w2]) (rest := []) C (k_X0_exact l D q cA ad sg x v1 w2) (cwV 2 hts (gV wG_i wm_556 wm_557 wm_558 wm_4 wm_559) rfl rfl rfl (by decide +kernel) ⟨Nat.le_of_ble_eq_true rfl, Nat.le_of_ble_eq_true rfl⟩) hK hP hD (List.range' 7 25) (by decide) (sp_mid md_len dk_len) [6] rfl 0 0 rfl rfl rfl rfl hl.1 rfl (Nat.le_of_ble_eq_true rfl) dL_law_121 hf0) hP hD hS hA (List.range' 7 25) (sp_mid md_len dk_len) dk_fst (fun H locs z1 hP hD hS => ?_)
  rw [sp_upd_mid _ _ _ _ 7 25 md_len dk_len dk_len] at hP hD
  refine lv_aload_n hx hb dL_law_124 rfl (lv_at hl 3 rfl) ?_
  refine lv_aload_n hx hb dL_law_125 rfl (lv_at hl 1 rfl) ?_
  refine lv_iload hx hb dL_law_126 (lv_at hl 0 rfl) ?_
  refine lv_iconst (v := 1) hx hb dL_law_128 (by decide) ?_
  refine lv_iadd hx hb dL_law_129 ?_
  refine va_sld hx hb hX hbl hbA hS hv1 dL_law_130 ?_
  refine lw_topi ev1 ?_
  refine lv_aload_n hx hb dL_law_131 rfl (lv_at hl 1 rfl) ?_
  refine lv_iload hx hb dL_law_132 (lv_at hl 0 rfl) ?_
  refine lv_iconst (v := 2) hx hb dL_law_134 (by decide) ?_
  refine lv_iadd hx hb dL_law_135 ?_
  refine va_sld hx hb hX hbl hbA hS hv2 dL_law_136 ?_
  refine lw_topi ev2 ?_
  refine lv_i2l (v := v2.toInt64) hx hb dL_law_137 rfl ?_
  refine lv_bipush (v := 32) hx hb dL_law_138 (by decide) ?_
  refine lv_lshl (v := v2.toInt64 <<< ((32 : Int32).toInt64 &&& 63)) hx hb dL_law_140 rfl ?_
  refine lv_aload_n hx hb dL_law_141 rfl (lv_at hl 1 rfl) ?_
  refine lv_iload hx hb dL_law_142 (lv_at hl 0 rfl) ?_
  refine lv_iconst (v := 3) hx hb dL_law_144 (by decide) ?_
  refine lv_iadd hx hb dL_law_145 ?_
  refine va_sld hx hb hX hbl hbA hS hv3 dL_law_146 ?_
  refine lw_topi ev3 ?_
  refine lv_i2l (v := v3.toInt64) hx hb dL_law_147 rfl ?_
  refine lv_ldc2 (v := 4294967295) hx hb hown (hts _ wm_555) dL_law_148 ?_
  refine lv_land hx hb dL_law_151 ?_
  refine lv_lor hx hb dL_law_152 ?_
  refine lw_topl ew2 ?_
  refine sp_callz (sp_runV (As := [.int v1, .long w2]) (rest := [.int ((f_X0_exact sg x.1 x.2.1 x.2.2.1 x.2.2.2.1 x.2.2.2.2 v1 w2).2)]) C (k_M_exact l D r cj th st v1 w2) (cwV 2 hts (gV wG_i wm_560 wm_561 wm_562 wm_378 wm_563) rfl rfl rfl (by decide +kernel) ⟨Nat.le_of_ble_eq_true rfl, Nat.le_of_ble_eq_true rfl⟩) hK hP hD (List.range' 0 7) (by decide) (sp_first md_len) [0, 1, 2, 3, 4, 5] rfl 0 4 rfl rfl rfl rfl hl.1 rfl (Nat.le_of_ble_eq_true rfl) dL_law_153 hf0) hP hD hS hA (List.range' 0 7) (sp_first md_len) rfl (fun H locs z2 hP hD hS => ?_)
  rw [sp_upd_first _ _ _ 7 md_len md_len] at hP hD
  have e9 := ml_exact (x1 := x.1) (x2 := x.2.1) (x3 := x.2.2.1) (x4 := x.2.2.2.1) (x5 := x.2.2.2.2) hr v1 w2
  refine lv_icmp_eq (tgt := 857) hx hb dL_law_156 (by decide) (fun _ => ?_) (fun h9 => absurd e9.1.symm h9)
  refine W.widen (k := cells + 1) (n := slots + 6) (Nat.le_add_right _ _) (Nat.le_add_right _ _) ?_
  exact J ((f_X0_exact sg x.1 x.2.1 x.2.2.1 x.2.2.2.1 x.2.2.2.2 v1 w2).1) (x) (0) ((f_M_exact st v1 w2).1) (f) H locs ls e9.2 (iv_exact hi) hP hD hS (lv_sub hl [0, 1, 2, 3, 4] rfl)
set_option maxHeartbeats 4000000 in
set_option maxRecDepth 100000 in
theorem lw_c1 (p : Program) (l : Launch) (e : Env) (s : State) (m : MethodId) (below : List Frame) (meth : Method) (c : Code) (b : Nat) (D : va_G) (q : Nat → Nat) (cA : ClassId) (ad : Nat → Nat) (r : Nat → Nat) (cj : Nat → ClassId) (o : Nat) (cO : ClassId) {L : Nat} {xs : Nat → Int32} (F : lw_F p l s m meth c b L xs D cA cj cO) {i : Int32} (hv : lw_in i L) {cells slots : Nat} (hf1 : cells + 1 ≤ room_1.cells ∧ slots + 6 ≤ room_1.slots) (J : lw_J p l e s m below meth c b D q cA ad r cj o cO i 857 (cells + 1) (slots + 6)) : lw_J p l e s m below meth c b D q cA ad r cj o cO i 161 cells slots := by
  obtain ⟨C, hX, hbl, hK, hZ, hl0⟩ := F
  obtain ⟨hv0, hv1, hv2, hv3, hv4, hv5, hv6⟩ := hv
  have hf0 : cells + 0 ≤ room_1.cells ∧ slots + 0 ≤ room_1.slots := ⟨Nat.le_trans (Nat.le_add_right cells 1) hf1.1, Nat.le_trans (Nat.le_add_right slots 6) hf1.2⟩
  have hA : ∀ z : Nat, s.heap.size ≤ z → (fun z : Nat => s.heap.size ≤ z) z := fun _ h => h
  have hbA : ¬ (fun z : Nat => s.heap.size ≤ z) b := Nat.not_le.mpr hbl
  have hx := C.1
  have hb := C.2.1
  have hown := C.2.2.2.2.1
  have hts := C.2.2.2.2.2.1
  intro sg x th st f H locs ls hr hi hP hD hS hl
  refine lv_aload_n hx hb dL_law_161 rfl (lv_at hl 2 rfl) ?_
  refine lv_aload_n hx hb dL_law_162 rfl (lv_at hl 1 rfl) ?_
  refine lv_iload hx hb dL_law_163 (lv_at hl 0 rfl) ?_
  refine lv_iconst (v := 1) hx hb dL_law_165 (by decide) ?_
  refine lv_iadd hx hb dL_law_166 ?_
  refine va_sld hx hb hX hbl hbA hS hv1 dL_law_167 ?_
  refine lv_topi (fun v1 ev1 => ?_)
  refine sp_callz (sp_runV (As := [.int v1]) (rest := []) C (k_X0_any l D q cA ad sg x v1) (cwV 1 hts (gV wG_i wm_564 wm_565 wm_566 wm_4 wm_567) rfl rfl rfl (by decide +kernel) ⟨Nat.le_of_ble_eq_true rfl, Nat.le_of_ble_eq_true rfl⟩) hK hP hD (List.range' 7 25) (by decide) (sp_mid md_len dk_len) [6] rfl 0 0 rfl rfl rfl rfl hl.1 rfl (Nat.le_of_ble_eq_true rfl) dL_law_168 hf0) hP hD hS hA (List.range' 7 25) (sp_mid md_len dk_len) dk_fst (fun H locs z1 hP hD hS => ?_)
  rw [sp_upd_mid _ _ _ _ 7 25 md_len dk_len dk_len] at hP hD
  refine lv_aload_n hx hb dL_law_171 rfl (lv_at hl 3 rfl) ?_
  refine lv_aload_n hx hb dL_law_172 rfl (lv_at hl 1 rfl) ?_
  refine lv_iload hx hb dL_law_173 (lv_at hl 0 rfl) ?_
  refine lv_iconst (v := 1) hx hb dL_law_175 (by decide) ?_
  refine lv_iadd hx hb dL_law_176 ?_
  refine va_sld hx hb hX hbl hbA hS hv1 dL_law_177 ?_
  refine lw_topi ev1 ?_
  refine sp_callz (sp_runV (As := [.int v1]) (rest := [.int ((f_X0_any sg x.1 x.2.1 x.2.2.1 x.2.2.2.1 x.2.2.2.2 v1).2)]) C (k_M_any l D r cj th st v1) (cwV 1 hts (gV wG_i wm_568 wm_569 wm_570 wm_378 wm_571) rfl rfl rfl (by decide +kernel) ⟨Nat.le_of_ble_eq_true rfl, Nat.le_of_ble_eq_true rfl⟩) hK hP hD (List.range' 0 7) (by decide) (sp_first md_len) [0, 1, 2, 3, 4, 5] rfl 0 4 rfl rfl rfl rfl hl.1 rfl (Nat.le_of_ble_eq_true rfl) dL_law_178 hf0) hP hD hS hA (List.range' 0 7) (sp_first md_len) rfl (fun H locs z2 hP hD hS => ?_)
  rw [sp_upd_first _ _ _ 7 md_len md_len] at hP hD
  have e9 := ml_any (x1 := x.1) (x2 := x.2.1) (x3 := x.2.2.1) (x4 := x.2.2.2.1) (x5 := x.2.2.2.2) hr v1
  refine lv_icmp_eq (tgt := 857) hx hb dL_law_181 (by decide) (fun _ => ?_) (fun h9 => absurd e9.1.symm h9)
  refine W.widen (k := cells + 1) (n := slots + 6) (Nat.le_add_right _ _) (Nat.le_add_right _ _) ?_
  exact J ((f_X0_any sg x.1 x.2.1 x.2.2.1 x.2.2.2.1 x.2.2.2.2 v1).1) (x) (0) ((f_M_any st v1).1) (f) H locs ls e9.2 (iv_any hi) hP hD hS (lv_sub hl [0, 1, 2, 3, 4] rfl)
set_option maxHeartbeats 4000000 in
set_option maxRecDepth 100000 in
theorem lw_c2 (p : Program) (l : Launch) (e : Env) (s : State) (m : MethodId) (below : List Frame) (meth : Method) (c : Code) (b : Nat) (D : va_G) (q : Nat → Nat) (cA : ClassId) (ad : Nat → Nat) (r : Nat → Nat) (cj : Nat → ClassId) (o : Nat) (cO : ClassId) {L : Nat} {xs : Nat → Int32} (F : lw_F p l s m meth c b L xs D cA cj cO) {i : Int32} (hv : lw_in i L) {cells slots : Nat} (hf1 : cells + 1 ≤ room_1.cells ∧ slots + 6 ≤ room_1.slots) (J : lw_J p l e s m below meth c b D q cA ad r cj o cO i 857 (cells + 1) (slots + 6)) : lw_J p l e s m below meth c b D q cA ad r cj o cO i 186 cells slots := by
  obtain ⟨C, hX, hbl, hK, hZ, hl0⟩ := F
  obtain ⟨hv0, hv1, hv2, hv3, hv4, hv5, hv6⟩ := hv
  have hf0 : cells + 0 ≤ room_1.cells ∧ slots + 0 ≤ room_1.slots := ⟨Nat.le_trans (Nat.le_add_right cells 1) hf1.1, Nat.le_trans (Nat.le_add_right slots 6) hf1.2⟩
  have hA : ∀ z : Nat, s.heap.size ≤ z → (fun z : Nat => s.heap.size ≤ z) z := fun _ h => h
  have hbA : ¬ (fun z : Nat => s.heap.size ≤ z) b := Nat.not_le.mpr hbl
  have hx := C.1
  have hb := C.2.1
  have hown := C.2.2.2.2.1
  have hts := C.2.2.2.2.2.1
  intro sg x th st f H locs ls hr hi hP hD hS hl
  refine lv_aload_n hx hb dL_law_186 rfl (lv_at hl 2 rfl) ?_
  refine lv_aload_n hx hb dL_law_187 rfl (lv_at hl 1 rfl) ?_
  refine lv_iload hx hb dL_law_188 (lv_at hl 0 rfl) ?_
  refine lv_iconst (v := 1) hx hb dL_law_190 (by decide) ?_
  refine lv_iadd hx hb dL_law_191 ?_
  refine va_sld hx hb hX hbl hbA hS hv1 dL_law_192 ?_
  refine lv_topi (fun v1 ev1 => ?_)
  refine lv_aload_n hx hb dL_law_193 rfl (lv_at hl 1 rfl) ?_
  refine lv_iload hx hb dL_law_194 (lv_at hl 0 rfl) ?_
  refine lv_iconst (v := 2) hx hb dL_law_196 (by decide) ?_
  refine lv_iadd hx hb dL_law_197 ?_
  refine va_sld hx hb hX hbl hbA hS hv2 dL_law_198 ?_
  refine lv_topi (fun v2 ev2 => ?_)
  refine lv_i2l (v := v2.toInt64) hx hb dL_law_199 rfl ?_
  refine lv_bipush (v := 32) hx hb dL_law_200 (by decide) ?_
  refine lv_lshl (v := v2.toInt64 <<< ((32 : Int32).toInt64 &&& 63)) hx hb dL_law_202 rfl ?_
  refine lv_aload_n hx hb dL_law_203 rfl (lv_at hl 1 rfl) ?_
  refine lv_iload hx hb dL_law_204 (lv_at hl 0 rfl) ?_
  refine lv_iconst (v := 3) hx hb dL_law_206 (by decide) ?_
  refine lv_iadd hx hb dL_law_207 ?_
  refine va_sld hx hb hX hbl hbA hS hv3 dL_law_208 ?_
  refine lv_topi (fun v3 ev3 => ?_)
  refine lv_i2l (v := v3.toInt64) hx hb dL_law_209 rfl ?_
  refine lv_ldc2 (v := 4294967295) hx hb hown (hts _ wm_555) dL_law_210 ?_
  refine lv_land hx hb dL_law_213 ?_
  refine lv_lor hx hb dL_law_214 ?_
  refine lv_topl (fun w2 ew2 => ?_)
  refine lv_aload_n hx hb dL_law_215 rfl (lv_at hl 1 rfl) ?_
  refine lv_iload hx hb dL_law_216 (lv_at hl 0 rfl) ?_
  refine lv_iconst (v := 4) hx hb dL_law_218 (by decide) ?_
  refine lv_iadd hx hb dL_law_219 ?_
  refine va_sld hx hb hX hbl hbA hS hv4 dL_law_220 ?_
  refine lv_topi (fun v4 ev4 => ?_)
  refine lv_i2l (v := v4.toInt64) hx hb dL_law_221 rfl ?_
  refine lv_bipush (v := 32) hx hb dL_law_222 (by decide) ?_
  refine lv_lshl (v := v4.toInt64 <<< ((32 : Int32).toInt64 &&& 63)) hx hb dL_law_224 rfl ?_
  refine lv_aload_n hx hb dL_law_225 rfl (lv_at hl 1 rfl) ?_
  refine lv_iload hx hb dL_law_226 (lv_at hl 0 rfl) ?_
  refine lv_iconst (v := 5) hx hb dL_law_228 (by decide) ?_
  refine lv_iadd hx hb dL_law_229 ?_
  refine va_sld hx hb hX hbl hbA hS hv5 dL_law_230 ?_
  refine lv_topi (fun v5 ev5 => ?_)
  refine lv_i2l (v := v5.toInt64) hx hb dL_law_231 rfl ?_
  refine lv_ldc2 (v := 4294967295) hx hb hown (hts _ wm_555) dL_law_232 ?_
  refine lv_land hx hb dL_law_235 ?_
  refine lv_lor hx hb dL_law_236 ?_
  refine lv_topl (fun w4 ew4 => ?_)
  refine sp_callz (sp_runV (As := [.int v1, .long w2, .long w4]) (rest := []) C (k_X0_bits l D q cA ad sg x v1 w2 w4) (cwV 3 hts (gV wG_i wm_572 wm_573 wm_574 wm_4 wm_575) rfl rfl rfl (by decide +kernel) ⟨Nat.le_of_ble_eq_true rfl, Nat.le_of_ble_eq_true rfl⟩) hK hP hD (List.range' 7 25) (by decide) (sp_mid md_len dk_len) [6] rfl 0 0 rfl rfl rfl rfl hl.1 rfl (Nat.le_of_ble_eq_true rfl) dL_law_237 hf0) hP hD hS hA (List.range' 7 25) (sp_mid md_len dk_len) dk_fst (fun H locs z1 hP hD hS => ?_)
  rw [sp_upd_mid _ _ _ _ 7 25 md_len dk_len dk_len] at hP hD
  refine lv_aload_n hx hb dL_law_240 rfl (lv_at hl 3 rfl) ?_
  refine lv_aload_n hx hb dL_law_241 rfl (lv_at hl 1 rfl) ?_
  refine lv_iload hx hb dL_law_242 (lv_at hl 0 rfl) ?_
  refine lv_iconst (v := 1) hx hb dL_law_244 (by decide) ?_
  refine lv_iadd hx hb dL_law_245 ?_
  refine va_sld hx hb hX hbl hbA hS hv1 dL_law_246 ?_
  refine lw_topi ev1 ?_
  refine lv_aload_n hx hb dL_law_247 rfl (lv_at hl 1 rfl) ?_
  refine lv_iload hx hb dL_law_248 (lv_at hl 0 rfl) ?_
  refine lv_iconst (v := 2) hx hb dL_law_250 (by decide) ?_
  refine lv_iadd hx hb dL_law_251 ?_
  refine va_sld hx hb hX hbl hbA hS hv2 dL_law_252 ?_
  refine lw_topi ev2 ?_
  refine lv_i2l (v := v2.toInt64) hx hb dL_law_253 rfl ?_
  refine lv_bipush (v := 32) hx hb dL_law_254 (by decide) ?_
  refine lv_lshl (v := v2.toInt64 <<< ((32 : Int32).toInt64 &&& 63)) hx hb dL_law_256 rfl ?_
  refine lv_aload_n hx hb dL_law_257 rfl (lv_at hl 1 rfl) ?_
  refine lv_iload hx hb dL_law_258 (lv_at hl 0 rfl) ?_
  refine lv_iconst (v := 3) hx hb dL_law_260 (by decide) ?_
  refine lv_iadd hx hb dL_law_261 ?_
  refine va_sld hx hb hX hbl hbA hS hv3 dL_law_262 ?_
  refine lw_topi ev3 ?_
  refine lv_i2l (v := v3.toInt64) hx hb dL_law_263 rfl ?_
  refine lv_ldc2 (v := 4294967295) hx hb hown (hts _ wm_555) dL_law_264 ?_
  refine lv_land hx hb dL_law_267 ?_
  refine lv_lor hx hb dL_law_268 ?_
  refine lw_topl ew2 ?_
  refine lv_aload_n hx hb dL_law_269 rfl (lv_at hl 1 rfl) ?_
  refine lv_iload hx hb dL_law_270 (lv_at hl 0 rfl) ?_
  refine lv_iconst (v := 4) hx hb dL_law_272 (by decide) ?_
  refine lv_iadd hx hb dL_law_273 ?_
  refine va_sld hx hb hX hbl hbA hS hv4 dL_law_274 ?_
  refine lw_topi ev4 ?_
  refine lv_i2l (v := v4.toInt64) hx hb dL_law_275 rfl ?_
  refine lv_bipush (v := 32) hx hb dL_law_276 (by decide) ?_
  refine lv_lshl (v := v4.toInt64 <<< ((32 : Int32).toInt64 &&& 63)) hx hb dL_law_278 rfl ?_
  refine lv_aload_n hx hb dL_law_279 rfl (lv_at hl 1 rfl) ?_
  refine lv_iload hx hb dL_law_280 (lv_at hl 0 rfl) ?_
  refine lv_iconst (v := 5) hx hb dL_law_282 (by decide) ?_
  refine lv_iadd hx hb dL_law_283 ?_
  refine va_sld hx hb hX hbl hbA hS hv5 dL_law_284 ?_
  refine lw_topi ev5 ?_
  refine lv_i2l (v := v5.toInt64) hx hb dL_law_285 rfl ?_
  refine lv_ldc2 (v := 4294967295) hx hb hown (hts _ wm_555) dL_law_286 ?_
  refine lv_land hx hb dL_law_289 ?_
  refine lv_lor hx hb dL_law_290 ?_
  refine lw_topl ew4 ?_
  refine sp_callz (sp_runV (As := [.int v1, .long w2, .long w4]) (rest := [.int ((f_X0_bits sg x.1 x.2.1 x.2.2.1 x.2.2.2.1 x.2.2.2.2 v1 w2 w4).2)]) C (k_M_bits l D r cj th st v1 w2 w4) (cwV 3 hts (gV wG_i wm_576 wm_577 wm_578 wm_378 wm_579) rfl rfl rfl (by decide +kernel) ⟨Nat.le_of_ble_eq_true rfl, Nat.le_of_ble_eq_true rfl⟩) hK hP hD (List.range' 0 7) (by decide) (sp_first md_len) [0, 1, 2, 3, 4, 5] rfl 0 4 rfl rfl rfl rfl hl.1 rfl (Nat.le_of_ble_eq_true rfl) dL_law_291 hf0) hP hD hS hA (List.range' 0 7) (sp_first md_len) rfl (fun H locs z2 hP hD hS => ?_)
  rw [sp_upd_first _ _ _ 7 md_len md_len] at hP hD
  have e9 := ml_bits (x1 := x.1) (x2 := x.2.1) (x3 := x.2.2.1) (x4 := x.2.2.2.1) (x5 := x.2.2.2.2) hr v1 w2 w4
  refine lv_icmp_eq (tgt := 857) hx hb dL_law_294 (by decide) (fun _ => ?_) (fun h9 => absurd e9.1.symm h9)
  refine W.widen (k := cells + 1) (n := slots + 6) (Nat.le_add_right _ _) (Nat.le_add_right _ _) ?_
  exact J ((f_X0_bits sg x.1 x.2.1 x.2.2.1 x.2.2.2.1 x.2.2.2.2 v1 w2 w4).1) (x) (0) ((f_M_bits st v1 w2 w4).1) (f) H locs ls e9.2 (iv_bits hi) hP hD hS (lv_sub hl [0, 1, 2, 3, 4] rfl)
