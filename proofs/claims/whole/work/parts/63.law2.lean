set_option maxHeartbeats 4000000 in
set_option maxRecDepth 100000 in
theorem lw_c3 (p : Program) (l : Launch) (e : Env) (s : State) (m : MethodId) (below : List Frame) (meth : Method) (c : Code) (b : Nat) (D : va_G) (q : Nat → Nat) (cA : ClassId) (ad : Nat → Nat) (r : Nat → Nat) (cj : Nat → ClassId) (o : Nat) (cO : ClassId) {L : Nat} {xs : Nat → Int32} (F : lw_F p l s m meth c b L xs D cA cj cO) {i : Int32} (hv : lw_in i L) {cells slots : Nat} (hf1 : cells + 1 ≤ room_1.cells ∧ slots + 6 ≤ room_1.slots) (J : lw_J p l e s m below meth c b D q cA ad r cj o cO i 857 (cells + 1) (slots + 6)) : lw_J p l e s m below meth c b D q cA ad r cj o cO i 299 cells slots := by
  obtain ⟨C, hX, hbl, hK, hZ, hl0⟩ := F
  obtain ⟨hv0, hv1, hv2, hv3, hv4, hv5, hv6⟩ := hv
  have hf0 : cells + 0 ≤ room_1.cells ∧ slots + 0 ≤ room_1.slots := ⟨Nat.le_trans (Nat.le_add_right cells 1) hf1.1, Nat.le_trans (Nat.le_add_right slots 6) hf1.2⟩
  have hA : ∀ z : Nat, s.heap.size ≤ z → (fun z : Nat => s.heap.size ≤ z) z := fun _ h => h
  have hbA : ¬ (fun z : Nat => s.heap.size ≤ z) b := Nat.not_le.mpr hbl
  have hx := C.1
  have hb := C.2.1
  have hown := C.2.2.2.2.1
  have hts := C.2.2.2.2.2.1
  intro sg x th st f H locs ls hr hi hP hD hS hl
  refine lv_aload_n hx hb dL_law_299 rfl (lv_at hl 2 rfl) ?_
  refine lv_aload_n hx hb dL_law_300 rfl (lv_at hl 1 rfl) ?_
  refine lv_iload hx hb dL_law_301 (lv_at hl 0 rfl) ?_
  refine lv_iconst (v := 1) hx hb dL_law_303 (by decide) ?_
  refine lv_iadd hx hb dL_law_304 ?_
  refine va_sld hx hb hX hbl hbA hS hv1 dL_law_305 ?_
  refine lv_topi (fun v1 ev1 => ?_)
  refine lv_aload_n hx hb dL_law_306 rfl (lv_at hl 1 rfl) ?_
  refine lv_iload hx hb dL_law_307 (lv_at hl 0 rfl) ?_
  refine lv_iconst (v := 2) hx hb dL_law_309 (by decide) ?_
  refine lv_iadd hx hb dL_law_310 ?_
  refine va_sld hx hb hX hbl hbA hS hv2 dL_law_311 ?_
  refine lv_topi (fun v2 ev2 => ?_)
  refine lv_i2l (v := v2.toInt64) hx hb dL_law_312 rfl ?_
  refine lv_bipush (v := 32) hx hb dL_law_313 (by decide) ?_
  refine lv_lshl (v := v2.toInt64 <<< ((32 : Int32).toInt64 &&& 63)) hx hb dL_law_315 rfl ?_
  refine lv_aload_n hx hb dL_law_316 rfl (lv_at hl 1 rfl) ?_
  refine lv_iload hx hb dL_law_317 (lv_at hl 0 rfl) ?_
  refine lv_iconst (v := 3) hx hb dL_law_319 (by decide) ?_
  refine lv_iadd hx hb dL_law_320 ?_
  refine va_sld hx hb hX hbl hbA hS hv3 dL_law_321 ?_
  refine lv_topi (fun v3 ev3 => ?_)
  refine lv_i2l (v := v3.toInt64) hx hb dL_law_322 rfl ?_
  refine lv_ldc2 (v := 4294967295) hx hb hown (hts _ wm_555) dL_law_323 ?_
  refine lv_land hx hb dL_law_326 ?_
  refine lv_lor hx hb dL_law_327 ?_
  refine lv_topl (fun w2 ew2 => ?_)
  refine lv_aload_n hx hb dL_law_328 rfl (lv_at hl 1 rfl) ?_
  refine lv_iload hx hb dL_law_329 (lv_at hl 0 rfl) ?_
  refine lv_iconst (v := 4) hx hb dL_law_331 (by decide) ?_
  refine lv_iadd hx hb dL_law_332 ?_
  refine va_sld hx hb hX hbl hbA hS hv4 dL_law_333 ?_
  refine lv_topi (fun v4 ev4 => ?_)
  refine lv_i2l (v := v4.toInt64) hx hb dL_law_334 rfl ?_
  refine lv_bipush (v := 32) hx hb dL_law_335 (by decide) ?_
  refine lv_lshl (v := v4.toInt64 <<< ((32 : Int32).toInt64 &&& 63)) hx hb dL_law_337 rfl ?_
  refine lv_aload_n hx hb dL_law_338 rfl (lv_at hl 1 rfl) ?_
  refine lv_iload hx hb dL_law_339 (lv_at hl 0 rfl) ?_
  refine lv_iconst (v := 5) hx hb dL_law_341 (by decide) ?_
  refine lv_iadd hx hb dL_law_342 ?_
  refine va_sld hx hb hX hbl hbA hS hv5 dL_law_343 ?_
  refine lv_topi (fun v5 ev5 => ?_)
  refine lv_i2l (v := v5.toInt64) hx hb dL_law_344 rfl ?_
  refine lv_ldc2 (v := 4294967295) hx hb hown (hts _ wm_555) dL_law_345 ?_
  refine lv_land hx hb dL_law_348 ?_
  refine lv_lor hx hb dL_law_349 ?_
  refine lv_topl (fun w4 ew4 => ?_)
  refine lv_aload_n hx hb dL_law_350 rfl (lv_at hl 1 rfl) ?_
  refine lv_iload hx hb dL_law_351 (lv_at hl 0 rfl) ?_
  refine lv_bipush (v := 6) hx hb dL_law_353 (by decide) ?_
  refine lv_iadd hx hb dL_law_355 ?_
  refine va_sld hx hb hX hbl hbA hS hv6 dL_law_356 ?_
  refine lv_topi (fun v6 ev6 => ?_)
  refine lv_if_eq (tgt := 364) hx hb dL_law_357 (by decide) (fun hz => ?_) (fun hz => ?_)
  · refine lv_iconst (v := 0) hx hb dL_law_364 (by decide) ?_
    refine sp_callz (sp_runV (As := [.int v1, .long w2, .long w4, .int 0]) (rest := []) C (k_X0_bounds l D q cA ad sg x v1 w2 w4 0) (cwV 4 hts (gV wG_i wm_580 wm_581 wm_582 wm_4 wm_583) rfl rfl rfl (by decide +kernel) ⟨Nat.le_of_ble_eq_true rfl, Nat.le_of_ble_eq_true rfl⟩) hK hP hD (List.range' 7 25) (by decide) (sp_mid md_len dk_len) [6] rfl 0 0 rfl rfl rfl rfl hl.1 rfl (Nat.le_of_ble_eq_true rfl) dL_law_365 hf0) hP hD hS hA (List.range' 7 25) (sp_mid md_len dk_len) dk_fst (fun H locs z1 hP hD hS => ?_)
    rw [sp_upd_mid _ _ _ _ 7 25 md_len dk_len dk_len] at hP hD
    refine lv_aload_n hx hb dL_law_368 rfl (lv_at hl 3 rfl) ?_
    refine lv_aload_n hx hb dL_law_369 rfl (lv_at hl 1 rfl) ?_
    refine lv_iload hx hb dL_law_370 (lv_at hl 0 rfl) ?_
    refine lv_iconst (v := 1) hx hb dL_law_372 (by decide) ?_
    refine lv_iadd hx hb dL_law_373 ?_
    refine va_sld hx hb hX hbl hbA hS hv1 dL_law_374 ?_
    refine lw_topi ev1 ?_
    refine lv_aload_n hx hb dL_law_375 rfl (lv_at hl 1 rfl) ?_
    refine lv_iload hx hb dL_law_376 (lv_at hl 0 rfl) ?_
    refine lv_iconst (v := 2) hx hb dL_law_378 (by decide) ?_
    refine lv_iadd hx hb dL_law_379 ?_
    refine va_sld hx hb hX hbl hbA hS hv2 dL_law_380 ?_
    refine lw_topi ev2 ?_
    refine lv_i2l (v := v2.toInt64) hx hb dL_law_381 rfl ?_
    refine lv_bipush (v := 32) hx hb dL_law_382 (by decide) ?_
    refine lv_lshl (v := v2.toInt64 <<< ((32 : Int32).toInt64 &&& 63)) hx hb dL_law_384 rfl ?_
    refine lv_aload_n hx hb dL_law_385 rfl (lv_at hl 1 rfl) ?_
    refine lv_iload hx hb dL_law_386 (lv_at hl 0 rfl) ?_
    refine lv_iconst (v := 3) hx hb dL_law_388 (by decide) ?_
    refine lv_iadd hx hb dL_law_389 ?_
    refine va_sld hx hb hX hbl hbA hS hv3 dL_law_390 ?_
    refine lw_topi ev3 ?_
    refine lv_i2l (v := v3.toInt64) hx hb dL_law_391 rfl ?_
    refine lv_ldc2 (v := 4294967295) hx hb hown (hts _ wm_555) dL_law_392 ?_
    refine lv_land hx hb dL_law_395 ?_
    refine lv_lor hx hb dL_law_396 ?_
    refine lw_topl ew2 ?_
    refine lv_aload_n hx hb dL_law_397 rfl (lv_at hl 1 rfl) ?_
    refine lv_iload hx hb dL_law_398 (lv_at hl 0 rfl) ?_
    refine lv_iconst (v := 4) hx hb dL_law_400 (by decide) ?_
    refine lv_iadd hx hb dL_law_401 ?_
    refine va_sld hx hb hX hbl hbA hS hv4 dL_law_402 ?_
    refine lw_topi ev4 ?_
    refine lv_i2l (v := v4.toInt64) hx hb dL_law_403 rfl ?_
    refine lv_bipush (v := 32) hx hb dL_law_404 (by decide) ?_
    refine lv_lshl (v := v4.toInt64 <<< ((32 : Int32).toInt64 &&& 63)) hx hb dL_law_406 rfl ?_
    refine lv_aload_n hx hb dL_law_407 rfl (lv_at hl 1 rfl) ?_
    refine lv_iload hx hb dL_law_408 (lv_at hl 0 rfl) ?_
    refine lv_iconst (v := 5) hx hb dL_law_410 (by decide) ?_
    refine lv_iadd hx hb dL_law_411 ?_
    refine va_sld hx hb hX hbl hbA hS hv5 dL_law_412 ?_
    refine lw_topi ev5 ?_
    refine lv_i2l (v := v5.toInt64) hx hb dL_law_413 rfl ?_
    refine lv_ldc2 (v := 4294967295) hx hb hown (hts _ wm_555) dL_law_414 ?_
    refine lv_land hx hb dL_law_417 ?_
    refine lv_lor hx hb dL_law_418 ?_
    refine lw_topl ew4 ?_
    refine lv_aload_n hx hb dL_law_419 rfl (lv_at hl 1 rfl) ?_
    refine lv_iload hx hb dL_law_420 (lv_at hl 0 rfl) ?_
    refine lv_bipush (v := 6) hx hb dL_law_422 (by decide) ?_
    refine lv_iadd hx hb dL_law_424 ?_
    refine va_sld hx hb hX hbl hbA hS hv6 dL_law_425 ?_
    refine lw_topi ev6 ?_
    refine lv_if_eq (tgt := 433) hx hb dL_law_426 (by decide) (fun _ => ?_) (fun h9 => absurd hz h9)
    refine lv_iconst (v := 0) hx hb dL_law_433 (by decide) ?_
    refine sp_callz (sp_runV (As := [.int v1, .long w2, .long w4, .int 0]) (rest := [.int ((f_X0_bounds sg x.1 x.2.1 x.2.2.1 x.2.2.2.1 x.2.2.2.2 v1 w2 w4 0).2)]) C (k_M_bounds l D r cj th st v1 w2 w4 0) (cwV 4 hts (gV wG_i wm_584 wm_585 wm_586 wm_378 wm_587) rfl rfl rfl (by decide +kernel) ⟨Nat.le_of_ble_eq_true rfl, Nat.le_of_ble_eq_true rfl⟩) hK hP hD (List.range' 0 7) (by decide) (sp_first md_len) [0, 1, 2, 3, 4, 5] rfl 0 4 rfl rfl rfl rfl hl.1 rfl (Nat.le_of_ble_eq_true rfl) dL_law_434 hf0) hP hD hS hA (List.range' 0 7) (sp_first md_len) rfl (fun H locs z2 hP hD hS => ?_)
    rw [sp_upd_first _ _ _ 7 md_len md_len] at hP hD
    have e9 := ml_bounds (x1 := x.1) (x2 := x.2.1) (x3 := x.2.2.1) (x4 := x.2.2.2.1) (x5 := x.2.2.2.2) hr v1 w2 w4 0
    refine lv_icmp_eq (tgt := 857) hx hb dL_law_437 (by decide) (fun _ => ?_) (fun h9 => absurd e9.1.symm h9)
    refine W.widen (k := cells + 1) (n := slots + 6) (Nat.le_add_right _ _) (Nat.le_add_right _ _) ?_
    exact J ((f_X0_bounds sg x.1 x.2.1 x.2.2.1 x.2.2.2.1 x.2.2.2.2 v1 w2 w4 0).1) (x) (0) ((f_M_bounds st v1 w2 w4 0).1) (f) H locs ls e9.2 (iv_bounds hi) hP hD hS (lv_sub hl [0, 1, 2, 3, 4] rfl)
  · refine lv_iconst (v := 1) hx hb dL_law_360 (by decide) ?_
    refine lv_goto (tgt := 365) hx hb dL_law_361 (by decide) ?_
    refine sp_callz (sp_runV (As := [.int v1, .long w2, .long w4, .int 1]) (rest := []) C (k_X0_bounds l D q cA ad sg x v1 w2 w4 1) (cwV 4 hts (gV wG_i wm_580 wm_581 wm_582 wm_4 wm_583) rfl rfl rfl (by decide +kernel) ⟨Nat.le_of_ble_eq_true rfl, Nat.le_of_ble_eq_true rfl⟩) hK hP hD (List.range' 7 25) (by decide) (sp_mid md_len dk_len) [6] rfl 0 0 rfl rfl rfl rfl hl.1 rfl (Nat.le_of_ble_eq_true rfl) dL_law_365 hf0) hP hD hS hA (List.range' 7 25) (sp_mid md_len dk_len) dk_fst (fun H locs z1 hP hD hS => ?_)
    rw [sp_upd_mid _ _ _ _ 7 25 md_len dk_len dk_len] at hP hD
    refine lv_aload_n hx hb dL_law_368 rfl (lv_at hl 3 rfl) ?_
    refine lv_aload_n hx hb dL_law_369 rfl (lv_at hl 1 rfl) ?_
    refine lv_iload hx hb dL_law_370 (lv_at hl 0 rfl) ?_
    refine lv_iconst (v := 1) hx hb dL_law_372 (by decide) ?_
    refine lv_iadd hx hb dL_law_373 ?_
    refine va_sld hx hb hX hbl hbA hS hv1 dL_law_374 ?_
    refine lw_topi ev1 ?_
    refine lv_aload_n hx hb dL_law_375 rfl (lv_at hl 1 rfl) ?_
    refine lv_iload hx hb dL_law_376 (lv_at hl 0 rfl) ?_
    refine lv_iconst (v := 2) hx hb dL_law_378 (by decide) ?_
    refine lv_iadd hx hb dL_law_379 ?_
    refine va_sld hx hb hX hbl hbA hS hv2 dL_law_380 ?_
    refine lw_topi ev2 ?_
    refine lv_i2l (v := v2.toInt64) hx hb dL_law_381 rfl ?_
    refine lv_bipush (v := 32) hx hb dL_law_382 (by decide) ?_
    refine lv_lshl (v := v2.toInt64 <<< ((32 : Int32).toInt64 &&& 63)) hx hb dL_law_384 rfl ?_
    refine lv_aload_n hx hb dL_law_385 rfl (lv_at hl 1 rfl) ?_
    refine lv_iload hx hb dL_law_386 (lv_at hl 0 rfl) ?_
    refine lv_iconst (v := 3) hx hb dL_law_388 (by decide) ?_
    refine lv_iadd hx hb dL_law_389 ?_
    refine va_sld hx hb hX hbl hbA hS hv3 dL_law_390 ?_
    refine lw_topi ev3 ?_
    refine lv_i2l (v := v3.toInt64) hx hb dL_law_391 rfl ?_
    refine lv_ldc2 (v := 4294967295) hx hb hown (hts _ wm_555) dL_law_392 ?_
    refine lv_land hx hb dL_law_395 ?_
    refine lv_lor hx hb dL_law_396 ?_
    refine lw_topl ew2 ?_
    refine lv_aload_n hx hb dL_law_397 rfl (lv_at hl 1 rfl) ?_
    refine lv_iload hx hb dL_law_398 (lv_at hl 0 rfl) ?_
    refine lv_iconst (v := 4) hx hb dL_law_400 (by decide) ?_
    refine lv_iadd hx hb dL_law_401 ?_
    refine va_sld hx hb hX hbl hbA hS hv4 dL_law_402 ?_
    refine lw_topi ev4 ?_
    refine lv_i2l (v := v4.toInt64) hx hb dL_law_403 rfl ?_
    refine lv_bipush (v := 32) hx hb dL_law_404 (by decide) ?_
    refine lv_lshl (v := v4.toInt64 <<< ((32 : Int32).toInt64 &&& 63)) hx hb dL_law_406 rfl ?_
    refine lv_aload_n hx hb dL_law_407 rfl (lv_at hl 1 rfl) ?_
    refine lv_iload hx hb dL_law_408 (lv_at hl 0 rfl) ?_
    refine lv_iconst (v := 5) hx hb dL_law_410 (by decide) ?_
    refine lv_iadd hx hb dL_law_411 ?_
    refine va_sld hx hb hX hbl hbA hS hv5 dL_law_412 ?_
    refine lw_topi ev5 ?_
    refine lv_i2l (v := v5.toInt64) hx hb dL_law_413 rfl ?_
    refine lv_ldc2 (v := 4294967295) hx hb hown (hts _ wm_555) dL_law_414 ?_
    refine lv_land hx hb dL_law_417 ?_
    refine lv_lor hx hb dL_law_418 ?_
    refine lw_topl ew4 ?_
    refine lv_aload_n hx hb dL_law_419 rfl (lv_at hl 1 rfl) ?_
    refine lv_iload hx hb dL_law_420 (lv_at hl 0 rfl) ?_
    refine lv_bipush (v := 6) hx hb dL_law_422 (by decide) ?_
    refine lv_iadd hx hb dL_law_424 ?_
    refine va_sld hx hb hX hbl hbA hS hv6 dL_law_425 ?_
    refine lw_topi ev6 ?_
    refine lv_if_eq (tgt := 433) hx hb dL_law_426 (by decide) (fun h9 => absurd h9 hz) (fun _ => ?_)
    refine lv_iconst (v := 1) hx hb dL_law_429 (by decide) ?_
    refine lv_goto (tgt := 434) hx hb dL_law_430 (by decide) ?_
    refine sp_callz (sp_runV (As := [.int v1, .long w2, .long w4, .int 1]) (rest := [.int ((f_X0_bounds sg x.1 x.2.1 x.2.2.1 x.2.2.2.1 x.2.2.2.2 v1 w2 w4 1).2)]) C (k_M_bounds l D r cj th st v1 w2 w4 1) (cwV 4 hts (gV wG_i wm_584 wm_585 wm_586 wm_378 wm_587) rfl rfl rfl (by decide +kernel) ⟨Nat.le_of_ble_eq_true rfl, Nat.le_of_ble_eq_true rfl⟩) hK hP hD (List.range' 0 7) (by decide) (sp_first md_len) [0, 1, 2, 3, 4, 5] rfl 0 4 rfl rfl rfl rfl hl.1 rfl (Nat.le_of_ble_eq_true rfl) dL_law_434 hf0) hP hD hS hA (List.range' 0 7) (sp_first md_len) rfl (fun H locs z2 hP hD hS => ?_)
    rw [sp_upd_first _ _ _ 7 md_len md_len] at hP hD
    have e9 := ml_bounds (x1 := x.1) (x2 := x.2.1) (x3 := x.2.2.1) (x4 := x.2.2.2.1) (x5 := x.2.2.2.2) hr v1 w2 w4 1
    refine lv_icmp_eq (tgt := 857) hx hb dL_law_437 (by decide) (fun _ => ?_) (fun h9 => absurd e9.1.symm h9)
    refine W.widen (k := cells + 1) (n := slots + 6) (Nat.le_add_right _ _) (Nat.le_add_right _ _) ?_
    exact J ((f_X0_bounds sg x.1 x.2.1 x.2.2.1 x.2.2.2.1 x.2.2.2.2 v1 w2 w4 1).1) (x) (0) ((f_M_bounds st v1 w2 w4 1).1) (f) H locs ls e9.2 (iv_bounds hi) hP hD hS (lv_sub hl [0, 1, 2, 3, 4] rfl)
set_option maxHeartbeats 4000000 in
set_option maxRecDepth 100000 in
theorem lw_c4 (p : Program) (l : Launch) (e : Env) (s : State) (m : MethodId) (below : List Frame) (meth : Method) (c : Code) (b : Nat) (D : va_G) (q : Nat → Nat) (cA : ClassId) (ad : Nat → Nat) (r : Nat → Nat) (cj : Nat → ClassId) (o : Nat) (cO : ClassId) {L : Nat} {xs : Nat → Int32} (F : lw_F p l s m meth c b L xs D cA cj cO) {i : Int32} (hv : lw_in i L) {cells slots : Nat} (hf1 : cells + 1 ≤ room_1.cells ∧ slots + 6 ≤ room_1.slots) (J : lw_J p l e s m below meth c b D q cA ad r cj o cO i 857 (cells + 1) (slots + 6)) : lw_J p l e s m below meth c b D q cA ad r cj o cO i 442 cells slots := by
  obtain ⟨C, hX, hbl, hK, hZ, hl0⟩ := F
  obtain ⟨hv0, hv1, hv2, hv3, hv4, hv5, hv6⟩ := hv
  have hf0 : cells + 0 ≤ room_1.cells ∧ slots + 0 ≤ room_1.slots := ⟨Nat.le_trans (Nat.le_add_right cells 1) hf1.1, Nat.le_trans (Nat.le_add_right slots 6) hf1.2⟩
  have hA : ∀ z : Nat, s.heap.size ≤ z → (fun z : Nat => s.heap.size ≤ z) z := fun _ h => h
  have hbA : ¬ (fun z : Nat => s.heap.size ≤ z) b := Nat.not_le.mpr hbl
  have hx := C.1
  have hb := C.2.1
  have hown := C.2.2.2.2.1
  have hts := C.2.2.2.2.2.1
  intro sg x th st f H locs ls hr hi hP hD hS hl
  refine lv_aload_n hx hb dL_law_442 rfl (lv_at hl 2 rfl) ?_
  refine lv_aload_n hx hb dL_law_443 rfl (lv_at hl 1 rfl) ?_
  refine lv_iload hx hb dL_law_444 (lv_at hl 0 rfl) ?_
  refine lv_iconst (v := 1) hx hb dL_law_446 (by decide) ?_
  refine lv_iadd hx hb dL_law_447 ?_
  refine va_sld hx hb hX hbl hbA hS hv1 dL_law_448 ?_
  refine lv_topi (fun v1 ev1 => ?_)
  refine lv_aload_n hx hb dL_law_449 rfl (lv_at hl 1 rfl) ?_
  refine lv_iload hx hb dL_law_450 (lv_at hl 0 rfl) ?_
  refine lv_iconst (v := 2) hx hb dL_law_452 (by decide) ?_
  refine lv_iadd hx hb dL_law_453 ?_
  refine va_sld hx hb hX hbl hbA hS hv2 dL_law_454 ?_
  refine lv_topi (fun v2 ev2 => ?_)
  refine lv_aload_n hx hb dL_law_455 rfl (lv_at hl 1 rfl) ?_
  refine lv_iload hx hb dL_law_456 (lv_at hl 0 rfl) ?_
  refine lv_iconst (v := 3) hx hb dL_law_458 (by decide) ?_
  refine lv_iadd hx hb dL_law_459 ?_
  refine va_sld hx hb hX hbl hbA hS hv3 dL_law_460 ?_
  refine lv_topi (fun v3 ev3 => ?_)
  refine lv_aload_n hx hb dL_law_461 rfl (lv_at hl 1 rfl) ?_
  refine lv_iload hx hb dL_law_462 (lv_at hl 0 rfl) ?_
  refine lv_iconst (v := 4) hx hb dL_law_464 (by decide) ?_
  refine lv_iadd hx hb dL_law_465 ?_
  refine va_sld hx hb hX hbl hbA hS hv4 dL_law_466 ?_
  refine lv_topi (fun v4 ev4 => ?_)
  refine lv_aload_n hx hb dL_law_467 rfl (lv_at hl 1 rfl) ?_
  refine lv_iload hx hb dL_law_468 (lv_at hl 0 rfl) ?_
  refine lv_iconst (v := 5) hx hb dL_law_470 (by decide) ?_
  refine lv_iadd hx hb dL_law_471 ?_
  refine va_sld hx hb hX hbl hbA hS hv5 dL_law_472 ?_
  refine lv_topi (fun v5 ev5 => ?_)
  refine lv_if_eq (tgt := 480) hx hb dL_law_473 (by decide) (fun hz => ?_) (fun hz => ?_)
  · refine lv_iconst (v := 0) hx hb dL_law_480 (by decide) ?_
    refine sp_callz (sp_runV (As := [.int v1, .int v2, .int v3, .int v4, .int 0]) (rest := []) C (k_X0_operate l D q cA ad sg x v1 v2 v3 v4 0) (cwV 5 hts (gV wG_i wm_588 wm_589 wm_590 wm_4 wm_591) rfl rfl rfl (by decide +kernel) ⟨Nat.le_of_ble_eq_true rfl, Nat.le_of_ble_eq_true rfl⟩) hK hP hD (List.range' 7 25) (by decide) (sp_mid md_len dk_len) [6] rfl 0 0 rfl rfl rfl rfl hl.1 rfl (Nat.le_of_ble_eq_true rfl) dL_law_481 hf0) hP hD hS hA (List.range' 7 25) (sp_mid md_len dk_len) dk_fst (fun H locs z1 hP hD hS => ?_)
    rw [sp_upd_mid _ _ _ _ 7 25 md_len dk_len dk_len] at hP hD
    refine lv_aload_n hx hb dL_law_484 rfl (lv_at hl 3 rfl) ?_
    refine lv_aload_n hx hb dL_law_485 rfl (lv_at hl 1 rfl) ?_
    refine lv_iload hx hb dL_law_486 (lv_at hl 0 rfl) ?_
    refine lv_iconst (v := 1) hx hb dL_law_488 (by decide) ?_
    refine lv_iadd hx hb dL_law_489 ?_
    refine va_sld hx hb hX hbl hbA hS hv1 dL_law_490 ?_
    refine lw_topi ev1 ?_
    refine lv_aload_n hx hb dL_law_491 rfl (lv_at hl 1 rfl) ?_
    refine lv_iload hx hb dL_law_492 (lv_at hl 0 rfl) ?_
    refine lv_iconst (v := 2) hx hb dL_law_494 (by decide) ?_
    refine lv_iadd hx hb dL_law_495 ?_
    refine va_sld hx hb hX hbl hbA hS hv2 dL_law_496 ?_
    refine lw_topi ev2 ?_
    refine lv_aload_n hx hb dL_law_497 rfl (lv_at hl 1 rfl) ?_
    refine lv_iload hx hb dL_law_498 (lv_at hl 0 rfl) ?_
    refine lv_iconst (v := 3) hx hb dL_law_500 (by decide) ?_
    refine lv_iadd hx hb dL_law_501 ?_
    refine va_sld hx hb hX hbl hbA hS hv3 dL_law_502 ?_
    refine lw_topi ev3 ?_
    refine lv_aload_n hx hb dL_law_503 rfl (lv_at hl 1 rfl) ?_
    refine lv_iload hx hb dL_law_504 (lv_at hl 0 rfl) ?_
    refine lv_iconst (v := 4) hx hb dL_law_506 (by decide) ?_
    refine lv_iadd hx hb dL_law_507 ?_
    refine va_sld hx hb hX hbl hbA hS hv4 dL_law_508 ?_
    refine lw_topi ev4 ?_
    refine lv_aload_n hx hb dL_law_509 rfl (lv_at hl 1 rfl) ?_
    refine lv_iload hx hb dL_law_510 (lv_at hl 0 rfl) ?_
    refine lv_iconst (v := 5) hx hb dL_law_512 (by decide) ?_
    refine lv_iadd hx hb dL_law_513 ?_
    refine va_sld hx hb hX hbl hbA hS hv5 dL_law_514 ?_
    refine lw_topi ev5 ?_
    refine lv_if_eq (tgt := 522) hx hb dL_law_515 (by decide) (fun _ => ?_) (fun h9 => absurd hz h9)
    refine lv_iconst (v := 0) hx hb dL_law_522 (by decide) ?_
    refine sp_callz (sp_runV (As := [.int v1, .int v2, .int v3, .int v4, .int 0]) (rest := [.int ((f_X0_operate sg x.1 x.2.1 x.2.2.1 x.2.2.2.1 x.2.2.2.2 v1 v2 v3 v4 0).2.2.2.2)]) C (k_M_operate l D r cj th st v1 v2 v3 v4 0) (cwV 5 hts (gV wG_i wm_592 wm_593 wm_594 wm_378 wm_595) rfl rfl rfl (by decide +kernel) ⟨Nat.le_of_ble_eq_true rfl, Nat.le_of_ble_eq_true rfl⟩) hK hP hD (List.range' 0 7) (by decide) (sp_first md_len) [0, 1, 2, 3, 4, 5] rfl 0 4 rfl rfl rfl rfl hl.1 rfl (Nat.le_of_ble_eq_true rfl) dL_law_523 hf0) hP hD hS hA (List.range' 0 7) (sp_first md_len) rfl (fun H locs z2 hP hD hS => ?_)
    rw [sp_upd_first _ _ _ 7 md_len md_len] at hP hD
    have e9 := ml_operate (x1 := x.1) (x2 := x.2.1) (x3 := x.2.2.1) (x4 := x.2.2.2.1) (x5 := x.2.2.2.2) hr v1 v2 v3 v4 0
    refine lv_icmp_eq (tgt := 857) hx hb dL_law_526 (by decide) (fun _ => ?_) (fun h9 => absurd e9.1.symm h9)
    refine W.widen (k := cells + 1) (n := slots + 6) (Nat.le_add_right _ _) (Nat.le_add_right _ _) ?_
    exact J ((f_X0_operate sg x.1 x.2.1 x.2.2.1 x.2.2.2.1 x.2.2.2.2 v1 v2 v3 v4 0).1) (((f_X0_operate sg x.1 x.2.1 x.2.2.1 x.2.2.2.1 x.2.2.2.2 v1 v2 v3 v4 0).2.1, (f_X0_operate sg x.1 x.2.1 x.2.2.1 x.2.2.2.1 x.2.2.2.2 v1 v2 v3 v4 0).2.2.1, (f_X0_operate sg x.1 x.2.1 x.2.2.1 x.2.2.2.1 x.2.2.2.2 v1 v2 v3 v4 0).2.2.2.1, x.2.2.2.1, x.2.2.2.2)) (0) ((f_M_operate st v1 v2 v3 v4 0).1) (f) H locs ls e9.2 (iv_operate hi) hP hD hS (lv_sub hl [0, 1, 2, 3, 4] rfl)
  · refine lv_iconst (v := 1) hx hb dL_law_476 (by decide) ?_
    refine lv_goto (tgt := 481) hx hb dL_law_477 (by decide) ?_
    refine sp_callz (sp_runV (As := [.int v1, .int v2, .int v3, .int v4, .int 1]) (rest := []) C (k_X0_operate l D q cA ad sg x v1 v2 v3 v4 1) (cwV 5 hts (gV wG_i wm_588 wm_589 wm_590 wm_4 wm_591) rfl rfl rfl (by decide +kernel) ⟨Nat.le_of_ble_eq_true rfl, Nat.le_of_ble_eq_true rfl⟩) hK hP hD (List.range' 7 25) (by decide) (sp_mid md_len dk_len) [6] rfl 0 0 rfl rfl rfl rfl hl.1 rfl (Nat.le_of_ble_eq_true rfl) dL_law_481 hf0) hP hD hS hA (List.range' 7 25) (sp_mid md_len dk_len) dk_fst (fun H locs z1 hP hD hS => ?_)
    rw [sp_upd_mid _ _ _ _ 7 25 md_len dk_len dk_len] at hP hD
    refine lv_aload_n hx hb dL_law_484 rfl (lv_at hl 3 rfl) ?_
    refine lv_aload_n hx hb dL_law_485 rfl (lv_at hl 1 rfl) ?_
    refine lv_iload hx hb dL_law_486 (lv_at hl 0 rfl) ?_
    refine lv_iconst (v := 1) hx hb dL_law_488 (by decide) ?_
    refine lv_iadd hx hb dL_law_489 ?_
    refine va_sld hx hb hX hbl hbA hS hv1 dL_law_490 ?_
    refine lw_topi ev1 ?_
    refine lv_aload_n hx hb dL_law_491 rfl (lv_at hl 1 rfl) ?_
    refine lv_iload hx hb dL_law_492 (lv_at hl 0 rfl) ?_
    refine lv_iconst (v := 2) hx hb dL_law_494 (by decide) ?_
    refine lv_iadd hx hb dL_law_495 ?_
    refine va_sld hx hb hX hbl hbA hS hv2 dL_law_496 ?_
    refine lw_topi ev2 ?_
    refine lv_aload_n hx hb dL_law_497 rfl (lv_at hl 1 rfl) ?_
    refine lv_iload hx hb dL_law_498 (lv_at hl 0 rfl) ?_
    refine lv_iconst (v := 3) hx hb dL_law_500 (by decide) ?_
    refine lv_iadd hx hb dL_law_501 ?_
    refine va_sld hx hb hX hbl hbA hS hv3 dL_law_502 ?_
    refine lw_topi ev3 ?_
    refine lv_aload_n hx hb dL_law_503 rfl (lv_at hl 1 rfl) ?_
    refine lv_iload hx hb dL_law_504 (lv_at hl 0 rfl) ?_
    refine lv_iconst (v := 4) hx hb dL_law_506 (by decide) ?_
    refine lv_iadd hx hb dL_law_507 ?_
    refine va_sld hx hb hX hbl hbA hS hv4 dL_law_508 ?_
    refine lw_topi ev4 ?_
    refine lv_aload_n hx hb dL_law_509 rfl (lv_at hl 1 rfl) ?_
    refine lv_iload hx hb dL_law_510 (lv_at hl 0 rfl) ?_
    refine lv_iconst (v := 5) hx hb dL_law_512 (by decide) ?_
    refine lv_iadd hx hb dL_law_513 ?_
    refine va_sld hx hb hX hbl hbA hS hv5 dL_law_514 ?_
    refine lw_topi ev5 ?_
    refine lv_if_eq (tgt := 522) hx hb dL_law_515 (by decide) (fun h9 => absurd h9 hz) (fun _ => ?_)
    refine lv_iconst (v := 1) hx hb dL_law_518 (by decide) ?_
    refine lv_goto (tgt := 523) hx hb dL_law_519 (by decide) ?_
    refine sp_callz (sp_runV (As := [.int v1, .int v2, .int v3, .int v4, .int 1]) (rest := [.int ((f_X0_operate sg x.1 x.2.1 x.2.2.1 x.2.2.2.1 x.2.2.2.2 v1 v2 v3 v4 1).2.2.2.2)]) C (k_M_operate l D r cj th st v1 v2 v3 v4 1) (cwV 5 hts (gV wG_i wm_592 wm_593 wm_594 wm_378 wm_595) rfl rfl rfl (by decide +kernel) ⟨Nat.le_of_ble_eq_true rfl, Nat.le_of_ble_eq_true rfl⟩) hK hP hD (List.range' 0 7) (by decide) (sp_first md_len) [0, 1, 2, 3, 4, 5] rfl 0 4 rfl rfl rfl rfl hl.1 rfl (Nat.le_of_ble_eq_true rfl) dL_law_523 hf0) hP hD hS hA (List.range' 0 7) (sp_first md_len) rfl (fun H locs z2 hP hD hS => ?_)
    rw [sp_upd_first _ _ _ 7 md_len md_len] at hP hD
    have e9 := ml_operate (x1 := x.1) (x2 := x.2.1) (x3 := x.2.2.1) (x4 := x.2.2.2.1) (x5 := x.2.2.2.2) hr v1 v2 v3 v4 1
    refine lv_icmp_eq (tgt := 857) hx hb dL_law_526 (by decide) (fun _ => ?_) (fun h9 => absurd e9.1.symm h9)
    refine W.widen (k := cells + 1) (n := slots + 6) (Nat.le_add_right _ _) (Nat.le_add_right _ _) ?_
    exact J ((f_X0_operate sg x.1 x.2.1 x.2.2.1 x.2.2.2.1 x.2.2.2.2 v1 v2 v3 v4 1).1) (((f_X0_operate sg x.1 x.2.1 x.2.2.1 x.2.2.2.1 x.2.2.2.2 v1 v2 v3 v4 1).2.1, (f_X0_operate sg x.1 x.2.1 x.2.2.1 x.2.2.2.1 x.2.2.2.2 v1 v2 v3 v4 1).2.2.1, (f_X0_operate sg x.1 x.2.1 x.2.2.1 x.2.2.2.1 x.2.2.2.2 v1 v2 v3 v4 1).2.2.2.1, x.2.2.2.1, x.2.2.2.2)) (0) ((f_M_operate st v1 v2 v3 v4 1).1) (f) H locs ls e9.2 (iv_operate hi) hP hD hS (lv_sub hl [0, 1, 2, 3, 4] rfl)
set_option maxHeartbeats 4000000 in
set_option maxRecDepth 100000 in
theorem lw_c5 (p : Program) (l : Launch) (e : Env) (s : State) (m : MethodId) (below : List Frame) (meth : Method) (c : Code) (b : Nat) (D : va_G) (q : Nat → Nat) (cA : ClassId) (ad : Nat → Nat) (r : Nat → Nat) (cj : Nat → ClassId) (o : Nat) (cO : ClassId) {L : Nat} {xs : Nat → Int32} (F : lw_F p l s m meth c b L xs D cA cj cO) {i : Int32} (hv : lw_in i L) {cells slots : Nat} (hf1 : cells + 1 ≤ room_1.cells ∧ slots + 6 ≤ room_1.slots) (J : lw_J p l e s m below meth c b D q cA ad r cj o cO i 857 (cells + 1) (slots + 6)) : lw_J p l e s m below meth c b D q cA ad r cj o cO i 531 cells slots := by
  obtain ⟨C, hX, hbl, hK, hZ, hl0⟩ := F
  obtain ⟨hv0, hv1, hv2, hv3, hv4, hv5, hv6⟩ := hv
  have hf0 : cells + 0 ≤ room_1.cells ∧ slots + 0 ≤ room_1.slots := ⟨Nat.le_trans (Nat.le_add_right cells 1) hf1.1, Nat.le_trans (Nat.le_add_right slots 6) hf1.2⟩
  have hA : ∀ z : Nat, s.heap.size ≤ z → (fun z : Nat => s.heap.size ≤ z) z := fun _ h => h
  have hbA : ¬ (fun z : Nat => s.heap.size ≤ z) b := Nat.not_le.mpr hbl
  have hx := C.1
  have hb := C.2.1
  have hown := C.2.2.2.2.1
  have hts := C.2.2.2.2.2.1
  intro sg x th st f H locs ls hr hi hP hD hS hl
  refine lv_aload_n hx hb dL_law_531 rfl (lv_at hl 2 rfl) ?_
  refine lv_aload_n hx hb dL_law_532 rfl (lv_at hl 1 rfl) ?_
  refine lv_iload hx hb dL_law_533 (lv_at hl 0 rfl) ?_
  refine lv_iconst (v := 1) hx hb dL_law_535 (by decide) ?_
  refine lv_iadd hx hb dL_law_536 ?_
  refine va_sld hx hb hX hbl hbA hS hv1 dL_law_537 ?_
  refine lv_topi (fun v1 ev1 => ?_)
  refine lv_aload_n hx hb dL_law_538 rfl (lv_at hl 1 rfl) ?_
  refine lv_iload hx hb dL_law_539 (lv_at hl 0 rfl) ?_
  refine lv_iconst (v := 2) hx hb dL_law_541 (by decide) ?_
  refine lv_iadd hx hb dL_law_542 ?_
  refine va_sld hx hb hX hbl hbA hS hv2 dL_law_543 ?_
  refine lv_topi (fun v2 ev2 => ?_)
  refine lv_aload_n hx hb dL_law_544 rfl (lv_at hl 1 rfl) ?_
  refine lv_iload hx hb dL_law_545 (lv_at hl 0 rfl) ?_
  refine lv_iconst (v := 3) hx hb dL_law_547 (by decide) ?_
  refine lv_iadd hx hb dL_law_548 ?_
  refine va_sld hx hb hX hbl hbA hS hv3 dL_law_549 ?_
  refine lv_topi (fun v3 ev3 => ?_)
  refine lv_aload_n hx hb dL_law_550 rfl (lv_at hl 1 rfl) ?_
  refine lv_iload hx hb dL_law_551 (lv_at hl 0 rfl) ?_
  refine lv_iconst (v := 4) hx hb dL_law_553 (by decide) ?_
  refine lv_iadd hx hb dL_law_554 ?_
  refine va_sld hx hb hX hbl hbA hS hv4 dL_law_555 ?_
  refine lv_topi (fun v4 ev4 => ?_)
  refine lv_if_eq (tgt := 563) hx hb dL_law_556 (by decide) (fun hz => ?_) (fun hz => ?_)
  · refine lv_iconst (v := 0) hx hb dL_law_563 (by decide) ?_
    refine sp_callz (sp_runV (As := [.int v1, .int v2, .int v3, .int 0]) (rest := []) C (k_X0_holds l D q cA ad sg x v1 v2 v3 0) (cwV 4 hts (gV wG_i wm_596 wm_597 wm_598 wm_4 wm_599) rfl rfl rfl (by decide +kernel) ⟨Nat.le_of_ble_eq_true rfl, Nat.le_of_ble_eq_true rfl⟩) hK hP hD (List.range' 7 25) (by decide) (sp_mid md_len dk_len) [6] rfl 0 0 rfl rfl rfl rfl hl.1 rfl (Nat.le_of_ble_eq_true rfl) dL_law_564 hf0) hP hD hS hA (List.range' 7 25) (sp_mid md_len dk_len) dk_fst (fun H locs z1 hP hD hS => ?_)
    rw [sp_upd_mid _ _ _ _ 7 25 md_len dk_len dk_len] at hP hD
    refine lv_aload_n hx hb dL_law_567 rfl (lv_at hl 3 rfl) ?_
    refine lv_aload_n hx hb dL_law_568 rfl (lv_at hl 1 rfl) ?_
    refine lv_iload hx hb dL_law_569 (lv_at hl 0 rfl) ?_
    refine lv_iconst (v := 1) hx hb dL_law_571 (by decide) ?_
    refine lv_iadd hx hb dL_law_572 ?_
    refine va_sld hx hb hX hbl hbA hS hv1 dL_law_573 ?_
    refine lw_topi ev1 ?_
    refine lv_aload_n hx hb dL_law_574 rfl (lv_at hl 1 rfl) ?_
    refine lv_iload hx hb dL_law_575 (lv_at hl 0 rfl) ?_
    refine lv_iconst (v := 2) hx hb dL_law_577 (by decide) ?_
    refine lv_iadd hx hb dL_law_578 ?_
    refine va_sld hx hb hX hbl hbA hS hv2 dL_law_579 ?_
    refine lw_topi ev2 ?_
    refine lv_aload_n hx hb dL_law_580 rfl (lv_at hl 1 rfl) ?_
    refine lv_iload hx hb dL_law_581 (lv_at hl 0 rfl) ?_
    refine lv_iconst (v := 3) hx hb dL_law_583 (by decide) ?_
    refine lv_iadd hx hb dL_law_584 ?_
    refine va_sld hx hb hX hbl hbA hS hv3 dL_law_585 ?_
    refine lw_topi ev3 ?_
    refine lv_aload_n hx hb dL_law_586 rfl (lv_at hl 1 rfl) ?_
    refine lv_iload hx hb dL_law_587 (lv_at hl 0 rfl) ?_
    refine lv_iconst (v := 4) hx hb dL_law_589 (by decide) ?_
    refine lv_iadd hx hb dL_law_590 ?_
    refine va_sld hx hb hX hbl hbA hS hv4 dL_law_591 ?_
    refine lw_topi ev4 ?_
    refine lv_if_eq (tgt := 599) hx hb dL_law_592 (by decide) (fun _ => ?_) (fun h9 => absurd hz h9)
    refine lv_iconst (v := 0) hx hb dL_law_599 (by decide) ?_
    refine sp_callz (sp_runV (As := [.int v1, .int v2, .int v3, .int 0]) (rest := [.int ((f_X0_holds sg x.1 x.2.1 x.2.2.1 x.2.2.2.1 x.2.2.2.2 v1 v2 v3 0).2.2.2)]) C (k_M_holds l D r cj th st v1 v2 v3 0) (cwV 4 hts (gV wG_i wm_600 wm_601 wm_602 wm_378 wm_603) rfl rfl rfl (by decide +kernel) ⟨Nat.le_of_ble_eq_true rfl, Nat.le_of_ble_eq_true rfl⟩) hK hP hD (List.range' 0 7) (by decide) (sp_first md_len) [0, 1, 2, 3, 4, 5] rfl 0 4 rfl rfl rfl rfl hl.1 rfl (Nat.le_of_ble_eq_true rfl) dL_law_600 hf0) hP hD hS hA (List.range' 0 7) (sp_first md_len) rfl (fun H locs z2 hP hD hS => ?_)
    rw [sp_upd_first _ _ _ 7 md_len md_len] at hP hD
    have e9 := ml_holds (x1 := x.1) (x2 := x.2.1) (x3 := x.2.2.1) (x4 := x.2.2.2.1) (x5 := x.2.2.2.2) hr v1 v2 v3 0
    refine lv_icmp_eq (tgt := 857) hx hb dL_law_603 (by decide) (fun _ => ?_) (fun h9 => absurd e9.1.symm h9)
    refine W.widen (k := cells + 1) (n := slots + 6) (Nat.le_add_right _ _) (Nat.le_add_right _ _) ?_
    exact J ((f_X0_holds sg x.1 x.2.1 x.2.2.1 x.2.2.2.1 x.2.2.2.2 v1 v2 v3 0).1) ((x.1, x.2.1, x.2.2.1, (f_X0_holds sg x.1 x.2.1 x.2.2.1 x.2.2.2.1 x.2.2.2.2 v1 v2 v3 0).2.1, (f_X0_holds sg x.1 x.2.1 x.2.2.1 x.2.2.2.1 x.2.2.2.2 v1 v2 v3 0).2.2.1)) (0) ((f_M_holds st v1 v2 v3 0).1) (f) H locs ls e9.2 (iv_holds hi) hP hD hS (lv_sub hl [0, 1, 2, 3, 4] rfl)
  · refine lv_iconst (v := 1) hx hb dL_law_559 (by decide) ?_
    refine lv_goto (tgt := 564) hx hb dL_law_560 (by decide) ?_
    refine sp_callz (sp_runV (As := [.int v1, .int v2, .int v3, .int 1]) (rest := []) C (k_X0_holds l D q cA ad sg x v1 v2 v3 1) (cwV 4 hts (gV wG_i wm_596 wm_597 wm_598 wm_4 wm_599) rfl rfl rfl (by decide +kernel) ⟨Nat.le_of_ble_eq_true rfl, Nat.le_of_ble_eq_true rfl⟩) hK hP hD (List.range' 7 25) (by decide) (sp_mid md_len dk_len) [6] rfl 0 0 rfl rfl rfl rfl hl.1 rfl (Nat.le_of_ble_eq_true rfl) dL_law_564 hf0) hP hD hS hA (List.range' 7 25) (sp_mid md_len dk_len) dk_fst (fun H locs z1 hP hD hS => ?_)
    rw [sp_upd_mid _ _ _ _ 7 25 md_len dk_len dk_len] at hP hD
    refine lv_aload_n hx hb dL_law_567 rfl (lv_at hl 3 rfl) ?_
    refine lv_aload_n hx hb dL_law_568 rfl (lv_at hl 1 rfl) ?_
    refine lv_iload hx hb dL_law_569 (lv_at hl 0 rfl) ?_
    refine lv_iconst (v := 1) hx hb dL_law_571 (by decide) ?_
    refine lv_iadd hx hb dL_law_572 ?_
    refine va_sld hx hb hX hbl hbA hS hv1 dL_law_573 ?_
    refine lw_topi ev1 ?_
    refine lv_aload_n hx hb dL_law_574 rfl (lv_at hl 1 rfl) ?_
    refine lv_iload hx hb dL_law_575 (lv_at hl 0 rfl) ?_
    refine lv_iconst (v := 2) hx hb dL_law_577 (by decide) ?_
    refine lv_iadd hx hb dL_law_578 ?_
    refine va_sld hx hb hX hbl hbA hS hv2 dL_law_579 ?_
    refine lw_topi ev2 ?_
    refine lv_aload_n hx hb dL_law_580 rfl (lv_at hl 1 rfl) ?_
    refine lv_iload hx hb dL_law_581 (lv_at hl 0 rfl) ?_
    refine lv_iconst (v := 3) hx hb dL_law_583 (by decide) ?_
    refine lv_iadd hx hb dL_law_584 ?_
    refine va_sld hx hb hX hbl hbA hS hv3 dL_law_585 ?_
    refine lw_topi ev3 ?_
    refine lv_aload_n hx hb dL_law_586 rfl (lv_at hl 1 rfl) ?_
    refine lv_iload hx hb dL_law_587 (lv_at hl 0 rfl) ?_
    refine lv_iconst (v := 4) hx hb dL_law_589 (by decide) ?_
    refine lv_iadd hx hb dL_law_590 ?_
    refine va_sld hx hb hX hbl hbA hS hv4 dL_law_591 ?_
    refine lw_topi ev4 ?_
    refine lv_if_eq (tgt := 599) hx hb dL_law_592 (by decide) (fun h9 => absurd h9 hz) (fun _ => ?_)
    refine lv_iconst (v := 1) hx hb dL_law_595 (by decide) ?_
    refine lv_goto (tgt := 600) hx hb dL_law_596 (by decide) ?_
    refine sp_callz (sp_runV (As := [.int v1, .int v2, .int v3, .int 1]) (rest := [.int ((f_X0_holds sg x.1 x.2.1 x.2.2.1 x.2.2.2.1 x.2.2.2.2 v1 v2 v3 1).2.2.2)]) C (k_M_holds l D r cj th st v1 v2 v3 1) (cwV 4 hts (gV wG_i wm_600 wm_601 wm_602 wm_378 wm_603) rfl rfl rfl (by decide +kernel) ⟨Nat.le_of_ble_eq_true rfl, Nat.le_of_ble_eq_true rfl⟩) hK hP hD (List.range' 0 7) (by decide) (sp_first md_len) [0, 1, 2, 3, 4, 5] rfl 0 4 rfl rfl rfl rfl hl.1 rfl (Nat.le_of_ble_eq_true rfl) dL_law_600 hf0) hP hD hS hA (List.range' 0 7) (sp_first md_len) rfl (fun H locs z2 hP hD hS => ?_)
    rw [sp_upd_first _ _ _ 7 md_len md_len] at hP hD
    have e9 := ml_holds (x1 := x.1) (x2 := x.2.1) (x3 := x.2.2.1) (x4 := x.2.2.2.1) (x5 := x.2.2.2.2) hr v1 v2 v3 1
    refine lv_icmp_eq (tgt := 857) hx hb dL_law_603 (by decide) (fun _ => ?_) (fun h9 => absurd e9.1.symm h9)
    refine W.widen (k := cells + 1) (n := slots + 6) (Nat.le_add_right _ _) (Nat.le_add_right _ _) ?_
    exact J ((f_X0_holds sg x.1 x.2.1 x.2.2.1 x.2.2.2.1 x.2.2.2.2 v1 v2 v3 1).1) ((x.1, x.2.1, x.2.2.1, (f_X0_holds sg x.1 x.2.1 x.2.2.1 x.2.2.2.1 x.2.2.2.2 v1 v2 v3 1).2.1, (f_X0_holds sg x.1 x.2.1 x.2.2.1 x.2.2.2.1 x.2.2.2.2 v1 v2 v3 1).2.2.1)) (0) ((f_M_holds st v1 v2 v3 1).1) (f) H locs ls e9.2 (iv_holds hi) hP hD hS (lv_sub hl [0, 1, 2, 3, 4] rfl)
