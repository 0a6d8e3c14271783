theorem wm_540 : (.classLink RX0 73 "java/lang/IndexOutOfBoundsException" : Cond) ∈ wsG := wG_of 512 (by decide +kernel) (by decide +kernel)
theorem wm_541 : (.initialized "java/lang/IndexOutOfBoundsException" : Cond) ∈ wsG := wG_of 72 (by decide +kernel) (by decide +kernel)
theorem dX0_look_7 : decode cX0_look 7 = .ok (.new 73, 3) := by decide +kernel
theorem dX0_look_10 : decode cX0_look 10 = .ok (.dup, 1) := by decide +kernel
theorem dX0_look_11 : decode cX0_look 11 = .ok (.ldc 75, 2) := by decide +kernel
theorem dX0_look_13 : decode cX0_look 13 = .ok (.invokespecial 77, 3) := by decide +kernel
theorem dX0_look_16 : decode cX0_look 16 = .ok (.athrow, 1) := by decide +kernel
theorem dX0_look_97 : decode cX0_look 97 = .ok (.dup, 1) := by decide +kernel
theorem dX0_look_98 : decode cX0_look 98 = .ok (.ldc 99, 2) := by decide +kernel
theorem dX0_look_100 : decode cX0_look 100 = .ok (.invokespecial 77, 3) := by decide +kernel
theorem dX0_look_103 : decode cX0_look 103 = .ok (.athrow, 1) := by decide +kernel
theorem dX0_has_7 : decode cX0_has 7 = .ok (.new 73, 3) := by decide +kernel
theorem dX0_has_10 : decode cX0_has 10 = .ok (.dup, 1) := by decide +kernel
theorem dX0_has_11 : decode cX0_has 11 = .ok (.ldc 75, 2) := by decide +kernel
theorem dX0_has_13 : decode cX0_has 13 = .ok (.invokespecial 77, 3) := by decide +kernel
theorem dX0_has_16 : decode cX0_has 16 = .ok (.athrow, 1) := by decide +kernel
theorem dX0_covers_14 : decode cX0_covers 14 = .ok (.new 73, 3) := by decide +kernel
theorem dX0_covers_17 : decode cX0_covers 17 = .ok (.dup, 1) := by decide +kernel
theorem dX0_covers_18 : decode cX0_covers 18 = .ok (.ldc 75, 2) := by decide +kernel
theorem dX0_covers_20 : decode cX0_covers 20 = .ok (.invokespecial 77, 3) := by decide +kernel
theorem dX0_covers_23 : decode cX0_covers 23 = .ok (.athrow, 1) := by decide +kernel
set_option maxHeartbeats 4000000 in
set_option maxRecDepth 100000 in
theorem c_X0_look_x (l : Launch) (hl0 : l.stackTraces = false) (D : va_G) (q : Nat → Nat) (cA : ClassId) (ad : Nat → Nat) (sg : Nat → Nm) (x : Nx) (p1 : Int32) (p2 : Int32) (hbad : f_X0_isNumber p1 = 0 ∨ ¬ (p2 = 0 ∨ p2 = 1 ∨ p2 = 2 ∨ p2 = 3 ∨ p2 = 4 ∨ p2 = 5)) : ∀ sz : Nat, sx_Met l yX0_look wsX0_look ({ frames := 6, cells := 1, slots := 6, locals := 82 }) (sx_P D [.ref (q 0), .int p1, .int p2] (dk_W q cA ad sg x) [(cA, .object RX1)] sz) := by
  refine sx_ofW (cc := cX0_look) (nL := 4) (ret := (some .long)) (own := RX0) (by decide) rfl rfl (Nat.le_of_ble_eq_true rfl) ?_
  intro p e s m below meth c ls C hT hZ hP hK hD hl
  have hx := C.1
  have hb := C.2.1
  have hown := C.2.2.2.2.1
  have hts := C.2.2.2.2.2.1
  have hl : lv_has ls 4 [(0, .ref (q 0)), (1, .int p1), (2, .int p2)] := hl
  have hS : va_S (fun z => s.heap.size ≤ z) s.heap s.heap [] := va_S.rf
  have hkN := hts _ (List.mem_cons_of_mem _ wm_540)
  have hkI := hts _ (List.mem_cons_of_mem _ wm_541)
  refine lv_iload_n hx hb dX0_look_0 rfl (lv_at hl 1 rfl) ?_
  refine sp_callz (sp_runS (As := [.int p1]) (rest := []) C (c_X0_isNumber l D p1) (va_cwS 1 hts (gS wG_c wm_342 wm_343 wm_4 wm_341) rfl rfl rfl (by decide +kernel) ⟨Nat.le_of_ble_eq_true rfl, Nat.le_of_ble_eq_true rfl⟩) hK sx_P0 (sx_D0 (A := fun _ => True)) [] (by decide) rfl [] rfl rfl hl.1 rfl (Nat.le_of_ble_eq_true rfl) dX0_look_1 ⟨Nat.le_of_ble_eq_true rfl, Nat.le_of_ble_eq_true rfl⟩) sx_P0 sx_D0 hS (fun _ h => h) [] rfl sp_f0 (fun H locs z1 hP1 hD1 hS => ?_)
  refine lv_if_ne (tgt := 17) hx hb dX0_look_4 (by decide) (fun h9 => ?_) (fun _ => ?_)
  · have hP := sx_PH hP hS
    have hi0 : ∀ w ∈ u_ws RX0 TX0 3, w ∈ wsX0_look := fun w h => List.mem_cons_of_mem _ (inX0 w h)
    refine lv_aload_n hx hb dX0_look_17 rfl (lv_at hl 0 rfl) ?_
    refine va_get (D := D) (ci := 0) (v := .ref (q 1)) (C := RX0) (T := TX0) (N := 3) hx hb hts hi0 hown hK hP 0 rfl rfl 0 (by decide) (hts _ (List.mem_cons_of_mem _ wm_119)) (fun _ h9 => h9) rfl dX0_look_18 ?_
    refine lv_iload_n hx hb dX0_look_21 rfl (lv_at hl 1 rfl) ?_
    refine va_aldq (C := RX1) hx hb hK hP 1 0 rfl rfl (nb_in h9) dX0_look_22 ?_
    refine W.eq (g2 := F0 m 23 ls [.ref (ad p1.toNatClampNeg)]) rfl ?_
    refine lv_astore_n (lv' := [(3, .ref (ad p1.toNatClampNeg)), (0, .ref (q 0)), (1, .int p1), (2, .int p2)]) hx hb dX0_look_23 rfl hl (by decide) rfl (fun ls hl => ?_)
    refine lv_iload_n hx hb dX0_look_24 rfl (lv_at hl 3 rfl) ?_
    have h8 : ¬ (p2 = 0 ∨ p2 = 1 ∨ p2 = 2 ∨ p2 = 3 ∨ p2 = 4 ∨ p2 = 5) := hbad.elim (fun h => absurd h h9) id
    have e0 := lv_neT (show ¬ p2 = 0 from fun h => h8 (by simp [h])) (show (0 : Int32).toInt = 0 by decide)
    have e1 := lv_neT (show ¬ p2 = 1 from fun h => h8 (by simp [h])) (show (1 : Int32).toInt = 1 by decide)
    have e2 := lv_neT (show ¬ p2 = 2 from fun h => h8 (by simp [h])) (show (2 : Int32).toInt = 2 by decide)
    have e3 := lv_neT (show ¬ p2 = 3 from fun h => h8 (by simp [h])) (show (3 : Int32).toInt = 3 by decide)
    have e4 := lv_neT (show ¬ p2 = 4 from fun h => h8 (by simp [h])) (show (4 : Int32).toInt = 4 by decide)
    have e5 := lv_neT (show ¬ p2 = 5 from fun h => h8 (by simp [h])) (show (5 : Int32).toInt = 5 by decide)
    refine lv_tableOut (tgt := 94) hx hb dX0_look_25 (by omega) (by decide) ?_
    exact sx_throw C hl0 hZ hZ.2.2 hT hS.2.2 hS.1 hl.1 hkN hkI dX0_look_94 dX0_look_97 dX0_look_98 dX0_look_100 dX0_look_103 ⟨Nat.le_of_ble_eq_true rfl, Nat.le_of_ble_eq_true rfl, Nat.le_of_ble_eq_true rfl, Nat.le_of_ble_eq_true rfl⟩
  · exact sx_throw C hl0 hZ hZ.2.1 hT hS.2.2 hS.1 hl.1 hkN hkI dX0_look_7 dX0_look_10 dX0_look_11 dX0_look_13 dX0_look_16 ⟨Nat.le_of_ble_eq_true rfl, Nat.le_of_ble_eq_true rfl, Nat.le_of_ble_eq_true rfl, Nat.le_of_ble_eq_true rfl⟩
set_option maxHeartbeats 4000000 in
set_option maxRecDepth 100000 in
theorem c_X0_has_x (l : Launch) (hl0 : l.stackTraces = false) (D : va_G) (q : Nat → Nat) (cA : ClassId) (ad : Nat → Nat) (sg : Nat → Nm) (x : Nx) (p1 : Int32) (p2 : Int64) (hbad : f_X0_isNumber p1 = 0) : ∀ sz : Nat, sx_Met l yX0_has wsX0_has ({ frames := 6, cells := 1, slots := 6, locals := 82 }) (sx_P D [.ref (q 0), .int p1, .long p2] (dk_W q cA ad sg x) [(cA, .object RX1)] sz) := by
  refine sx_ofW (cc := cX0_has) (nL := 4) (ret := (some .boolean)) (own := RX0) (by decide) rfl rfl (Nat.le_of_ble_eq_true rfl) ?_
  intro p e s m below meth c ls C hT hZ hP hK hD hl
  have hx := C.1
  have hb := C.2.1
  have hown := C.2.2.2.2.1
  have hts := C.2.2.2.2.2.1
  have hl : lv_has ls 4 [(0, .ref (q 0)), (1, .int p1), (2, .long p2)] := hl
  have hS : va_S (fun z => s.heap.size ≤ z) s.heap s.heap [] := va_S.rf
  have hkN := hts _ (List.mem_cons_of_mem _ wm_540)
  have hkI := hts _ (List.mem_cons_of_mem _ wm_541)
  refine lv_iload_n hx hb dX0_has_0 rfl (lv_at hl 1 rfl) ?_
  refine sp_callz (sp_runS (As := [.int p1]) (rest := []) C (c_X0_isNumber l D p1) (va_cwS 1 hts (gS wG_c wm_342 wm_343 wm_4 wm_341) rfl rfl rfl (by decide +kernel) ⟨Nat.le_of_ble_eq_true rfl, Nat.le_of_ble_eq_true rfl⟩) hK sx_P0 (sx_D0 (A := fun _ => True)) [] (by decide) rfl [] rfl rfl hl.1 rfl (Nat.le_of_ble_eq_true rfl) dX0_has_1 ⟨Nat.le_of_ble_eq_true rfl, Nat.le_of_ble_eq_true rfl⟩) sx_P0 sx_D0 hS (fun _ h => h) [] rfl sp_f0 (fun H locs z1 hP1 hD1 hS => ?_)
  refine lv_if_ne (tgt := 17) hx hb dX0_has_4 (by decide) (fun h9 => absurd hbad h9) (fun _ => ?_)
  exact sx_throw C hl0 hZ hZ.2.1 hT hS.2.2 hS.1 hl.1 hkN hkI dX0_has_7 dX0_has_10 dX0_has_11 dX0_has_13 dX0_has_16 ⟨Nat.le_of_ble_eq_true rfl, Nat.le_of_ble_eq_true rfl, Nat.le_of_ble_eq_true rfl, Nat.le_of_ble_eq_true rfl⟩
set_option maxHeartbeats 4000000 in
set_option maxRecDepth 100000 in
theorem c_X0_covers_x (l : Launch) (hl0 : l.stackTraces = false) (D : va_G) (q : Nat → Nat) (cA : ClassId) (ad : Nat → Nat) (sg : Nat → Nm) (x : Nx) (p1 : Int32) (p2 : Int32) (hbad : f_X0_isNumber p1 = 0 ∨ f_X0_isNumber p2 = 0) : ∀ sz : Nat, sx_Met l yX0_covers wsX0_covers ({ frames := 6, cells := 1, slots := 6, locals := 82 }) (sx_P D [.ref (q 0), .int p1, .int p2] (dk_W q cA ad sg x) [(cA, .object RX1)] sz) := by
  refine sx_ofW (cc := cX0_covers) (nL := 3) (ret := (some .boolean)) (own := RX0) (by decide) rfl rfl (Nat.le_of_ble_eq_true rfl) ?_
  intro p e s m below meth c ls C hT hZ hP hK hD hl
  have hx := C.1
  have hb := C.2.1
  have hown := C.2.2.2.2.1
  have hts := C.2.2.2.2.2.1
  have hl : lv_has ls 3 [(0, .ref (q 0)), (1, .int p1), (2, .int p2)] := hl
  have hS : va_S (fun z => s.heap.size ≤ z) s.heap s.heap [] := va_S.rf
  have hkN := hts _ (List.mem_cons_of_mem _ wm_540)
  have hkI := hts _ (List.mem_cons_of_mem _ wm_541)
  refine lv_iload_n hx hb dX0_covers_0 rfl (lv_at hl 1 rfl) ?_
  refine sp_callz (sp_runS (As := [.int p1]) (rest := []) C (c_X0_isNumber l D p1) (va_cwS 1 hts (gS wG_c wm_342 wm_343 wm_4 wm_341) rfl rfl rfl (by decide +kernel) ⟨Nat.le_of_ble_eq_true rfl, Nat.le_of_ble_eq_true rfl⟩) hK sx_P0 (sx_D0 (A := fun _ => True)) [] (by decide) rfl [] rfl rfl hl.1 rfl (Nat.le_of_ble_eq_true rfl) dX0_covers_1 ⟨Nat.le_of_ble_eq_true rfl, Nat.le_of_ble_eq_true rfl⟩) sx_P0 sx_D0 hS (fun _ h => h) [] rfl sp_f0 (fun H locs z1 hP1 hD1 hS => ?_)
  refine lv_if_eq (tgt := 14) hx hb dX0_covers_4 (by decide) (fun _ => ?_) (fun h9 => ?_)
  · exact sx_throw C hl0 hZ hZ.2.1 hT hS.2.2 hS.1 hl.1 hkN hkI dX0_covers_14 dX0_covers_17 dX0_covers_18 dX0_covers_20 dX0_covers_23 ⟨Nat.le_of_ble_eq_true rfl, Nat.le_of_ble_eq_true rfl, Nat.le_of_ble_eq_true rfl, Nat.le_of_ble_eq_true rfl⟩
  · refine lv_iload_n hx hb dX0_covers_7 rfl (lv_at hl 2 rfl) ?_
    refine sp_callz (sp_runS (As := [.int p2]) (rest := []) C (c_X0_isNumber l D p2) (va_cwS 1 hts (gS wG_c wm_342 wm_343 wm_4 wm_341) rfl rfl rfl (by decide +kernel) ⟨Nat.le_of_ble_eq_true rfl, Nat.le_of_ble_eq_true rfl⟩) hK sx_P0 (sx_D0 (A := fun _ => True)) [] (by decide) rfl [] rfl rfl hl.1 rfl (Nat.le_of_ble_eq_true rfl) dX0_covers_8 ⟨Nat.le_of_ble_eq_true rfl, Nat.le_of_ble_eq_true rfl⟩) sx_P0 sx_D0 hS (fun _ h => h) [] rfl sp_f0 (fun H locs z1 hP1 hD1 hS => ?_)
    refine lv_if_ne (tgt := 24) hx hb dX0_covers_11 (by decide) (fun h8 => absurd hbad (fun h => h.elim h9 h8)) (fun _ => ?_)
    exact sx_throw C hl0 hZ hZ.2.1 hT hS.2.2 hS.1 hl.1 hkN hkI dX0_covers_14 dX0_covers_17 dX0_covers_18 dX0_covers_20 dX0_covers_23 ⟨Nat.le_of_ble_eq_true rfl, Nat.le_of_ble_eq_true rfl, Nat.le_of_ble_eq_true rfl, Nat.le_of_ble_eq_true rfl⟩
