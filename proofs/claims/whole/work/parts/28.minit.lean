theorem wm_538 : (.methodLink RM 3 objectInit : Cond) ∈ wsG := wG_of 606 (by decide +kernel) (by decide +kernel)
theorem wm_539 : (.arrayClass .long : Cond) ∈ wsG := wG_of 629 (by decide +kernel) (by decide +kernel)
theorem dM_init_0 : decode cM_init 0 = .ok (.aload_n 0, 1) := by decide +kernel
theorem dM_init_1 : decode cM_init 1 = .ok (.invokespecial 3, 3) := by decide +kernel
theorem dM_init_4 : decode cM_init 4 = .ok (.aload_n 0, 1) := by decide +kernel
theorem dM_init_5 : decode cM_init 5 = .ok (.bipush 19, 2) := by decide +kernel
theorem dM_init_7 : decode cM_init 7 = .ok (.newarray .long, 2) := by decide +kernel
theorem dM_init_9 : decode cM_init 9 = .ok (.putfield 9, 3) := by decide +kernel
theorem dM_init_12 : decode cM_init 12 = .ok (.aload_n 0, 1) := by decide +kernel
theorem dM_init_13 : decode cM_init 13 = .ok (.bipush 19, 2) := by decide +kernel
theorem dM_init_15 : decode cM_init 15 = .ok (.newarray .long, 2) := by decide +kernel
theorem dM_init_17 : decode cM_init 17 = .ok (.putfield 13, 3) := by decide +kernel
theorem dM_init_20 : decode cM_init 20 = .ok (.aload_n 0, 1) := by decide +kernel
theorem dM_init_21 : decode cM_init 21 = .ok (.bipush 19, 2) := by decide +kernel
theorem dM_init_23 : decode cM_init 23 = .ok (.newarray .long, 2) := by decide +kernel
theorem dM_init_25 : decode cM_init 25 = .ok (.putfield 16, 3) := by decide +kernel
theorem dM_init_28 : decode cM_init 28 = .ok (.aload_n 0, 1) := by decide +kernel
theorem dM_init_29 : decode cM_init 29 = .ok (.bipush 19, 2) := by decide +kernel
theorem dM_init_31 : decode cM_init 31 = .ok (.newarray .long, 2) := by decide +kernel
theorem dM_init_33 : decode cM_init 33 = .ok (.putfield 19, 3) := by decide +kernel
theorem dM_init_36 : decode cM_init 36 = .ok (.aload_n 0, 1) := by decide +kernel
theorem dM_init_37 : decode cM_init 37 = .ok (.bipush 19, 2) := by decide +kernel
theorem dM_init_39 : decode cM_init 39 = .ok (.newarray .long, 2) := by decide +kernel
theorem dM_init_41 : decode cM_init 41 = .ok (.putfield 22, 3) := by decide +kernel
theorem dM_init_44 : decode cM_init 44 = .ok (.aload_n 0, 1) := by decide +kernel
theorem dM_init_45 : decode cM_init 45 = .ok (.bipush 19, 2) := by decide +kernel
theorem dM_init_47 : decode cM_init 47 = .ok (.newarray .long, 2) := by decide +kernel
theorem dM_init_49 : decode cM_init 49 = .ok (.putfield 25, 3) := by decide +kernel
theorem dM_init_52 : decode cM_init 52 = .ok (.return_, 1) := by decide +kernel
set_option maxHeartbeats 4000000 in
set_option maxRecDepth 100000 in
theorem c_M_init (l : Launch) (D : va_G) (h0 : Nat) : ∀ sz : Nat, Met l yM_init wsM_init ({ frames := 1, cells := 6, slots := 114, locals := 12 }) (sp_P D [.ref h0] [(h0, .inr (4, [.int 0, .null, .null, .null, .null, .null, .null]))] [] sz) (va_Qv (fun _ : Nat × Nat × Nat × Nat × Nat × Nat => True) (fun u t => ∃ cj1 : ClassId, ∃ cj2 : ClassId, ∃ cj3 : ClassId, ∃ cj4 : ClassId, ∃ cj5 : ClassId, ∃ cj6 : ClassId, sp_W D (va_A [(h0, .inr (4, [.int 0, .null, .null, .null, .null, .null, .null]))] sz) [(h0, .inr (4, [.int 0, .ref u.1, .ref u.2.1, .ref u.2.2.1, .ref u.2.2.2.1, .ref u.2.2.2.2.1, .ref u.2.2.2.2.2])), (u.1, .inl (cj1, 19, .inr (.inl (fun _ => 0)))), (u.2.1, .inl (cj2, 19, .inr (.inl (fun _ => 0)))), (u.2.2.1, .inl (cj3, 19, .inr (.inl (fun _ => 0)))), (u.2.2.2.1, .inl (cj4, 19, .inr (.inl (fun _ => 0)))), (u.2.2.2.2.1, .inl (cj5, 19, .inr (.inl (fun _ => 0)))), (u.2.2.2.2.2, .inl (cj6, 19, .inr (.inl (fun _ => 0))))] [(cj1, .long), (cj2, .long), (cj3, .long), (cj4, .long), (cj5, .long), (cj6, .long)] t) (va_A [(h0, .inr (4, [.int 0, .null, .null, .null, .null, .null, .null]))] sz)) 6 114 (va_A [(h0, .inr (4, [.int 0, .null, .null, .null, .null, .null, .null]))] sz) := by
  refine sp_ofW (cc := cM_init) (nL := 1) (ret := none) (own := RM) (by decide) rfl rfl (Nat.le_of_ble_eq_true rfl) ?_
  intro p e s m below meth c A ls hAe hnm C hA hP hK hD hS hl
  have hin : meth.name = "<init>" := hnm
  have hx := C.1
  have hb := C.2.1
  have hown := C.2.2.2.2.1
  have hts := C.2.2.2.2.2.1
  have hl : lv_has ls 1 [(0, .ref h0)] := hl
  have hi4 : ∀ w ∈ u_ws RM TM 7, w ∈ wsM_init := fun w h => List.mem_cons_of_mem _ (inM w h)
  have hk0 := hts _ (List.mem_cons_of_mem _ wm_538)
  have hk1 := hts _ (List.mem_cons_of_mem _ wm_19)
  have hk2 := hts _ (List.mem_cons_of_mem _ wm_20)
  have hk3 := hts _ (List.mem_cons_of_mem _ wm_539)
  have hk4 := hts _ (List.mem_cons_of_mem _ wm_382)
  have hk5 := hts _ (List.mem_cons_of_mem _ wm_383)
  have hk6 := hts _ (List.mem_cons_of_mem _ wm_384)
  have hk7 := hts _ (List.mem_cons_of_mem _ wm_385)
  have hk8 := hts _ (List.mem_cons_of_mem _ wm_386)
  have hk9 := hts _ (List.mem_cons_of_mem _ wm_387)
  refine lv_aload_n hx hb dM_init_0 rfl (lv_at hl 0 rfl) ?_
  refine W.objInit hx hb hown hk0 hk1 hk2 rfl (by rw [C.2.2.2.1]; exact hl.1) rfl dM_init_1 (Nat.le_of_ble_eq_true rfl) (Nat.le_of_ble_eq_true rfl) ?_
  refine W.eq (g2 := F0 m 4 ls []) rfl ?_
  refine lv_aload_n hx hb dM_init_4 rfl (lv_at hl 0 rfl) ?_
  refine lv_bipush (v := 19) hx hb dM_init_5 (by decide) ?_
  refine va_newa (atype := .long) (a0 := (19, .inr (.inl (fun _ => 0)))) (ty := .long) (n := 19) (N' := 19) hx hb hk3 rfl hK hP hD hS hA (fun _ => rfl) (by decide) (by decide) (by decide) (Nat.le_of_ble_eq_true rfl) (Nat.le_of_ble_eq_true rfl) dM_init_7 (fun q1 cj1 H hK hP hD hS => ?_)
  have hK : va_K D vwCl [(cj1, .long)] s := hK
  have hP : va_P D vwCl ([(h0, .inr (4, [.int 0, .null, .null, .null, .null, .null, .null])), (q1, .inl (cj1, 19, .inr (.inl (fun _ => 0))))]) H := hP
  have hD : va_D A ([(h0, .inr (4, [.int 0, .null, .null, .null, .null, .null, .null])), (q1, .inl (cj1, 19, .inr (.inl (fun _ => 0))))]) := hD
  refine W.widen (k := 1) (n := 19) (by omega) (by omega) ?_
  refine va_putF (D := D) (ci := 4) (v := .ref q1) (ty := (.array .long)) (C := RM) (T := TM) (N := 7) hx hb hts hi4 tyM tyM_ok nmM hown hK hP hD hS 0 rfl rfl 1 (by decide) hk4 (fun _ h9 => h9) rfl hin rfl (by decide +kernel) rfl rfl (Nat.le_of_ble_eq_true rfl) dM_init_9 (fun H locs hP hD hS => ?_)
  have hP : va_P D vwCl ([(h0, .inr (4, [.int 0, .ref q1, .null, .null, .null, .null, .null])), (q1, .inl (cj1, 19, .inr (.inl (fun _ => 0))))]) H := hP
  have hD : va_D A ([(h0, .inr (4, [.int 0, .ref q1, .null, .null, .null, .null, .null])), (q1, .inl (cj1, 19, .inr (.inl (fun _ => 0))))]) := hD
  refine lv_aload_n hx hb dM_init_12 rfl (lv_at hl 0 rfl) ?_
  refine lv_bipush (v := 19) hx hb dM_init_13 (by decide) ?_
  refine va_newa (atype := .long) (a0 := (19, .inr (.inl (fun _ => 0)))) (ty := .long) (n := 19) (N' := 19) hx hb hk3 rfl hK hP hD hS hA (fun _ => rfl) (by decide) (by decide) (by decide) (Nat.le_of_ble_eq_true rfl) (Nat.le_of_ble_eq_true rfl) dM_init_15 (fun q2 cj2 H hK hP hD hS => ?_)
  have hK : va_K D vwCl [(cj1, .long), (cj2, .long)] s := hK
  have hP : va_P D vwCl ([(h0, .inr (4, [.int 0, .ref q1, .null, .null, .null, .null, .null])), (q1, .inl (cj1, 19, .inr (.inl (fun _ => 0)))), (q2, .inl (cj2, 19, .inr (.inl (fun _ => 0))))]) H := hP
  have hD : va_D A ([(h0, .inr (4, [.int 0, .ref q1, .null, .null, .null, .null, .null])), (q1, .inl (cj1, 19, .inr (.inl (fun _ => 0)))), (q2, .inl (cj2, 19, .inr (.inl (fun _ => 0))))]) := hD
  refine W.widen (k := 2) (n := 38) (by omega) (by omega) ?_
  refine va_putF (D := D) (ci := 4) (v := .ref q2) (ty := (.array .long)) (C := RM) (T := TM) (N := 7) hx hb hts hi4 tyM tyM_ok nmM hown hK hP hD hS 0 rfl rfl 2 (by decide) hk5 (fun _ h9 => h9) rfl hin rfl (by decide +kernel) rfl rfl (Nat.le_of_ble_eq_true rfl) dM_init_17 (fun H locs hP hD hS => ?_)
  have hP : va_P D vwCl ([(h0, .inr (4, [.int 0, .ref q1, .ref q2, .null, .null, .null, .null])), (q1, .inl (cj1, 19, .inr (.inl (fun _ => 0)))), (q2, .inl (cj2, 19, .inr (.inl (fun _ => 0))))]) H := hP
  have hD : va_D A ([(h0, .inr (4, [.int 0, .ref q1, .ref q2, .null, .null, .null, .null])), (q1, .inl (cj1, 19, .inr (.inl (fun _ => 0)))), (q2, .inl (cj2, 19, .inr (.inl (fun _ => 0))))]) := hD
  refine lv_aload_n hx hb dM_init_20 rfl (lv_at hl 0 rfl) ?_
  refine lv_bipush (v := 19) hx hb dM_init_21 (by decide) ?_
  refine va_newa (atype := .long) (a0 := (19, .inr (.inl (fun _ => 0)))) (ty := .long) (n := 19) (N' := 19) hx hb hk3 rfl hK hP hD hS hA (fun _ => rfl) (by decide) (by decide) (by decide) (Nat.le_of_ble_eq_true rfl) (Nat.le_of_ble_eq_true rfl) dM_init_23 (fun q3 cj3 H hK hP hD hS => ?_)
  have hK : va_K D vwCl [(cj1, .long), (cj2, .long), (cj3, .long)] s := hK
  have hP : va_P D vwCl ([(h0, .inr (4, [.int 0, .ref q1, .ref q2, .null, .null, .null, .null])), (q1, .inl (cj1, 19, .inr (.inl (fun _ => 0)))), (q2, .inl (cj2, 19, .inr (.inl (fun _ => 0)))), (q3, .inl (cj3, 19, .inr (.inl (fun _ => 0))))]) H := hP
  have hD : va_D A ([(h0, .inr (4, [.int 0, .ref q1, .ref q2, .null, .null, .null, .null])), (q1, .inl (cj1, 19, .inr (.inl (fun _ => 0)))), (q2, .inl (cj2, 19, .inr (.inl (fun _ => 0)))), (q3, .inl (cj3, 19, .inr (.inl (fun _ => 0))))]) := hD
  refine W.widen (k := 3) (n := 57) (by omega) (by omega) ?_
  refine va_putF (D := D) (ci := 4) (v := .ref q3) (ty := (.array .long)) (C := RM) (T := TM) (N := 7) hx hb hts hi4 tyM tyM_ok nmM hown hK hP hD hS 0 rfl rfl 3 (by decide) hk6 (fun _ h9 => h9) rfl hin rfl (by decide +kernel) rfl rfl (Nat.le_of_ble_eq_true rfl) dM_init_25 (fun H locs hP hD hS => ?_)
  have hP : va_P D vwCl ([(h0, .inr (4, [.int 0, .ref q1, .ref q2, .ref q3, .null, .null, .null])), (q1, .inl (cj1, 19, .inr (.inl (fun _ => 0)))), (q2, .inl (cj2, 19, .inr (.inl (fun _ => 0)))), (q3, .inl (cj3, 19, .inr (.inl (fun _ => 0))))]) H := hP
  have hD : va_D A ([(h0, .inr (4, [.int 0, .ref q1, .ref q2, .ref q3, .null, .null, .null])), (q1, .inl (cj1, 19, .inr (.inl (fun _ => 0)))), (q2, .inl (cj2, 19, .inr (.inl (fun _ => 0)))), (q3, .inl (cj3, 19, .inr (.inl (fun _ => 0))))]) := hD
  refine lv_aload_n hx hb dM_init_28 rfl (lv_at hl 0 rfl) ?_
  refine lv_bipush (v := 19) hx hb dM_init_29 (by decide) ?_
  refine va_newa (atype := .long) (a0 := (19, .inr (.inl (fun _ => 0)))) (ty := .long) (n := 19) (N' := 19) hx hb hk3 rfl hK hP hD hS hA (fun _ => rfl) (by decide) (by decide) (by decide) (Nat.le_of_ble_eq_true rfl) (Nat.le_of_ble_eq_true rfl) dM_init_31 (fun q4 cj4 H hK hP hD hS => ?_)
  have hK : va_K D vwCl [(cj1, .long), (cj2, .long), (cj3, .long), (cj4, .long)] s := hK
  have hP : va_P D vwCl ([(h0, .inr (4, [.int 0, .ref q1, .ref q2, .ref q3, .null, .null, .null])), (q1, .inl (cj1, 19, .inr (.inl (fun _ => 0)))), (q2, .inl (cj2, 19, .inr (.inl (fun _ => 0)))), (q3, .inl (cj3, 19, .inr (.inl (fun _ => 0)))), (q4, .inl (cj4, 19, .inr (.inl (fun _ => 0))))]) H := hP
  have hD : va_D A ([(h0, .inr (4, [.int 0, .ref q1, .ref q2, .ref q3, .null, .null, .null])), (q1, .inl (cj1, 19, .inr (.inl (fun _ => 0)))), (q2, .inl (cj2, 19, .inr (.inl (fun _ => 0)))), (q3, .inl (cj3, 19, .inr (.inl (fun _ => 0)))), (q4, .inl (cj4, 19, .inr (.inl (fun _ => 0))))]) := hD
  refine W.widen (k := 4) (n := 76) (by omega) (by omega) ?_
  refine va_putF (D := D) (ci := 4) (v := .ref q4) (ty := (.array .long)) (C := RM) (T := TM) (N := 7) hx hb hts hi4 tyM tyM_ok nmM hown hK hP hD hS 0 rfl rfl 4 (by decide) hk7 (fun _ h9 => h9) rfl hin rfl (by decide +kernel) rfl rfl (Nat.le_of_ble_eq_true rfl) dM_init_33 (fun H locs hP hD hS => ?_)
  have hP : va_P D vwCl ([(h0, .inr (4, [.int 0, .ref q1, .ref q2, .ref q3, .ref q4, .null, .null])), (q1, .inl (cj1, 19, .inr (.inl (fun _ => 0)))), (q2, .inl (cj2, 19, .inr (.inl (fun _ => 0)))), (q3, .inl (cj3, 19, .inr (.inl (fun _ => 0)))), (q4, .inl (cj4, 19, .inr (.inl (fun _ => 0))))]) H := hP
  have hD : va_D A ([(h0, .inr (4, [.int 0, .ref q1, .ref q2, .ref q3, .ref q4, .null, .null])), (q1, .inl (cj1, 19, .inr (.inl (fun _ => 0)))), (q2, .inl (cj2, 19, .inr (.inl (fun _ => 0)))), (q3, .inl (cj3, 19, .inr (.inl (fun _ => 0)))), (q4, .inl (cj4, 19, .inr (.inl (fun _ => 0))))]) := hD
  refine lv_aload_n hx hb dM_init_36 rfl (lv_at hl 0 rfl) ?_
  refine lv_bipush (v := 19) hx hb dM_init_37 (by decide) ?_
  refine va_newa (atype := .long) (a0 := (19, .inr (.inl (fun _ => 0)))) (ty := .long) (n := 19) (N' := 19) hx hb hk3 rfl hK hP hD hS hA (fun _ => rfl) (by decide) (by decide) (by decide) (Nat.le_of_ble_eq_true rfl) (Nat.le_of_ble_eq_true rfl) dM_init_39 (fun q5 cj5 H hK hP hD hS => ?_)
  have hK : va_K D vwCl [(cj1, .long), (cj2, .long), (cj3, .long), (cj4, .long), (cj5, .long)] s := hK
  have hP : va_P D vwCl ([(h0, .inr (4, [.int 0, .ref q1, .ref q2, .ref q3, .ref q4, .null, .null])), (q1, .inl (cj1, 19, .inr (.inl (fun _ => 0)))), (q2, .inl (cj2, 19, .inr (.inl (fun _ => 0)))), (q3, .inl (cj3, 19, .inr (.inl (fun _ => 0)))), (q4, .inl (cj4, 19, .inr (.inl (fun _ => 0)))), (q5, .inl (cj5, 19, .inr (.inl (fun _ => 0))))]) H := hP
  have hD : va_D A ([(h0, .inr (4, [.int 0, .ref q1, .ref q2, .ref q3, .ref q4, .null, .null])), (q1, .inl (cj1, 19, .inr (.inl (fun _ => 0)))), (q2, .inl (cj2, 19, .inr (.inl (fun _ => 0)))), (q3, .inl (cj3, 19, .inr (.inl (fun _ => 0)))), (q4, .inl (cj4, 19, .inr (.inl (fun _ => 0)))), (q5, .inl (cj5, 19, .inr (.inl (fun _ => 0))))]) := hD
  refine W.widen (k := 5) (n := 95) (by omega) (by omega) ?_
  refine va_putF (D := D) (ci := 4) (v := .ref q5) (ty := (.array .long)) (C := RM) (T := TM) (N := 7) hx hb hts hi4 tyM tyM_ok nmM hown hK hP hD hS 0 rfl rfl 5 (by decide) hk8 (fun _ h9 => h9) rfl hin rfl (by decide +kernel) rfl rfl (Nat.le_of_ble_eq_true rfl) dM_init_41 (fun H locs hP hD hS => ?_)
  have hP : va_P D vwCl ([(h0, .inr (4, [.int 0, .ref q1, .ref q2, .ref q3, .ref q4, .ref q5, .null])), (q1, .inl (cj1, 19, .inr (.inl (fun _ => 0)))), (q2, .inl (cj2, 19, .inr (.inl (fun _ => 0)))), (q3, .inl (cj3, 19, .inr (.inl (fun _ => 0)))), (q4, .inl (cj4, 19, .inr (.inl (fun _ => 0)))), (q5, .inl (cj5, 19, .inr (.inl (fun _ => 0))))]) H := hP
  have hD : va_D A ([(h0, .inr (4, [.int 0, .ref q1, .ref q2, .ref q3, .ref q4, .ref q5, .null])), (q1, .inl (cj1, 19, .inr (.inl (fun _ => 0)))), (q2, .inl (cj2, 19, .inr (.inl (fun _ => 0)))), (q3, .inl (cj3, 19, .inr (.inl (fun _ => 0)))), (q4, .inl (cj4, 19, .inr (.inl (fun _ => 0)))), (q5, .inl (cj5, 19, .inr (.inl (fun _ => 0))))]) := hD
  refine lv_aload_n hx hb dM_init_44 rfl (lv_at hl 0 rfl) ?_
  refine lv_bipush (v := 19) hx hb dM_init_45 (by decide) ?_
  refine va_newa (atype := .long) (a0 := (19, .inr (.inl (fun _ => 0)))) (ty := .long) (n := 19) (N' := 19) hx hb hk3 rfl hK hP hD hS hA (fun _ => rfl) (by decide) (by decide) (by decide) (Nat.le_of_ble_eq_true rfl) (Nat.le_of_ble_eq_true rfl) dM_init_47 (fun q6 cj6 H hK hP hD hS => ?_)
  have hK : va_K D vwCl [(cj1, .long), (cj2, .long), (cj3, .long), (cj4, .long), (cj5, .long), (cj6, .long)] s := hK
  have hP : va_P D vwCl ([(h0, .inr (4, [.int 0, .ref q1, .ref q2, .ref q3, .ref q4, .ref q5, .null])), (q1, .inl (cj1, 19, .inr (.inl (fun _ => 0)))), (q2, .inl (cj2, 19, .inr (.inl (fun _ => 0)))), (q3, .inl (cj3, 19, .inr (.inl (fun _ => 0)))), (q4, .inl (cj4, 19, .inr (.inl (fun _ => 0)))), (q5, .inl (cj5, 19, .inr (.inl (fun _ => 0)))), (q6, .inl (cj6, 19, .inr (.inl (fun _ => 0))))]) H := hP
  have hD : va_D A ([(h0, .inr (4, [.int 0, .ref q1, .ref q2, .ref q3, .ref q4, .ref q5, .null])), (q1, .inl (cj1, 19, .inr (.inl (fun _ => 0)))), (q2, .inl (cj2, 19, .inr (.inl (fun _ => 0)))), (q3, .inl (cj3, 19, .inr (.inl (fun _ => 0)))), (q4, .inl (cj4, 19, .inr (.inl (fun _ => 0)))), (q5, .inl (cj5, 19, .inr (.inl (fun _ => 0)))), (q6, .inl (cj6, 19, .inr (.inl (fun _ => 0))))]) := hD
  refine W.widen (k := 6) (n := 114) (by omega) (by omega) ?_
  refine va_putF (D := D) (ci := 4) (v := .ref q6) (ty := (.array .long)) (C := RM) (T := TM) (N := 7) hx hb hts hi4 tyM tyM_ok nmM hown hK hP hD hS 0 rfl rfl 6 (by decide) hk9 (fun _ h9 => h9) rfl hin rfl (by decide +kernel) rfl rfl (Nat.le_of_ble_eq_true rfl) dM_init_49 (fun H locs hP hD hS => ?_)
  have hP : va_P D vwCl ([(h0, .inr (4, [.int 0, .ref q1, .ref q2, .ref q3, .ref q4, .ref q5, .ref q6])), (q1, .inl (cj1, 19, .inr (.inl (fun _ => 0)))), (q2, .inl (cj2, 19, .inr (.inl (fun _ => 0)))), (q3, .inl (cj3, 19, .inr (.inl (fun _ => 0)))), (q4, .inl (cj4, 19, .inr (.inl (fun _ => 0)))), (q5, .inl (cj5, 19, .inr (.inl (fun _ => 0)))), (q6, .inl (cj6, 19, .inr (.inl (fun _ => 0))))]) H := hP
  have hD : va_D A ([(h0, .inr (4, [.int 0, .ref q1, .ref q2, .ref q3, .ref q4, .ref q5, .ref q6])), (q1, .inl (cj1, 19, .inr (.inl (fun _ => 0)))), (q2, .inl (cj2, 19, .inr (.inl (fun _ => 0)))), (q3, .inl (cj3, 19, .inr (.inl (fun _ => 0)))), (q4, .inl (cj4, 19, .inr (.inl (fun _ => 0)))), (q5, .inl (cj5, 19, .inr (.inl (fun _ => 0)))), (q6, .inl (cj6, 19, .inr (.inl (fun _ => 0))))]) := hD
  subst hAe
  exact W.vret C.1 C.2.1 C.2.2.1 (fun t ht hW => ⟨⟨(q1, q2, q3, q4, q5, q6), rfl, trivial, cj1, cj2, cj3, cj4, cj5, cj6, by rw [ht]; exact hP, va_K.moved hW.alike hK, hD⟩, hS.F ht⟩) hS.2.2 dM_init_52 C.2.2.2.2.2.2.1
