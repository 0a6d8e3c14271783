theorem wm_98 : (.code yX1_settle cX1_settle 2 (some .boolean) : Cond) ∈ wsG := wG_of 211 (by decide +kernel) (by decide +kernel)
theorem wm_99 : (.methodLink RX1 104 yX1_settle : Cond) ∈ wsG := wG_of 293 (by decide +kernel) (by decide +kernel)
theorem wm_100 : (.instanceMethod yX1_settle : Cond) ∈ wsG := wG_of 209 (by decide +kernel) (by decide +kernel)
theorem wm_101 : (.selects RX1 yX1_settle yX1_settle : Cond) ∈ wsG := wG_of 210 (by decide +kernel) (by decide +kernel)
theorem wm_102 : (.constantLong RX1 102 4294967295 : Cond) ∈ wsG := wG_of 292 (by decide +kernel) (by decide +kernel)
theorem dX1_narrow_0 : decode cX1_narrow 0 = .ok (.aload_n 0, 1) := by decide +kernel
theorem dX1_narrow_1 : decode cX1_narrow 1 = .ok (.getfield 39, 3) := by decide +kernel
theorem dX1_narrow_4 : decode cX1_narrow 4 = .ok (.ldc2_w 102, 3) := by decide +kernel
theorem dX1_narrow_7 : decode cX1_narrow 7 = .ok (.invokestatic 48, 3) := by decide +kernel
theorem dX1_narrow_10 : decode cX1_narrow 10 = .ok (.ifCond .ne 4, 3) := by decide +kernel
theorem dX1_narrow_13 : decode cX1_narrow 13 = .ok (.return_, 1) := by decide +kernel
theorem dX1_narrow_14 : decode cX1_narrow 14 = .ok (.aload_n 0, 1) := by decide +kernel
theorem dX1_narrow_15 : decode cX1_narrow 15 = .ok (.aload_n 0, 1) := by decide +kernel
theorem dX1_narrow_16 : decode cX1_narrow 16 = .ok (.getfield 29, 3) := by decide +kernel
theorem dX1_narrow_19 : decode cX1_narrow 19 = .ok (.ldc2_w 102, 3) := by decide +kernel
theorem dX1_narrow_22 : decode cX1_narrow 22 = .ok (.land, 1) := by decide +kernel
theorem dX1_narrow_23 : decode cX1_narrow 23 = .ok (.aload_n 0, 1) := by decide +kernel
theorem dX1_narrow_24 : decode cX1_narrow 24 = .ok (.getfield 33, 3) := by decide +kernel
theorem dX1_narrow_27 : decode cX1_narrow 27 = .ok (.ldc2_w 102, 3) := by decide +kernel
theorem dX1_narrow_30 : decode cX1_narrow 30 = .ok (.land, 1) := by decide +kernel
theorem dX1_narrow_31 : decode cX1_narrow 31 = .ok (.invokevirtual 9, 3) := by decide +kernel
theorem dX1_narrow_34 : decode cX1_narrow 34 = .ok (.aload_n 0, 1) := by decide +kernel
theorem dX1_narrow_35 : decode cX1_narrow 35 = .ok (.getfield 36, 3) := by decide +kernel
theorem dX1_narrow_38 : decode cX1_narrow 38 = .ok (.bipush 32, 2) := by decide +kernel
theorem dX1_narrow_40 : decode cX1_narrow 40 = .ok (.lushr, 1) := by decide +kernel
theorem dX1_narrow_41 : decode cX1_narrow 41 = .ok (.aload_n 0, 1) := by decide +kernel
theorem dX1_narrow_42 : decode cX1_narrow 42 = .ok (.getfield 39, 3) := by decide +kernel
theorem dX1_narrow_45 : decode cX1_narrow 45 = .ok (.bipush 32, 2) := by decide +kernel
theorem dX1_narrow_47 : decode cX1_narrow 47 = .ok (.lushr, 1) := by decide +kernel
theorem dX1_narrow_48 : decode cX1_narrow 48 = .ok (.lcmp, 1) := by decide +kernel
theorem dX1_narrow_49 : decode cX1_narrow 49 = .ok (.ifCond .ne 26, 3) := by decide +kernel
theorem dX1_narrow_52 : decode cX1_narrow 52 = .ok (.aload_n 0, 1) := by decide +kernel
theorem dX1_narrow_53 : decode cX1_narrow 53 = .ok (.aload_n 0, 1) := by decide +kernel
theorem dX1_narrow_54 : decode cX1_narrow 54 = .ok (.getfield 36, 3) := by decide +kernel
theorem dX1_narrow_57 : decode cX1_narrow 57 = .ok (.ldc2_w 102, 3) := by decide +kernel
theorem dX1_narrow_60 : decode cX1_narrow 60 = .ok (.land, 1) := by decide +kernel
theorem dX1_narrow_61 : decode cX1_narrow 61 = .ok (.aload_n 0, 1) := by decide +kernel
theorem dX1_narrow_62 : decode cX1_narrow 62 = .ok (.getfield 39, 3) := by decide +kernel
theorem dX1_narrow_65 : decode cX1_narrow 65 = .ok (.ldc2_w 102, 3) := by decide +kernel
theorem dX1_narrow_68 : decode cX1_narrow 68 = .ok (.land, 1) := by decide +kernel
theorem dX1_narrow_69 : decode cX1_narrow 69 = .ok (.invokevirtual 15, 3) := by decide +kernel
theorem dX1_narrow_72 : decode cX1_narrow 72 = .ok (.goto 11, 3) := by decide +kernel
theorem dX1_narrow_75 : decode cX1_narrow 75 = .ok (.aload_n 0, 1) := by decide +kernel
theorem dX1_narrow_76 : decode cX1_narrow 76 = .ok (.lconst 0, 1) := by decide +kernel
theorem dX1_narrow_77 : decode cX1_narrow 77 = .ok (.ldc2_w 102, 3) := by decide +kernel
theorem dX1_narrow_80 : decode cX1_narrow 80 = .ok (.invokevirtual 15, 3) := by decide +kernel
theorem dX1_narrow_83 : decode cX1_narrow 83 = .ok (.aload_n 0, 1) := by decide +kernel
theorem dX1_narrow_84 : decode cX1_narrow 84 = .ok (.lconst 0, 1) := by decide +kernel
theorem dX1_narrow_85 : decode cX1_narrow 85 = .ok (.ldc2_w 102, 3) := by decide +kernel
theorem dX1_narrow_88 : decode cX1_narrow 88 = .ok (.invokevirtual 18, 3) := by decide +kernel
theorem dX1_narrow_91 : decode cX1_narrow 91 = .ok (.aload_n 0, 1) := by decide +kernel
theorem dX1_narrow_92 : decode cX1_narrow 92 = .ok (.invokevirtual 104, 3) := by decide +kernel
theorem dX1_narrow_95 : decode cX1_narrow 95 = .ok (.ifCond .ne 27, 3) := by decide +kernel
theorem dX1_narrow_98 : decode cX1_narrow 98 = .ok (.aload_n 0, 1) := by decide +kernel
theorem dX1_narrow_99 : decode cX1_narrow 99 = .ok (.lconst 0, 1) := by decide +kernel
theorem dX1_narrow_100 : decode cX1_narrow 100 = .ok (.ldc2_w 102, 3) := by decide +kernel
theorem dX1_narrow_103 : decode cX1_narrow 103 = .ok (.invokevirtual 9, 3) := by decide +kernel
theorem dX1_narrow_106 : decode cX1_narrow 106 = .ok (.aload_n 0, 1) := by decide +kernel
theorem dX1_narrow_107 : decode cX1_narrow 107 = .ok (.lconst 0, 1) := by decide +kernel
theorem dX1_narrow_108 : decode cX1_narrow 108 = .ok (.ldc2_w 102, 3) := by decide +kernel
theorem dX1_narrow_111 : decode cX1_narrow 111 = .ok (.invokevirtual 15, 3) := by decide +kernel
theorem dX1_narrow_114 : decode cX1_narrow 114 = .ok (.aload_n 0, 1) := by decide +kernel
theorem dX1_narrow_115 : decode cX1_narrow 115 = .ok (.lconst 0, 1) := by decide +kernel
theorem dX1_narrow_116 : decode cX1_narrow 116 = .ok (.ldc2_w 102, 3) := by decide +kernel
theorem dX1_narrow_119 : decode cX1_narrow 119 = .ok (.invokevirtual 18, 3) := by decide +kernel
theorem dX1_narrow_122 : decode cX1_narrow 122 = .ok (.return_, 1) := by decide +kernel
def f_X1_narrow (n0 : Nm) : Nm :=
  if (f_X0_isAbove n0.2.2.2.1 4294967295) = 0 then n0
  else if (lg_cmp ((((f_X1_setBits n0 (n0.1 &&& 4294967295) (n0.2.1 &&& 4294967295)).2.2.1).toUInt64 >>> ((32 : Int32).toInt64.toUInt64 &&& Int64.toUInt64 63)).toInt64) ((((f_X1_setBits n0 (n0.1 &&& 4294967295) (n0.2.1 &&& 4294967295)).2.2.2.1).toUInt64 >>> ((32 : Int32).toInt64.toUInt64 &&& Int64.toUInt64 63)).toInt64)) = 0 then (if ((f_X1_settle (f_X1_setSigned (f_X1_setUnsigned (f_X1_setBits n0 (n0.1 &&& 4294967295) (n0.2.1 &&& 4294967295)) (((f_X1_setBits n0 (n0.1 &&& 4294967295) (n0.2.1 &&& 4294967295)).2.2.1) &&& 4294967295) (((f_X1_setBits n0 (n0.1 &&& 4294967295) (n0.2.1 &&& 4294967295)).2.2.2.1) &&& 4294967295)) 0 4294967295)).2) = 0 then (f_X1_setSigned (f_X1_setUnsigned (f_X1_setBits ((f_X1_settle (f_X1_setSigned (f_X1_setUnsigned (f_X1_setBits n0 (n0.1 &&& 4294967295) (n0.2.1 &&& 4294967295)) (((f_X1_setBits n0 (n0.1 &&& 4294967295) (n0.2.1 &&& 4294967295)).2.2.1) &&& 4294967295) (((f_X1_setBits n0 (n0.1 &&& 4294967295) (n0.2.1 &&& 4294967295)).2.2.2.1) &&& 4294967295)) 0 4294967295)).1) 0 4294967295) 0 4294967295) 0 4294967295)
    else ((f_X1_settle (f_X1_setSigned (f_X1_setUnsigned (f_X1_setBits n0 (n0.1 &&& 4294967295) (n0.2.1 &&& 4294967295)) (((f_X1_setBits n0 (n0.1 &&& 4294967295) (n0.2.1 &&& 4294967295)).2.2.1) &&& 4294967295) (((f_X1_setBits n0 (n0.1 &&& 4294967295) (n0.2.1 &&& 4294967295)).2.2.2.1) &&& 4294967295)) 0 4294967295)).1))
  else if ((f_X1_settle (f_X1_setSigned (f_X1_setUnsigned (f_X1_setBits n0 (n0.1 &&& 4294967295) (n0.2.1 &&& 4294967295)) 0 4294967295) 0 4294967295)).2) = 0 then (f_X1_setSigned (f_X1_setUnsigned (f_X1_setBits ((f_X1_settle (f_X1_setSigned (f_X1_setUnsigned (f_X1_setBits n0 (n0.1 &&& 4294967295) (n0.2.1 &&& 4294967295)) 0 4294967295) 0 4294967295)).1) 0 4294967295) 0 4294967295) 0 4294967295)
  else ((f_X1_settle (f_X1_setSigned (f_X1_setUnsigned (f_X1_setBits n0 (n0.1 &&& 4294967295) (n0.2.1 &&& 4294967295)) 0 4294967295) 0 4294967295)).1)
set_option maxHeartbeats 4000000 in
set_option maxRecDepth 100000 in
theorem c_X1_narrow (l : Launch) (D : va_G) (h0 : Nat) (n0 : Nm) : sp_M l yX1_narrow wsX1_narrow ({ frames := 4, cells := 0, slots := 0, locals := 88 }) D [.ref h0] ([(h0, .inr (1, nm_fs n0))]) [] (sp_Qv D ([(h0, .inr (1, nm_fs n0))]) ([(h0, .inr (1, nm_fs (f_X1_narrow n0)))]) []) := by
  refine sp_ofW (cc := cX1_narrow) (nL := 1) (ret := none) (own := RX1) (by decide) rfl rfl (Nat.le_of_ble_eq_true rfl) ?_
  intro p e s m below meth c A ls hAe hnm C hA hP hK hD hS hl
  have hx := C.1
  have hb := C.2.1
  have hown := C.2.2.2.2.1
  have hts := C.2.2.2.2.2.1
  have hl : lv_has ls 1 [(0, .ref h0)] := hl
  have hi1 : ∀ w ∈ u_ws RX1 TX1 6, w ∈ wsX1_narrow := fun w h => List.mem_cons_of_mem _ (inX1 w h)
  have hk0 := hts _ (List.mem_cons_of_mem _ wm_24)
  have hk1 := hts _ (List.mem_cons_of_mem _ wm_102)
  have hk2 := hts _ (List.mem_cons_of_mem _ wm_4)
  have hk3 := hts _ (List.mem_cons_of_mem _ wm_3)
  have hk4 := hts _ (List.mem_cons_of_mem _ wm_21)
  have hk5 := hts _ (List.mem_cons_of_mem _ wm_22)
  have hk6 := hts _ (List.mem_cons_of_mem _ wm_23)
  refine lv_aload_n hx hb dX1_narrow_0 rfl (lv_at hl 0 rfl) ?_
  refine va_get (D := D) (ci := 1) (v := .long n0.2.2.2.1) (C := RX1) (T := TX1) (N := 6) hx hb hts hi1 hown hK hP 0 rfl rfl 3 (by decide) hk0 (fun _ h9 => h9) rfl dX1_narrow_1 ?_
  refine lv_ldc2 (v := 4294967295) hx hb hown hk1 dX1_narrow_4 ?_
  refine sp_callz (sp_runSN (As := [.long n0.2.2.2.1, .long 4294967295]) (rest := []) C (c_X0_isAbove l D n0.2.2.2.1 4294967295) ⟨va_cnB 2 hts (gG wG_c wm_1) rfl rfl rfl (C.2.2.2.2.2.2.2.1 (RX1, 48, yX0_isAbove, "RangeDesk") (List.mem_of_getElem? (i := 3) rfl)) hk2 (by decide +kernel) ⟨Nat.le_of_ble_eq_true rfl, Nat.le_of_ble_eq_true rfl⟩, hk3, trivial⟩ hK hP hD [] (by decide) rfl [] rfl rfl hl.1 rfl (Nat.le_of_ble_eq_true rfl) dX1_narrow_7 ⟨Nat.le_of_ble_eq_true rfl, Nat.le_of_ble_eq_true rfl⟩) hP hD hS hA [] rfl sp_f0 (fun H locs z1 hP hD hS => ?_)
  have hP : va_P D vwCl ([(h0, .inr (1, nm_fs n0))]) H := hP
  have hD : va_D A ([(h0, .inr (1, nm_fs n0))]) := hD
  refine lv_if_ne (tgt := 14) hx hb dX1_narrow_10 (by decide) (fun c2 => ?_) (fun c2 => ?_)
  · refine lv_aload_n hx hb dX1_narrow_14 rfl (lv_at hl 0 rfl) ?_
    refine lv_aload_n hx hb dX1_narrow_15 rfl (lv_at hl 0 rfl) ?_
    refine va_get (D := D) (ci := 1) (v := .long n0.1) (C := RX1) (T := TX1) (N := 6) hx hb hts hi1 hown hK hP 0 rfl rfl 0 (by decide) hk4 (fun _ h9 => h9) rfl dX1_narrow_16 ?_
    refine lv_ldc2 (v := 4294967295) hx hb hown hk1 dX1_narrow_19 ?_
    refine lv_land hx hb dX1_narrow_22 ?_
    refine lv_aload_n hx hb dX1_narrow_23 rfl (lv_at hl 0 rfl) ?_
    refine va_get (D := D) (ci := 1) (v := .long n0.2.1) (C := RX1) (T := TX1) (N := 6) hx hb hts hi1 hown hK hP 0 rfl rfl 1 (by decide) hk5 (fun _ h9 => h9) rfl dX1_narrow_24 ?_
    refine lv_ldc2 (v := 4294967295) hx hb hown hk1 dX1_narrow_27 ?_
    refine lv_land hx hb dX1_narrow_30 ?_
    refine sp_callv (sp_runV (As := [.long (n0.1 &&& 4294967295), .long (n0.2.1 &&& 4294967295)]) (rest := []) C (c_X1_setBits l D h0 n0 (n0.1 &&& 4294967295) (n0.2.1 &&& 4294967295)) (cwV 2 hts (gV wG_c wm_28 wm_29 wm_30 wm_31 wm_27) rfl rfl rfl (by decide +kernel) ⟨Nat.le_of_ble_eq_true rfl, Nat.le_of_ble_eq_true rfl⟩) hK hP hD [0] (by decide) rfl [] rfl 0 1 rfl rfl rfl rfl hl.1 rfl (Nat.le_of_ble_eq_true rfl) dX1_narrow_31 ⟨Nat.le_of_ble_eq_true rfl, Nat.le_of_ble_eq_true rfl⟩) hP hD hS hA [0] rfl (sp_fc sp_f0) (fun H locs hP hD hS => ?_)
    have hP : va_P D vwCl ([(h0, .inr (1, nm_fs (f_X1_setBits n0 (n0.1 &&& 4294967295) (n0.2.1 &&& 4294967295))))]) H := hP
    have hD : va_D A ([(h0, .inr (1, nm_fs (f_X1_setBits n0 (n0.1 &&& 4294967295) (n0.2.1 &&& 4294967295))))]) := hD
    refine lv_aload_n hx hb dX1_narrow_34 rfl (lv_at hl 0 rfl) ?_
    refine va_get (D := D) (ci := 1) (v := .long ((f_X1_setBits n0 (n0.1 &&& 4294967295) (n0.2.1 &&& 4294967295)).2.2.1)) (C := RX1) (T := TX1) (N := 6) hx hb hts hi1 hown hK hP 0 rfl rfl 2 (by decide) hk6 (fun _ h9 => h9) rfl dX1_narrow_35 ?_
    refine lv_bipush (v := 32) hx hb dX1_narrow_38 (by decide) ?_
    refine lv_lushr (v := (((f_X1_setBits n0 (n0.1 &&& 4294967295) (n0.2.1 &&& 4294967295)).2.2.1).toUInt64 >>> ((32 : Int32).toInt64.toUInt64 &&& Int64.toUInt64 63)).toInt64) hx hb dX1_narrow_40 rfl ?_
    refine lv_aload_n hx hb dX1_narrow_41 rfl (lv_at hl 0 rfl) ?_
    refine va_get (D := D) (ci := 1) (v := .long ((f_X1_setBits n0 (n0.1 &&& 4294967295) (n0.2.1 &&& 4294967295)).2.2.2.1)) (C := RX1) (T := TX1) (N := 6) hx hb hts hi1 hown hK hP 0 rfl rfl 3 (by decide) hk0 (fun _ h9 => h9) rfl dX1_narrow_42 ?_
    refine lv_bipush (v := 32) hx hb dX1_narrow_45 (by decide) ?_
    refine lv_lushr (v := (((f_X1_setBits n0 (n0.1 &&& 4294967295) (n0.2.1 &&& 4294967295)).2.2.2.1).toUInt64 >>> ((32 : Int32).toInt64.toUInt64 &&& Int64.toUInt64 63)).toInt64) hx hb dX1_narrow_47 rfl ?_
    refine W.lcmp hx hb dX1_narrow_48 ?_
    refine lv_if_ne (tgt := 75) hx hb dX1_narrow_49 (by decide) (fun c3 => ?_) (fun c3 => ?_)
    · refine lv_aload_n hx hb dX1_narrow_75 rfl (lv_at hl 0 rfl) ?_
      refine lv_lconst (v := 0) hx hb dX1_narrow_76 (by decide) ?_
      refine lv_ldc2 (v := 4294967295) hx hb hown hk1 dX1_narrow_77 ?_
      refine sp_callv (sp_runV (As := [.long 0, .long 4294967295]) (rest := []) C (c_X1_setUnsigned l D h0 (f_X1_setBits n0 (n0.1 &&& 4294967295) (n0.2.1 &&& 4294967295)) 0 4294967295) (cwV 2 hts (gV wG_c wm_33 wm_34 wm_35 wm_31 wm_32) rfl rfl rfl (by decide +kernel) ⟨Nat.le_of_ble_eq_true rfl, Nat.le_of_ble_eq_true rfl⟩) hK hP hD [0] (by decide) rfl [] rfl 0 1 rfl rfl rfl rfl hl.1 rfl (Nat.le_of_ble_eq_true rfl) dX1_narrow_80 ⟨Nat.le_of_ble_eq_true rfl, Nat.le_of_ble_eq_true rfl⟩) hP hD hS hA [0] rfl (sp_fc sp_f0) (fun H locs hP hD hS => ?_)
      have hP : va_P D vwCl ([(h0, .inr (1, nm_fs (f_X1_setUnsigned (f_X1_setBits n0 (n0.1 &&& 4294967295) (n0.2.1 &&& 4294967295)) 0 4294967295)))]) H := hP
      have hD : va_D A ([(h0, .inr (1, nm_fs (f_X1_setUnsigned (f_X1_setBits n0 (n0.1 &&& 4294967295) (n0.2.1 &&& 4294967295)) 0 4294967295)))]) := hD
      refine lv_aload_n hx hb dX1_narrow_83 rfl (lv_at hl 0 rfl) ?_
      refine lv_lconst (v := 0) hx hb dX1_narrow_84 (by decide) ?_
      refine lv_ldc2 (v := 4294967295) hx hb hown hk1 dX1_narrow_85 ?_
      refine sp_callv (sp_runV (As := [.long 0, .long 4294967295]) (rest := []) C (c_X1_setSigned l D h0 (f_X1_setUnsigned (f_X1_setBits n0 (n0.1 &&& 4294967295) (n0.2.1 &&& 4294967295)) 0 4294967295) 0 4294967295) (cwV 2 hts (gV wG_c wm_37 wm_38 wm_39 wm_31 wm_36) rfl rfl rfl (by decide +kernel) ⟨Nat.le_of_ble_eq_true rfl, Nat.le_of_ble_eq_true rfl⟩) hK hP hD [0] (by decide) rfl [] rfl 0 1 rfl rfl rfl rfl hl.1 rfl (Nat.le_of_ble_eq_true rfl) dX1_narrow_88 ⟨Nat.le_of_ble_eq_true rfl, Nat.le_of_ble_eq_true rfl⟩) hP hD hS hA [0] rfl (sp_fc sp_f0) (fun H locs hP hD hS => ?_)
      have hP : va_P D vwCl ([(h0, .inr (1, nm_fs (f_X1_setSigned (f_X1_setUnsigned (f_X1_setBits n0 (n0.1 &&& 4294967295) (n0.2.1 &&& 4294967295)) 0 4294967295) 0 4294967295)))]) H := hP
      have hD : va_D A ([(h0, .inr (1, nm_fs (f_X1_setSigned (f_X1_setUnsigned (f_X1_setBits n0 (n0.1 &&& 4294967295) (n0.2.1 &&& 4294967295)) 0 4294967295) 0 4294967295)))]) := hD
      refine lv_aload_n hx hb dX1_narrow_91 rfl (lv_at hl 0 rfl) ?_
      refine sp_callz (sp_runV (As := []) (rest := []) C (c_X1_settle l D h0 (f_X1_setSigned (f_X1_setUnsigned (f_X1_setBits n0 (n0.1 &&& 4294967295) (n0.2.1 &&& 4294967295)) 0 4294967295) 0 4294967295)) (cwV 0 hts (gV wG_c wm_99 wm_100 wm_101 wm_31 wm_98) rfl rfl rfl (by decide +kernel) ⟨Nat.le_of_ble_eq_true rfl, Nat.le_of_ble_eq_true rfl⟩) hK hP hD [0] (by decide) rfl [] rfl 0 1 rfl rfl rfl rfl hl.1 rfl (Nat.le_of_ble_eq_true rfl) dX1_narrow_92 ⟨Nat.le_of_ble_eq_true rfl, Nat.le_of_ble_eq_true rfl⟩) hP hD hS hA [0] rfl (sp_fc sp_f0) (fun H locs z4 hP hD hS => ?_)
      have hP : va_P D vwCl ([(h0, .inr (1, nm_fs ((f_X1_settle (f_X1_setSigned (f_X1_setUnsigned (f_X1_setBits n0 (n0.1 &&& 4294967295) (n0.2.1 &&& 4294967295)) 0 4294967295) 0 4294967295)).1)))]) H := hP
      have hD : va_D A ([(h0, .inr (1, nm_fs ((f_X1_settle (f_X1_setSigned (f_X1_setUnsigned (f_X1_setBits n0 (n0.1 &&& 4294967295) (n0.2.1 &&& 4294967295)) 0 4294967295) 0 4294967295)).1)))]) := hD
      refine lv_if_ne (tgt := 122) hx hb dX1_narrow_95 (by decide) (fun c5 => ?_) (fun c5 => ?_)
      · have e9 : f_X1_narrow n0 = ((f_X1_settle (f_X1_setSigned (f_X1_setUnsigned (f_X1_setBits n0 (n0.1 &&& 4294967295) (n0.2.1 &&& 4294967295)) 0 4294967295) 0 4294967295)).1) := (if_neg c2).trans ((if_neg c3).trans ((if_neg c5).trans (rfl)))
        rw [e9]
        exact sp_vret C hAe hP hK hD hS dX1_narrow_122
      · refine lv_aload_n hx hb dX1_narrow_98 rfl (lv_at hl 0 rfl) ?_
        refine lv_lconst (v := 0) hx hb dX1_narrow_99 (by decide) ?_
        refine lv_ldc2 (v := 4294967295) hx hb hown hk1 dX1_narrow_100 ?_
        refine sp_callv (sp_runV (As := [.long 0, .long 4294967295]) (rest := []) C (c_X1_setBits l D h0 ((f_X1_settle (f_X1_setSigned (f_X1_setUnsigned (f_X1_setBits n0 (n0.1 &&& 4294967295) (n0.2.1 &&& 4294967295)) 0 4294967295) 0 4294967295)).1) 0 4294967295) (cwV 2 hts (gV wG_c wm_28 wm_29 wm_30 wm_31 wm_27) rfl rfl rfl (by decide +kernel) ⟨Nat.le_of_ble_eq_true rfl, Nat.le_of_ble_eq_true rfl⟩) hK hP hD [0] (by decide) rfl [] rfl 0 1 rfl rfl rfl rfl hl.1 rfl (Nat.le_of_ble_eq_true rfl) dX1_narrow_103 ⟨Nat.le_of_ble_eq_true rfl, Nat.le_of_ble_eq_true rfl⟩) hP hD hS hA [0] rfl (sp_fc sp_f0) (fun H locs hP hD hS => ?_)
        have hP : va_P D vwCl ([(h0, .inr (1, nm_fs (f_X1_setBits ((f_X1_settle (f_X1_setSigned (f_X1_setUnsigned (f_X1_setBits n0 (n0.1 &&& 4294967295) (n0.2.1 &&& 4294967295)) 0 4294967295) 0 4294967295)).1) 0 4294967295)))]) H := hP
        have hD : va_D A ([(h0, .inr (1, nm_fs (f_X1_setBits ((f_X1_settle (f_X1_setSigned (f_X1_setUnsigned (f_X1_setBits n0 (n0.1 &&& 4294967295) (n0.2.1 &&& 4294967295)) 0 4294967295) 0 4294967295)).1) 0 4294967295)))]) := hD
        refine lv_aload_n hx hb dX1_narrow_106 rfl (lv_at hl 0 rfl) ?_
        refine lv_lconst (v := 0) hx hb dX1_narrow_107 (by decide) ?_
        refine lv_ldc2 (v := 4294967295) hx hb hown hk1 dX1_narrow_108 ?_
        refine sp_callv (sp_runV (As := [.long 0, .long 4294967295]) (rest := []) C (c_X1_setUnsigned l D h0 (f_X1_setBits ((f_X1_settle (f_X1_setSigned (f_X1_setUnsigned (f_X1_setBits n0 (n0.1 &&& 4294967295) (n0.2.1 &&& 4294967295)) 0 4294967295) 0 4294967295)).1) 0 4294967295) 0 4294967295) (cwV 2 hts (gV wG_c wm_33 wm_34 wm_35 wm_31 wm_32) rfl rfl rfl (by decide +kernel) ⟨Nat.le_of_ble_eq_true rfl, Nat.le_of_ble_eq_true rfl⟩) hK hP hD [0] (by decide) rfl [] rfl 0 1 rfl rfl rfl rfl hl.1 rfl (Nat.le_of_ble_eq_true rfl) dX1_narrow_111 ⟨Nat.le_of_ble_eq_true rfl, Nat.le_of_ble_eq_true rfl⟩) hP hD hS hA [0] rfl (sp_fc sp_f0) (fun H locs hP hD hS => ?_)
        have hP : va_P D vwCl ([(h0, .inr (1, nm_fs (f_X1_setUnsigned (f_X1_setBits ((f_X1_settle (f_X1_setSigned (f_X1_setUnsigned (f_X1_setBits n0 (n0.1 &&& 4294967295) (n0.2.1 &&& 4294967295)) 0 4294967295) 0 4294967295)).1) 0 4294967295) 0 4294967295)))]) H := hP
        have hD : va_D A ([(h0, .inr (1, nm_fs (f_X1_setUnsigned (f_X1_setBits ((f_X1_settle (f_X1_setSigned (f_X1_setUnsigned (f_X1_setBits n0 (n0.1 &&& 4294967295) (n0.2.1 &&& 4294967295)) 0 4294967295) 0 4294967295)).1) 0 4294967295) 0 4294967295)))]) := hD
        refine lv_aload_n hx hb dX1_narrow_114 rfl (lv_at hl 0 rfl) ?_
        refine lv_lconst (v := 0) hx hb dX1_narrow_115 (by decide) ?_
        refine lv_ldc2 (v := 4294967295) hx hb hown hk1 dX1_narrow_116 ?_
        refine sp_callv (sp_runV (As := [.long 0, .long 4294967295]) (rest := []) C (c_X1_setSigned l D h0 (f_X1_setUnsigned (f_X1_setBits ((f_X1_settle (f_X1_setSigned (f_X1_setUnsigned (f_X1_setBits n0 (n0.1 &&& 4294967295) (n0.2.1 &&& 4294967295)) 0 4294967295) 0 4294967295)).1) 0 4294967295) 0 4294967295) 0 4294967295) (cwV 2 hts (gV wG_c wm_37 wm_38 wm_39 wm_31 wm_36) rfl rfl rfl (by decide +kernel) ⟨Nat.le_of_ble_eq_true rfl, Nat.le_of_ble_eq_true rfl⟩) hK hP hD [0] (by decide) rfl [] rfl 0 1 rfl rfl rfl rfl hl.1 rfl (Nat.le_of_ble_eq_true rfl) dX1_narrow_119 ⟨Nat.le_of_ble_eq_true rfl, Nat.le_of_ble_eq_true rfl⟩) hP hD hS hA [0] rfl (sp_fc sp_f0) (fun H locs hP hD hS => ?_)
        have hP : va_P D vwCl ([(h0, .inr (1, nm_fs (f_X1_setSigned (f_X1_setUnsigned (f_X1_setBits ((f_X1_settle (f_X1_setSigned (f_X1_setUnsigned (f_X1_setBits n0 (n0.1 &&& 4294967295) (n0.2.1 &&& 4294967295)) 0 4294967295) 0 4294967295)).1) 0 4294967295) 0 4294967295) 0 4294967295)))]) H := hP
        have hD : va_D A ([(h0, .inr (1, nm_fs (f_X1_setSigned (f_X1_setUnsigned (f_X1_setBits ((f_X1_settle (f_X1_setSigned (f_X1_setUnsigned (f_X1_setBits n0 (n0.1 &&& 4294967295) (n0.2.1 &&& 4294967295)) 0 4294967295) 0 4294967295)).1) 0 4294967295) 0 4294967295) 0 4294967295)))]) := hD
        have e9 : f_X1_narrow n0 = (f_X1_setSigned (f_X1_setUnsigned (f_X1_setBits ((f_X1_settle (f_X1_setSigned (f_X1_setUnsigned (f_X1_setBits n0 (n0.1 &&& 4294967295) (n0.2.1 &&& 4294967295)) 0 4294967295) 0 4294967295)).1) 0 4294967295) 0 4294967295) 0 4294967295) := (if_neg c2).trans ((if_neg c3).trans ((if_pos c5).trans (rfl)))
        rw [e9]
        exact sp_vret C hAe hP hK hD hS dX1_narrow_122
    · refine lv_aload_n hx hb dX1_narrow_52 rfl (lv_at hl 0 rfl) ?_
      refine lv_aload_n hx hb dX1_narrow_53 rfl (lv_at hl 0 rfl) ?_
      refine va_get (D := D) (ci := 1) (v := .long ((f_X1_setBits n0 (n0.1 &&& 4294967295) (n0.2.1 &&& 4294967295)).2.2.1)) (C := RX1) (T := TX1) (N := 6) hx hb hts hi1 hown hK hP 0 rfl rfl 2 (by decide) hk6 (fun _ h9 => h9) rfl dX1_narrow_54 ?_
      refine lv_ldc2 (v := 4294967295) hx hb hown hk1 dX1_narrow_57 ?_
      refine lv_land hx hb dX1_narrow_60 ?_
      refine lv_aload_n hx hb dX1_narrow_61 rfl (lv_at hl 0 rfl) ?_
      refine va_get (D := D) (ci := 1) (v := .long ((f_X1_setBits n0 (n0.1 &&& 4294967295) (n0.2.1 &&& 4294967295)).2.2.2.1)) (C := RX1) (T := TX1) (N := 6) hx hb hts hi1 hown hK hP 0 rfl rfl 3 (by decide) hk0 (fun _ h9 => h9) rfl dX1_narrow_62 ?_
      refine lv_ldc2 (v := 4294967295) hx hb hown hk1 dX1_narrow_65 ?_
      refine lv_land hx hb dX1_narrow_68 ?_
      refine sp_callv (sp_runV (As := [.long (((f_X1_setBits n0 (n0.1 &&& 4294967295) (n0.2.1 &&& 4294967295)).2.2.1) &&& 4294967295), .long (((f_X1_setBits n0 (n0.1 &&& 4294967295) (n0.2.1 &&& 4294967295)).2.2.2.1) &&& 4294967295)]) (rest := []) C (c_X1_setUnsigned l D h0 (f_X1_setBits n0 (n0.1 &&& 4294967295) (n0.2.1 &&& 4294967295)) (((f_X1_setBits n0 (n0.1 &&& 4294967295) (n0.2.1 &&& 4294967295)).2.2.1) &&& 4294967295) (((f_X1_setBits n0 (n0.1 &&& 4294967295) (n0.2.1 &&& 4294967295)).2.2.2.1) &&& 4294967295)) (cwV 2 hts (gV wG_c wm_33 wm_34 wm_35 wm_31 wm_32) rfl rfl rfl (by decide +kernel) ⟨Nat.le_of_ble_eq_true rfl, Nat.le_of_ble_eq_true rfl⟩) hK hP hD [0] (by decide) rfl [] rfl 0 1 rfl rfl rfl rfl hl.1 rfl (Nat.le_of_ble_eq_true rfl) dX1_narrow_69 ⟨Nat.le_of_ble_eq_true rfl, Nat.le_of_ble_eq_true rfl⟩) hP hD hS hA [0] rfl (sp_fc sp_f0) (fun H locs hP hD hS => ?_)
      have hP : va_P D vwCl ([(h0, .inr (1, nm_fs (f_X1_setUnsigned (f_X1_setBits n0 (n0.1 &&& 4294967295) (n0.2.1 &&& 4294967295)) (((f_X1_setBits n0 (n0.1 &&& 4294967295) (n0.2.1 &&& 4294967295)).2.2.1) &&& 4294967295) (((f_X1_setBits n0 (n0.1 &&& 4294967295) (n0.2.1 &&& 4294967295)).2.2.2.1) &&& 4294967295))))]) H := hP
      have hD : va_D A ([(h0, .inr (1, nm_fs (f_X1_setUnsigned (f_X1_setBits n0 (n0.1 &&& 4294967295) (n0.2.1 &&& 4294967295)) (((f_X1_setBits n0 (n0.1 &&& 4294967295) (n0.2.1 &&& 4294967295)).2.2.1) &&& 4294967295) (((f_X1_setBits n0 (n0.1 &&& 4294967295) (n0.2.1 &&& 4294967295)).2.2.2.1) &&& 4294967295))))]) := hD
      refine lv_goto (tgt := 83) hx hb dX1_narrow_72 (by decide) ?_
      refine lv_aload_n hx hb dX1_narrow_83 rfl (lv_at hl 0 rfl) ?_
      refine lv_lconst (v := 0) hx hb dX1_narrow_84 (by decide) ?_
      refine lv_ldc2 (v := 4294967295) hx hb hown hk1 dX1_narrow_85 ?_
      refine sp_callv (sp_runV (As := [.long 0, .long 4294967295]) (rest := []) C (c_X1_setSigned l D h0 (f_X1_setUnsigned (f_X1_setBits n0 (n0.1 &&& 4294967295) (n0.2.1 &&& 4294967295)) (((f_X1_setBits n0 (n0.1 &&& 4294967295) (n0.2.1 &&& 4294967295)).2.2.1) &&& 4294967295) (((f_X1_setBits n0 (n0.1 &&& 4294967295) (n0.2.1 &&& 4294967295)).2.2.2.1) &&& 4294967295)) 0 4294967295) (cwV 2 hts (gV wG_c wm_37 wm_38 wm_39 wm_31 wm_36) rfl rfl rfl (by decide +kernel) ⟨Nat.le_of_ble_eq_true rfl, Nat.le_of_ble_eq_true rfl⟩) hK hP hD [0] (by decide) rfl [] rfl 0 1 rfl rfl rfl rfl hl.1 rfl (Nat.le_of_ble_eq_true rfl) dX1_narrow_88 ⟨Nat.le_of_ble_eq_true rfl, Nat.le_of_ble_eq_true rfl⟩) hP hD hS hA [0] rfl (sp_fc sp_f0) (fun H locs hP hD hS => ?_)
      have hP : va_P D vwCl ([(h0, .inr (1, nm_fs (f_X1_setSigned (f_X1_setUnsigned (f_X1_setBits n0 (n0.1 &&& 4294967295) (n0.2.1 &&& 4294967295)) (((f_X1_setBits n0 (n0.1 &&& 4294967295) (n0.2.1 &&& 4294967295)).2.2.1) &&& 4294967295) (((f_X1_setBits n0 (n0.1 &&& 4294967295) (n0.2.1 &&& 4294967295)).2.2.2.1) &&& 4294967295)) 0 4294967295)))]) H := hP
      have hD : va_D A ([(h0, .inr (1, nm_fs (f_X1_setSigned (f_X1_setUnsigned (f_X1_setBits n0 (n0.1 &&& 4294967295) (n0.2.1 &&& 4294967295)) (((f_X1_setBits n0 (n0.1 &&& 4294967295) (n0.2.1 &&& 4294967295)).2.2.1) &&& 4294967295) (((f_X1_setBits n0 (n0.1 &&& 4294967295) (n0.2.1 &&& 4294967295)).2.2.2.1) &&& 4294967295)) 0 4294967295)))]) := hD
      refine lv_aload_n hx hb dX1_narrow_91 rfl (lv_at hl 0 rfl) ?_
      refine sp_callz (sp_runV (As := []) (rest := []) C (c_X1_settle l D h0 (f_X1_setSigned (f_X1_setUnsigned (f_X1_setBits n0 (n0.1 &&& 4294967295) (n0.2.1 &&& 4294967295)) (((f_X1_setBits n0 (n0.1 &&& 4294967295) (n0.2.1 &&& 4294967295)).2.2.1) &&& 4294967295) (((f_X1_setBits n0 (n0.1 &&& 4294967295) (n0.2.1 &&& 4294967295)).2.2.2.1) &&& 4294967295)) 0 4294967295)) (cwV 0 hts (gV wG_c wm_99 wm_100 wm_101 wm_31 wm_98) rfl rfl rfl (by decide +kernel) ⟨Nat.le_of_ble_eq_true rfl, Nat.le_of_ble_eq_true rfl⟩) hK hP hD [0] (by decide) rfl [] rfl 0 1 rfl rfl rfl rfl hl.1 rfl (Nat.le_of_ble_eq_true rfl) dX1_narrow_92 ⟨Nat.le_of_ble_eq_true rfl, Nat.le_of_ble_eq_true rfl⟩) hP hD hS hA [0] rfl (sp_fc sp_f0) (fun H locs z6 hP hD hS => ?_)
      have hP : va_P D vwCl ([(h0, .inr (1, nm_fs ((f_X1_settle (f_X1_setSigned (f_X1_setUnsigned (f_X1_setBits n0 (n0.1 &&& 4294967295) (n0.2.1 &&& 4294967295)) (((f_X1_setBits n0 (n0.1 &&& 4294967295) (n0.2.1 &&& 4294967295)).2.2.1) &&& 4294967295) (((f_X1_setBits n0 (n0.1 &&& 4294967295) (n0.2.1 &&& 4294967295)).2.2.2.1) &&& 4294967295)) 0 4294967295)).1)))]) H := hP
      have hD : va_D A ([(h0, .inr (1, nm_fs ((f_X1_settle (f_X1_setSigned (f_X1_setUnsigned (f_X1_setBits n0 (n0.1 &&& 4294967295) (n0.2.1 &&& 4294967295)) (((f_X1_setBits n0 (n0.1 &&& 4294967295) (n0.2.1 &&& 4294967295)).2.2.1) &&& 4294967295) (((f_X1_setBits n0 (n0.1 &&& 4294967295) (n0.2.1 &&& 4294967295)).2.2.2.1) &&& 4294967295)) 0 4294967295)).1)))]) := hD
      refine lv_if_ne (tgt := 122) hx hb dX1_narrow_95 (by decide) (fun c7 => ?_) (fun c7 => ?_)
      · have e9 : f_X1_narrow n0 = ((f_X1_settle (f_X1_setSigned (f_X1_setUnsigned (f_X1_setBits n0 (n0.1 &&& 4294967295) (n0.2.1 &&& 4294967295)) (((f_X1_setBits n0 (n0.1 &&& 4294967295) (n0.2.1 &&& 4294967295)).2.2.1) &&& 4294967295) (((f_X1_setBits n0 (n0.1 &&& 4294967295) (n0.2.1 &&& 4294967295)).2.2.2.1) &&& 4294967295)) 0 4294967295)).1) := (if_neg c2).trans ((if_pos c3).trans ((if_neg c7).trans (rfl)))
        rw [e9]
        exact sp_vret C hAe hP hK hD hS dX1_narrow_122
      · refine lv_aload_n hx hb dX1_narrow_98 rfl (lv_at hl 0 rfl) ?_
        refine lv_lconst (v := 0) hx hb dX1_narrow_99 (by decide) ?_
        refine lv_ldc2 (v := 4294967295) hx hb hown hk1 dX1_narrow_100 ?_
        refine sp_callv (sp_runV (As := [.long 0, .long 4294967295]) (rest := []) C (c_X1_setBits l D h0 ((f_X1_settle (f_X1_setSigned (f_X1_setUnsigned (f_X1_setBits n0 (n0.1 &&& 4294967295) (n0.2.1 &&& 4294967295)) (((f_X1_setBits n0 (n0.1 &&& 4294967295) (n0.2.1 &&& 4294967295)).2.2.1) &&& 4294967295) (((f_X1_setBits n0 (n0.1 &&& 4294967295) (n0.2.1 &&& 4294967295)).2.2.2.1) &&& 4294967295)) 0 4294967295)).1) 0 4294967295) (cwV 2 hts (gV wG_c wm_28 wm_29 wm_30 wm_31 wm_27) rfl rfl rfl (by decide +kernel) ⟨Nat.le_of_ble_eq_true rfl, Nat.le_of_ble_eq_true rfl⟩) hK hP hD [0] (by decide) rfl [] rfl 0 1 rfl rfl rfl rfl hl.1 rfl (Nat.le_of_ble_eq_true rfl) dX1_narrow_103 ⟨Nat.le_of_ble_eq_true rfl, Nat.le_of_ble_eq_true rfl⟩) hP hD hS hA [0] rfl (sp_fc sp_f0) (fun H locs hP hD hS => ?_)
        have hP : va_P D vwCl ([(h0, .inr (1, nm_fs (f_X1_setBits ((f_X1_settle (f_X1_setSigned (f_X1_setUnsigned (f_X1_setBits n0 (n0.1 &&& 4294967295) (n0.2.1 &&& 4294967295)) (((f_X1_setBits n0 (n0.1 &&& 4294967295) (n0.2.1 &&& 4294967295)).2.2.1) &&& 4294967295) (((f_X1_setBits n0 (n0.1 &&& 4294967295) (n0.2.1 &&& 4294967295)).2.2.2.1) &&& 4294967295)) 0 4294967295)).1) 0 4294967295)))]) H := hP
        have hD : va_D A ([(h0, .inr (1, nm_fs (f_X1_setBits ((f_X1_settle (f_X1_setSigned (f_X1_setUnsigned (f_X1_setBits n0 (n0.1 &&& 4294967295) (n0.2.1 &&& 4294967295)) (((f_X1_setBits n0 (n0.1 &&& 4294967295) (n0.2.1 &&& 4294967295)).2.2.1) &&& 4294967295) (((f_X1_setBits n0 (n0.1 &&& 4294967295) (n0.2.1 &&& 4294967295)).2.2.2.1) &&& 4294967295)) 0 4294967295)).1) 0 4294967295)))]) := hD
        refine lv_aload_n hx hb dX1_narrow_106 rfl (lv_at hl 0 rfl) ?_
        refine lv_lconst (v := 0) hx hb dX1_narrow_107 (by decide) ?_
        refine lv_ldc2 (v := 4294967295) hx hb hown hk1 dX1_narrow_108 ?_
        refine sp_callv (sp_runV (As := [.long 0, .long 4294967295]) (rest := []) C (c_X1_setUnsigned l D h0 (f_X1_setBits ((f_X1_settle (f_X1_setSigned (f_X1_setUnsigned (f_X1_setBits n0 (n0.1 &&& 4294967295) (n0.2.1 &&& 4294967295)) (((f_X1_setBits n0 (n0.1 &&& 4294967295) (n0.2.1 &&& 4294967295)).2.2.1) &&& 4294967295) (((f_X1_setBits n0 (n0.1 &&& 4294967295) (n0.2.1 &&& 4294967295)).2.2.2.1) &&& 4294967295)) 0 4294967295)).1) 0 4294967295) 0 4294967295) (cwV 2 hts (gV wG_c wm_33 wm_34 wm_35 wm_31 wm_32) rfl rfl rfl (by decide +kernel) ⟨Nat.le_of_ble_eq_true rfl, Nat.le_of_ble_eq_true rfl⟩) hK hP hD [0] (by decide) rfl [] rfl 0 1 rfl rfl rfl rfl hl.1 rfl (Nat.le_of_ble_eq_true rfl) dX1_narrow_111 ⟨Nat.le_of_ble_eq_true rfl, Nat.le_of_ble_eq_true rfl⟩) hP hD hS hA [0] rfl (sp_fc sp_f0) (fun H locs hP hD hS => ?_)
        have hP : va_P D vwCl ([(h0, .inr (1, nm_fs (f_X1_setUnsigned (f_X1_setBits ((f_X1_settle (f_X1_setSigned (f_X1_setUnsigned (f_X1_setBits n0 (n0.1 &&& 4294967295) (n0.2.1 &&& 4294967295)) (((f_X1_setBits n0 (n0.1 &&& 4294967295) (n0.2.1 &&& 4294967295)).2.2.1) &&& 4294967295) (((f_X1_setBits n0 (n0.1 &&& 4294967295) (n0.2.1 &&& 4294967295)).2.2.2.1) &&& 4294967295)) 0 4294967295)).1) 0 4294967295) 0 4294967295)))]) H := hP
        have hD : va_D A ([(h0, .inr (1, nm_fs (f_X1_setUnsigned (f_X1_setBits ((f_X1_settle (f_X1_setSigned (f_X1_setUnsigned (f_X1_setBits n0 (n0.1 &&& 4294967295) (n0.2.1 &&& 4294967295)) (((f_X1_setBits n0 (n0.1 &&& 4294967295) (n0.2.1 &&& 4294967295)).2.2.1) &&& 4294967295) (((f_X1_setBits n0 (n0.1 &&& 4294967295) (n0.2.1 &&& 4294967295)).2.2.2.1) &&& 4294967295)) 0 4294967295)).1) 0 4294967295) 0 4294967295)))]) := hD
        refine lv_aload_n hx hb dX1_narrow_114 rfl (lv_at hl 0 rfl) ?_
        refine lv_lconst (v := 0) hx hb dX1_narrow_115 (by decide) ?_
        refine lv_ldc2 (v := 4294967295) hx hb hown hk1 dX1_narrow_116 ?_
        refine sp_callv (sp_runV (As := [.long 0, .long 4294967295]) (rest := []) C (c_X1_setSigned l D h0 (f_X1_setUnsigned (f_X1_setBits ((f_X1_settle (f_X1_setSigned (f_X1_setUnsigned (f_X1_setBits n0 (n0.1 &&& 4294967295) (n0.2.1 &&& 4294967295)) (((f_X1_setBits n0 (n0.1 &&& 4294967295) (n0.2.1 &&& 4294967295)).2.2.1) &&& 4294967295) (((f_X1_setBits n0 (n0.1 &&& 4294967295) (n0.2.1 &&& 4294967295)).2.2.2.1) &&& 4294967295)) 0 4294967295)).1) 0 4294967295) 0 4294967295) 0 4294967295) (cwV 2 hts (gV wG_c wm_37 wm_38 wm_39 wm_31 wm_36) rfl rfl rfl (by decide +kernel) ⟨Nat.le_of_ble_eq_true rfl, Nat.le_of_ble_eq_true rfl⟩) hK hP hD [0] (by decide) rfl [] rfl 0 1 rfl rfl rfl rfl hl.1 rfl (Nat.le_of_ble_eq_true rfl) dX1_narrow_119 ⟨Nat.le_of_ble_eq_true rfl, Nat.le_of_ble_eq_true rfl⟩) hP hD hS hA [0] rfl (sp_fc sp_f0) (fun H locs hP hD hS => ?_)
        have hP : va_P D vwCl ([(h0, .inr (1, nm_fs (f_X1_setSigned (f_X1_setUnsigned (f_X1_setBits ((f_X1_settle (f_X1_setSigned (f_X1_setUnsigned (f_X1_setBits n0 (n0.1 &&& 4294967295) (n0.2.1 &&& 4294967295)) (((f_X1_setBits n0 (n0.1 &&& 4294967295) (n0.2.1 &&& 4294967295)).2.2.1) &&& 4294967295) (((f_X1_setBits n0 (n0.1 &&& 4294967295) (n0.2.1 &&& 4294967295)).2.2.2.1) &&& 4294967295)) 0 4294967295)).1) 0 4294967295) 0 4294967295) 0 4294967295)))]) H := hP
        have hD : va_D A ([(h0, .inr (1, nm_fs (f_X1_setSigned (f_X1_setUnsigned (f_X1_setBits ((f_X1_settle (f_X1_setSigned (f_X1_setUnsigned (f_X1_setBits n0 (n0.1 &&& 4294967295) (n0.2.1 &&& 4294967295)) (((f_X1_setBits n0 (n0.1 &&& 4294967295) (n0.2.1 &&& 4294967295)).2.2.1) &&& 4294967295) (((f_X1_setBits n0 (n0.1 &&& 4294967295) (n0.2.1 &&& 4294967295)).2.2.2.1) &&& 4294967295)) 0 4294967295)).1) 0 4294967295) 0 4294967295) 0 4294967295)))]) := hD
        have e9 : f_X1_narrow n0 = (f_X1_setSigned (f_X1_setUnsigned (f_X1_setBits ((f_X1_settle (f_X1_setSigned (f_X1_setUnsigned (f_X1_setBits n0 (n0.1 &&& 4294967295) (n0.2.1 &&& 4294967295)) (((f_X1_setBits n0 (n0.1 &&& 4294967295) (n0.2.1 &&& 4294967295)).2.2.1) &&& 4294967295) (((f_X1_setBits n0 (n0.1 &&& 4294967295) (n0.2.1 &&& 4294967295)).2.2.2.1) &&& 4294967295)) 0 4294967295)).1) 0 4294967295) 0 4294967295) 0 4294967295) := (if_neg c2).trans ((if_pos c3).trans ((if_pos c7).trans (rfl)))
        rw [e9]
        exact sp_vret C hAe hP hK hD hS dX1_narrow_122
  · have e9 : f_X1_narrow n0 = n0 := (if_pos c2).trans (rfl)
    rw [e9]
    exact sp_vret C hAe hP hK hD hS dX1_narrow_13
