theorem wm_0 : (.constantLong RX0 111 (-9223372036854775808) : Cond) ∈ wsG := wG_of 223 (by decide +kernel) (by decide +kernel)
theorem wm_1 : (.code yX0_isAbove cX0_isAbove 4 (some .boolean) : Cond) ∈ wsG := wG_of 222 (by decide +kernel) (by decide +kernel)
theorem wm_2 : (.methodLink RX0 51 yX0_isAbove : Cond) ∈ wsG := wG_of 273 (by decide +kernel) (by decide +kernel)
theorem wm_3 : (.static yX0_isAbove : Cond) ∈ wsG := wG_of 221 (by decide +kernel) (by decide +kernel)
theorem wm_4 : (.initialized RX0 : Cond) ∈ wsG := wG_of 61 (by decide +kernel) (by decide +kernel)
theorem dX0_isNumber_0 : decode cX0_isNumber 0 = .ok (.iload_n 0, 1) := by decide +kernel
theorem dX0_isNumber_1 : decode cX0_isNumber 1 = .ok (.ifCond .lt 13, 3) := by decide +kernel
theorem dX0_isNumber_4 : decode cX0_isNumber 4 = .ok (.iload_n 0, 1) := by decide +kernel
theorem dX0_isNumber_5 : decode cX0_isNumber 5 = .ok (.bipush 16, 2) := by decide +kernel
theorem dX0_isNumber_7 : decode cX0_isNumber 7 = .ok (.if_icmp .ge 7, 3) := by decide +kernel
theorem dX0_isNumber_10 : decode cX0_isNumber 10 = .ok (.iconst 1, 1) := by decide +kernel
theorem dX0_isNumber_11 : decode cX0_isNumber 11 = .ok (.goto 4, 3) := by decide +kernel
theorem dX0_isNumber_14 : decode cX0_isNumber 14 = .ok (.iconst 0, 1) := by decide +kernel
theorem dX0_isNumber_15 : decode cX0_isNumber 15 = .ok (.ireturn, 1) := by decide +kernel
theorem dX0_isAbove_0 : decode cX0_isAbove 0 = .ok (.lload_n 0, 1) := by decide +kernel
theorem dX0_isAbove_1 : decode cX0_isAbove 1 = .ok (.ldc2_w 111, 3) := by decide +kernel
theorem dX0_isAbove_4 : decode cX0_isAbove 4 = .ok (.lxor, 1) := by decide +kernel
theorem dX0_isAbove_5 : decode cX0_isAbove 5 = .ok (.lload_n 2, 1) := by decide +kernel
theorem dX0_isAbove_6 : decode cX0_isAbove 6 = .ok (.ldc2_w 111, 3) := by decide +kernel
theorem dX0_isAbove_9 : decode cX0_isAbove 9 = .ok (.lxor, 1) := by decide +kernel
theorem dX0_isAbove_10 : decode cX0_isAbove 10 = .ok (.lcmp, 1) := by decide +kernel
theorem dX0_isAbove_11 : decode cX0_isAbove 11 = .ok (.ifCond .le 7, 3) := by decide +kernel
theorem dX0_isAbove_14 : decode cX0_isAbove 14 = .ok (.iconst 1, 1) := by decide +kernel
theorem dX0_isAbove_15 : decode cX0_isAbove 15 = .ok (.goto 4, 3) := by decide +kernel
theorem dX0_isAbove_18 : decode cX0_isAbove 18 = .ok (.iconst 0, 1) := by decide +kernel
theorem dX0_isAbove_19 : decode cX0_isAbove 19 = .ok (.ireturn, 1) := by decide +kernel
theorem dX0_unsignedMax_0 : decode cX0_unsignedMax 0 = .ok (.lload_n 0, 1) := by decide +kernel
theorem dX0_unsignedMax_1 : decode cX0_unsignedMax 1 = .ok (.lload_n 2, 1) := by decide +kernel
theorem dX0_unsignedMax_2 : decode cX0_unsignedMax 2 = .ok (.invokestatic 51, 3) := by decide +kernel
theorem dX0_unsignedMax_5 : decode cX0_unsignedMax 5 = .ok (.ifCond .eq 7, 3) := by decide +kernel
theorem dX0_unsignedMax_8 : decode cX0_unsignedMax 8 = .ok (.lload_n 0, 1) := by decide +kernel
theorem dX0_unsignedMax_9 : decode cX0_unsignedMax 9 = .ok (.goto 4, 3) := by decide +kernel
theorem dX0_unsignedMax_12 : decode cX0_unsignedMax 12 = .ok (.lload_n 2, 1) := by decide +kernel
theorem dX0_unsignedMax_13 : decode cX0_unsignedMax 13 = .ok (.lreturn, 1) := by decide +kernel
theorem dX0_unsignedMin_0 : decode cX0_unsignedMin 0 = .ok (.lload_n 0, 1) := by decide +kernel
theorem dX0_unsignedMin_1 : decode cX0_unsignedMin 1 = .ok (.lload_n 2, 1) := by decide +kernel
theorem dX0_unsignedMin_2 : decode cX0_unsignedMin 2 = .ok (.invokestatic 51, 3) := by decide +kernel
theorem dX0_unsignedMin_5 : decode cX0_unsignedMin 5 = .ok (.ifCond .eq 7, 3) := by decide +kernel
theorem dX0_unsignedMin_8 : decode cX0_unsignedMin 8 = .ok (.lload_n 2, 1) := by decide +kernel
theorem dX0_unsignedMin_9 : decode cX0_unsignedMin 9 = .ok (.goto 4, 3) := by decide +kernel
theorem dX0_unsignedMin_12 : decode cX0_unsignedMin 12 = .ok (.lload_n 0, 1) := by decide +kernel
theorem dX0_unsignedMin_13 : decode cX0_unsignedMin 13 = .ok (.lreturn, 1) := by decide +kernel
def f_X0_isNumber (p1 : Int32) : Int32 :=
  if p1 < 0 then 0
  else if 16 ≤ p1 then 0
  else 1
set_option maxHeartbeats 4000000 in
set_option maxRecDepth 100000 in
theorem c_X0_isNumber (l : Launch) (D : va_G) (p1 : Int32) : sp_M l yX0_isNumber wsX0_isNumber ({ frames := 0, cells := 0, slots := 0, locals := 0 }) D [.int p1] ([]) [] (sp_Qz D ([]) ([]) [] (f_X0_isNumber p1)) := by
  refine sp_ofW (cc := cX0_isNumber) (nL := 1) (ret := (some .boolean)) (own := RX0) (by decide) rfl rfl (Nat.le_of_ble_eq_true rfl) ?_
  intro p e s m below meth c A ls hAe hnm C hA hP hK hD hS hl
  have hx := C.1
  have hb := C.2.1
  have hown := C.2.2.2.2.1
  have hts := C.2.2.2.2.2.1
  have hl : lv_has ls 1 [(0, .int p1)] := hl
  refine lv_iload_n hx hb dX0_isNumber_0 rfl (lv_at hl 0 rfl) ?_
  refine lv_if_lt (tgt := 14) hx hb dX0_isNumber_1 (by decide) (fun c1 => ?_) (fun c1 => ?_)
  · refine lv_iconst (v := 0) hx hb dX0_isNumber_14 (by decide) ?_
    have e9 : f_X0_isNumber p1 = 0 := (if_pos c1).trans (rfl)
    rw [e9]
    exact sp_zret C hAe hP hK hD hS (Or.inl rfl) dX0_isNumber_15
  · refine lv_iload_n hx hb dX0_isNumber_4 rfl (lv_at hl 0 rfl) ?_
    refine lv_bipush (v := 16) hx hb dX0_isNumber_5 (by decide) ?_
    refine lv_icmp_ge (tgt := 14) hx hb dX0_isNumber_7 (by decide) (fun c2 => ?_) (fun c2 => ?_)
    · refine lv_iconst (v := 0) hx hb dX0_isNumber_14 (by decide) ?_
      have e9 : f_X0_isNumber p1 = 0 := (if_neg c1).trans ((if_pos c2).trans (rfl))
      rw [e9]
      exact sp_zret C hAe hP hK hD hS (Or.inl rfl) dX0_isNumber_15
    · refine lv_iconst (v := 1) hx hb dX0_isNumber_10 (by decide) ?_
      refine lv_goto (tgt := 15) hx hb dX0_isNumber_11 (by decide) ?_
      have e9 : f_X0_isNumber p1 = 1 := (if_neg c1).trans ((if_neg c2).trans (rfl))
      rw [e9]
      exact sp_zret C hAe hP hK hD hS (Or.inr rfl) dX0_isNumber_15
def f_X0_isAbove (p1 : Int64) (p2 : Int64) : Int32 :=
  if (lg_cmp (p1 ^^^ (-9223372036854775808)) (p2 ^^^ (-9223372036854775808))) ≤ 0 then 0
  else 1
set_option maxHeartbeats 4000000 in
set_option maxRecDepth 100000 in
theorem c_X0_isAbove (l : Launch) (D : va_G) (p1 : Int64) (p2 : Int64) : sp_M l yX0_isAbove wsX0_isAbove ({ frames := 0, cells := 0, slots := 0, locals := 0 }) D [.long p1, .long p2] ([]) [] (sp_Qz D ([]) ([]) [] (f_X0_isAbove p1 p2)) := by
  refine sp_ofW (cc := cX0_isAbove) (nL := 4) (ret := (some .boolean)) (own := RX0) (by decide) rfl rfl (Nat.le_of_ble_eq_true rfl) ?_
  intro p e s m below meth c A ls hAe hnm C hA hP hK hD hS hl
  have hx := C.1
  have hb := C.2.1
  have hown := C.2.2.2.2.1
  have hts := C.2.2.2.2.2.1
  have hl : lv_has ls 4 [(0, .long p1), (2, .long p2)] := hl
  have hk0 := hts _ (List.mem_cons_of_mem _ wm_0)
  refine lv_lload_n hx hb dX0_isAbove_0 rfl (lv_at hl 0 rfl) ?_
  refine lv_ldc2 (v := (-9223372036854775808)) hx hb hown hk0 dX0_isAbove_1 ?_
  refine lv_lxor hx hb dX0_isAbove_4 ?_
  refine lv_lload_n hx hb dX0_isAbove_5 rfl (lv_at hl 1 rfl) ?_
  refine lv_ldc2 (v := (-9223372036854775808)) hx hb hown hk0 dX0_isAbove_6 ?_
  refine lv_lxor hx hb dX0_isAbove_9 ?_
  refine W.lcmp hx hb dX0_isAbove_10 ?_
  refine lv_if_le (tgt := 18) hx hb dX0_isAbove_11 (by decide) (fun c1 => ?_) (fun c1 => ?_)
  · refine lv_iconst (v := 0) hx hb dX0_isAbove_18 (by decide) ?_
    have e9 : f_X0_isAbove p1 p2 = 0 := (if_pos c1).trans (rfl)
    rw [e9]
    exact sp_zret C hAe hP hK hD hS (Or.inl rfl) dX0_isAbove_19
  · refine lv_iconst (v := 1) hx hb dX0_isAbove_14 (by decide) ?_
    refine lv_goto (tgt := 19) hx hb dX0_isAbove_15 (by decide) ?_
    have e9 : f_X0_isAbove p1 p2 = 1 := (if_neg c1).trans (rfl)
    rw [e9]
    exact sp_zret C hAe hP hK hD hS (Or.inr rfl) dX0_isAbove_19
def f_X0_unsignedMax (p1 : Int64) (p2 : Int64) : Int64 :=
  if (f_X0_isAbove p1 p2) = 0 then p2
  else p1
set_option maxHeartbeats 4000000 in
set_option maxRecDepth 100000 in
theorem c_X0_unsignedMax (l : Launch) (D : va_G) (p1 : Int64) (p2 : Int64) : sp_M l yX0_unsignedMax wsX0_unsignedMax ({ frames := 1, cells := 0, slots := 0, locals := 23 }) D [.long p1, .long p2] ([]) [] (sp_Ql D ([]) ([]) [] (f_X0_unsignedMax p1 p2)) := by
  refine sp_ofW (cc := cX0_unsignedMax) (nL := 4) (ret := (some .long)) (own := RX0) (by decide) rfl rfl (Nat.le_of_ble_eq_true rfl) ?_
  intro p e s m below meth c A ls hAe hnm C hA hP hK hD hS hl
  have hx := C.1
  have hb := C.2.1
  have hown := C.2.2.2.2.1
  have hts := C.2.2.2.2.2.1
  have hl : lv_has ls 4 [(0, .long p1), (2, .long p2)] := hl
  refine lv_lload_n hx hb dX0_unsignedMax_0 rfl (lv_at hl 0 rfl) ?_
  refine lv_lload_n hx hb dX0_unsignedMax_1 rfl (lv_at hl 1 rfl) ?_
  refine sp_callz (sp_runS (As := [.long p1, .long p2]) (rest := []) C (c_X0_isAbove l D p1 p2) (va_cwS 2 hts (gS wG_c wm_2 wm_3 wm_4 wm_1) rfl rfl rfl (by decide +kernel) ⟨Nat.le_of_ble_eq_true rfl, Nat.le_of_ble_eq_true rfl⟩) hK hP hD [] (by decide) rfl [] rfl rfl hl.1 rfl (Nat.le_of_ble_eq_true rfl) dX0_unsignedMax_2 ⟨Nat.le_of_ble_eq_true rfl, Nat.le_of_ble_eq_true rfl⟩) hP hD hS hA [] rfl sp_f0 (fun H locs z1 hP hD hS => ?_)
  have hP : va_P D vwCl ([]) H := hP
  have hD : va_D A ([]) := hD
  refine lv_if_eq (tgt := 12) hx hb dX0_unsignedMax_5 (by decide) (fun c2 => ?_) (fun c2 => ?_)
  · refine lv_lload_n hx hb dX0_unsignedMax_12 rfl (lv_at hl 1 rfl) ?_
    have e9 : f_X0_unsignedMax p1 p2 = p2 := (if_pos c2).trans (rfl)
    rw [e9]
    exact sp_lret C hAe hP hK hD hS dX0_unsignedMax_13
  · refine lv_lload_n hx hb dX0_unsignedMax_8 rfl (lv_at hl 0 rfl) ?_
    refine lv_goto (tgt := 13) hx hb dX0_unsignedMax_9 (by decide) ?_
    have e9 : f_X0_unsignedMax p1 p2 = p1 := (if_neg c2).trans (rfl)
    rw [e9]
    exact sp_lret C hAe hP hK hD hS dX0_unsignedMax_13
def f_X0_unsignedMin (p1 : Int64) (p2 : Int64) : Int64 :=
  if (f_X0_isAbove p1 p2) = 0 then p1
  else p2
set_option maxHeartbeats 4000000 in
set_option maxRecDepth 100000 in
theorem c_X0_unsignedMin (l : Launch) (D : va_G) (p1 : Int64) (p2 : Int64) : sp_M l yX0_unsignedMin wsX0_unsignedMin ({ frames := 1, cells := 0, slots := 0, locals := 23 }) D [.long p1, .long p2] ([]) [] (sp_Ql D ([]) ([]) [] (f_X0_unsignedMin p1 p2)) := by
  refine sp_ofW (cc := cX0_unsignedMin) (nL := 4) (ret := (some .long)) (own := RX0) (by decide) rfl rfl (Nat.le_of_ble_eq_true rfl) ?_
  intro p e s m below meth c A ls hAe hnm C hA hP hK hD hS hl
  have hx := C.1
  have hb := C.2.1
  have hown := C.2.2.2.2.1
  have hts := C.2.2.2.2.2.1
  have hl : lv_has ls 4 [(0, .long p1), (2, .long p2)] := hl
  refine lv_lload_n hx hb dX0_unsignedMin_0 rfl (lv_at hl 0 rfl) ?_
  refine lv_lload_n hx hb dX0_unsignedMin_1 rfl (lv_at hl 1 rfl) ?_
  refine sp_callz (sp_runS (As := [.long p1, .long p2]) (rest := []) C (c_X0_isAbove l D p1 p2) (va_cwS 2 hts (gS wG_c wm_2 wm_3 wm_4 wm_1) rfl rfl rfl (by decide +kernel) ⟨Nat.le_of_ble_eq_true rfl, Nat.le_of_ble_eq_true rfl⟩) hK hP hD [] (by decide) rfl [] rfl rfl hl.1 rfl (Nat.le_of_ble_eq_true rfl) dX0_unsignedMin_2 ⟨Nat.le_of_ble_eq_true rfl, Nat.le_of_ble_eq_true rfl⟩) hP hD hS hA [] rfl sp_f0 (fun H locs z1 hP hD hS => ?_)
  have hP : va_P D vwCl ([]) H := hP
  have hD : va_D A ([]) := hD
  refine lv_if_eq (tgt := 12) hx hb dX0_unsignedMin_5 (by decide) (fun c2 => ?_) (fun c2 => ?_)
  · refine lv_lload_n hx hb dX0_unsignedMin_12 rfl (lv_at hl 0 rfl) ?_
    have e9 : f_X0_unsignedMin p1 p2 = p1 := (if_pos c2).trans (rfl)
    rw [e9]
    exact sp_lret C hAe hP hK hD hS dX0_unsignedMin_13
  · refine lv_lload_n hx hb dX0_unsignedMin_8 rfl (lv_at hl 1 rfl) ?_
    refine lv_goto (tgt := 13) hx hb dX0_unsignedMin_9 (by decide) ?_
    have e9 : f_X0_unsignedMin p1 p2 = p2 := (if_neg c2).trans (rfl)
    rw [e9]
    exact sp_lret C hAe hP hK hD hS dX0_unsignedMin_13
theorem nb_int {i : Int32} (h : ¬ f_X0_isNumber i = 0) : 0 ≤ i.toInt ∧ i.toInt < 16 := by
  unfold f_X0_isNumber at h
  by_cases c1 : i < 0
  · exact absurd (if_pos c1) h
  · rw [if_neg c1] at h
    by_cases c2 : (16 : Int32) ≤ i
    · exact absurd (if_pos c2) h
    · rw [Int32.lt_iff_toInt_lt] at c1
      rw [Int32.le_iff_toInt_le] at c2
      have e0 : (0 : Int32).toInt = 0 := by decide
      have e1 : (16 : Int32).toInt = 16 := by decide
      omega
theorem nb_in {i : Int32} (h : ¬ f_X0_isNumber i = 0) : vp_in i 16 := by
  have := nb_int h
  exact vp_in_iff.mpr ⟨this.1, by omega⟩
theorem nb_lt {i : Int32} (h : ¬ f_X0_isNumber i = 0) : i.toNatClampNeg < 16 := Nat.not_le.mp fun q => nb_in h (Or.inr q)
theorem nb_ne {i j : Int32} (h1 : ¬ f_X0_isNumber i = 0) (h2 : ¬ f_X0_isNumber j = 0) (h : ¬ i = j) : ¬ i.toNatClampNeg = j.toNatClampNeg := by
  obtain ⟨a, ha, rfl⟩ := vp_in_of (nb_in h1) (by decide)
  obtain ⟨b, hb, rfl⟩ := vp_in_of (nb_in h2) (by decide)
  rw [nI_clamp (by omega), nI_clamp (by omega)]
  intro e
  exact h (by rw [e])

