theorem wm_374 : (.constantLong RM 32 (-9223372036854775808) : Cond) ∈ wsG := wG_of 654 (by decide +kernel) (by decide +kernel)
theorem wm_375 : (.code yM_below cM_below 4 (some .boolean) : Cond) ∈ wsG := wG_of 673 (by decide +kernel) (by decide +kernel)
theorem wm_376 : (.methodLink RM 34 yM_below : Cond) ∈ wsG := wG_of 671 (by decide +kernel) (by decide +kernel)
theorem wm_377 : (.static yM_below : Cond) ∈ wsG := wG_of 672 (by decide +kernel) (by decide +kernel)
theorem wm_378 : (.initialized RM : Cond) ∈ wsG := wG_of 65 (by decide +kernel) (by decide +kernel)
theorem wm_379 : (.constantLong RM 102 65535 : Cond) ∈ wsG := wG_of 766 (by decide +kernel) (by decide +kernel)
theorem wm_380 : (.constantLong RM 89 4294967295 : Cond) ∈ wsG := wG_of 712 (by decide +kernel) (by decide +kernel)
theorem wm_381 : (.constantLong RM 38 (-1) : Cond) ∈ wsG := wG_of 653 (by decide +kernel) (by decide +kernel)
theorem dM_is_0 : decode cM_is 0 = .ok (.iload_n 0, 1) := by decide +kernel
theorem dM_is_1 : decode cM_is 1 = .ok (.ifCond .lt 13, 3) := by decide +kernel
theorem dM_is_4 : decode cM_is 4 = .ok (.iload_n 0, 1) := by decide +kernel
theorem dM_is_5 : decode cM_is 5 = .ok (.bipush 16, 2) := by decide +kernel
theorem dM_is_7 : decode cM_is 7 = .ok (.if_icmp .ge 7, 3) := by decide +kernel
theorem dM_is_10 : decode cM_is 10 = .ok (.iconst 1, 1) := by decide +kernel
theorem dM_is_11 : decode cM_is 11 = .ok (.goto 4, 3) := by decide +kernel
theorem dM_is_14 : decode cM_is 14 = .ok (.iconst 0, 1) := by decide +kernel
theorem dM_is_15 : decode cM_is 15 = .ok (.ireturn, 1) := by decide +kernel
theorem dM_below_0 : decode cM_below 0 = .ok (.lload_n 0, 1) := by decide +kernel
theorem dM_below_1 : decode cM_below 1 = .ok (.ldc2_w 32, 3) := by decide +kernel
theorem dM_below_4 : decode cM_below 4 = .ok (.ladd, 1) := by decide +kernel
theorem dM_below_5 : decode cM_below 5 = .ok (.lload_n 2, 1) := by decide +kernel
theorem dM_below_6 : decode cM_below 6 = .ok (.ldc2_w 32, 3) := by decide +kernel
theorem dM_below_9 : decode cM_below 9 = .ok (.ladd, 1) := by decide +kernel
theorem dM_below_10 : decode cM_below 10 = .ok (.lcmp, 1) := by decide +kernel
theorem dM_below_11 : decode cM_below 11 = .ok (.ifCond .ge 7, 3) := by decide +kernel
theorem dM_below_14 : decode cM_below 14 = .ok (.iconst 1, 1) := by decide +kernel
theorem dM_below_15 : decode cM_below 15 = .ok (.goto 4, 3) := by decide +kernel
theorem dM_below_18 : decode cM_below 18 = .ok (.iconst 0, 1) := by decide +kernel
theorem dM_below_19 : decode cM_below 19 = .ok (.ireturn, 1) := by decide +kernel
theorem dM_lesser_0 : decode cM_lesser 0 = .ok (.lload_n 0, 1) := by decide +kernel
theorem dM_lesser_1 : decode cM_lesser 1 = .ok (.lload_n 2, 1) := by decide +kernel
theorem dM_lesser_2 : decode cM_lesser 2 = .ok (.invokestatic 34, 3) := by decide +kernel
theorem dM_lesser_5 : decode cM_lesser 5 = .ok (.ifCond .eq 7, 3) := by decide +kernel
theorem dM_lesser_8 : decode cM_lesser 8 = .ok (.lload_n 0, 1) := by decide +kernel
theorem dM_lesser_9 : decode cM_lesser 9 = .ok (.goto 4, 3) := by decide +kernel
theorem dM_lesser_12 : decode cM_lesser 12 = .ok (.lload_n 2, 1) := by decide +kernel
theorem dM_lesser_13 : decode cM_lesser 13 = .ok (.lreturn, 1) := by decide +kernel
theorem dM_greater_0 : decode cM_greater 0 = .ok (.lload_n 0, 1) := by decide +kernel
theorem dM_greater_1 : decode cM_greater 1 = .ok (.lload_n 2, 1) := by decide +kernel
theorem dM_greater_2 : decode cM_greater 2 = .ok (.invokestatic 34, 3) := by decide +kernel
theorem dM_greater_5 : decode cM_greater 5 = .ok (.ifCond .eq 7, 3) := by decide +kernel
theorem dM_greater_8 : decode cM_greater 8 = .ok (.lload_n 2, 1) := by decide +kernel
theorem dM_greater_9 : decode cM_greater 9 = .ok (.goto 4, 3) := by decide +kernel
theorem dM_greater_12 : decode cM_greater 12 = .ok (.lload_n 0, 1) := by decide +kernel
theorem dM_greater_13 : decode cM_greater 13 = .ok (.lreturn, 1) := by decide +kernel
theorem dM_top_0 : decode cM_top 0 = .ok (.iload_n 0, 1) := by decide +kernel
theorem dM_top_1 : decode cM_top 1 = .ok (.bipush 8, 2) := by decide +kernel
theorem dM_top_3 : decode cM_top 3 = .ok (.if_icmp .ne 9, 3) := by decide +kernel
theorem dM_top_6 : decode cM_top 6 = .ok (.ldc2_w 38, 3) := by decide +kernel
theorem dM_top_9 : decode cM_top 9 = .ok (.goto 17, 3) := by decide +kernel
theorem dM_top_12 : decode cM_top 12 = .ok (.iload_n 0, 1) := by decide +kernel
theorem dM_top_13 : decode cM_top 13 = .ok (.iconst 4, 1) := by decide +kernel
theorem dM_top_14 : decode cM_top 14 = .ok (.if_icmp .ne 9, 3) := by decide +kernel
theorem dM_top_17 : decode cM_top 17 = .ok (.ldc2_w 89, 3) := by decide +kernel
theorem dM_top_20 : decode cM_top 20 = .ok (.goto 6, 3) := by decide +kernel
theorem dM_top_23 : decode cM_top 23 = .ok (.ldc2_w 102, 3) := by decide +kernel
theorem dM_top_26 : decode cM_top 26 = .ok (.lreturn, 1) := by decide +kernel
theorem dM_isOne_0 : decode cM_isOne 0 = .ok (.lload_n 0, 1) := by decide +kernel
theorem dM_isOne_1 : decode cM_isOne 1 = .ok (.lconst 0, 1) := by decide +kernel
theorem dM_isOne_2 : decode cM_isOne 2 = .ok (.lcmp, 1) := by decide +kernel
theorem dM_isOne_3 : decode cM_isOne 3 = .ok (.ifCond .eq 17, 3) := by decide +kernel
theorem dM_isOne_6 : decode cM_isOne 6 = .ok (.lload_n 0, 1) := by decide +kernel
theorem dM_isOne_7 : decode cM_isOne 7 = .ok (.lload_n 0, 1) := by decide +kernel
theorem dM_isOne_8 : decode cM_isOne 8 = .ok (.lconst 1, 1) := by decide +kernel
theorem dM_isOne_9 : decode cM_isOne 9 = .ok (.lsub, 1) := by decide +kernel
theorem dM_isOne_10 : decode cM_isOne 10 = .ok (.land, 1) := by decide +kernel
theorem dM_isOne_11 : decode cM_isOne 11 = .ok (.lconst 0, 1) := by decide +kernel
theorem dM_isOne_12 : decode cM_isOne 12 = .ok (.lcmp, 1) := by decide +kernel
theorem dM_isOne_13 : decode cM_isOne 13 = .ok (.ifCond .ne 7, 3) := by decide +kernel
theorem dM_isOne_16 : decode cM_isOne 16 = .ok (.iconst 1, 1) := by decide +kernel
theorem dM_isOne_17 : decode cM_isOne 17 = .ok (.goto 4, 3) := by decide +kernel
theorem dM_isOne_20 : decode cM_isOne 20 = .ok (.iconst 0, 1) := by decide +kernel
theorem dM_isOne_21 : decode cM_isOne 21 = .ok (.ireturn, 1) := by decide +kernel
def f_M_is (p1 : Int32) : Int32 :=
  if p1 < 0 then 0
  else if 16 ≤ p1 then 0
  else 1
set_option maxHeartbeats 4000000 in
set_option maxRecDepth 100000 in
theorem c_M_is (l : Launch) (D : va_G) (p1 : Int32) : sp_M l yM_is wsM_is ({ frames := 0, cells := 0, slots := 0, locals := 0 }) D [.int p1] ([]) [] (sp_Qz D ([]) ([]) [] (f_M_is p1)) := by
  refine sp_ofW (cc := cM_is) (nL := 1) (ret := (some .boolean)) (own := RM) (by decide) rfl rfl (Nat.le_of_ble_eq_true rfl) ?_
  intro p e s m below meth c A ls hAe hnm C hA hP hK hD hS hl
  have hx := C.1
  have hb := C.2.1
  have hown := C.2.2.2.2.1
  have hts := C.2.2.2.2.2.1
  have hl : lv_has ls 1 [(0, .int p1)] := hl
  refine lv_iload_n hx hb dM_is_0 rfl (lv_at hl 0 rfl) ?_
  refine lv_if_lt (tgt := 14) hx hb dM_is_1 (by decide) (fun c1 => ?_) (fun c1 => ?_)
  · refine lv_iconst (v := 0) hx hb dM_is_14 (by decide) ?_
    have e9 : f_M_is p1 = 0 := (if_pos c1).trans (rfl)
    rw [e9]
    exact sp_zret C hAe hP hK hD hS (Or.inl rfl) dM_is_15
  · refine lv_iload_n hx hb dM_is_4 rfl (lv_at hl 0 rfl) ?_
    refine lv_bipush (v := 16) hx hb dM_is_5 (by decide) ?_
    refine lv_icmp_ge (tgt := 14) hx hb dM_is_7 (by decide) (fun c2 => ?_) (fun c2 => ?_)
    · refine lv_iconst (v := 0) hx hb dM_is_14 (by decide) ?_
      have e9 : f_M_is p1 = 0 := (if_neg c1).trans ((if_pos c2).trans (rfl))
      rw [e9]
      exact sp_zret C hAe hP hK hD hS (Or.inl rfl) dM_is_15
    · refine lv_iconst (v := 1) hx hb dM_is_10 (by decide) ?_
      refine lv_goto (tgt := 15) hx hb dM_is_11 (by decide) ?_
      have e9 : f_M_is p1 = 1 := (if_neg c1).trans ((if_neg c2).trans (rfl))
      rw [e9]
      exact sp_zret C hAe hP hK hD hS (Or.inr rfl) dM_is_15
def f_M_below (p1 : Int64) (p2 : Int64) : Int32 :=
  if 0 ≤ (lg_cmp (p1 + (-9223372036854775808)) (p2 + (-9223372036854775808))) then 0
  else 1
set_option maxHeartbeats 4000000 in
set_option maxRecDepth 100000 in
theorem c_M_below (l : Launch) (D : va_G) (p1 : Int64) (p2 : Int64) : sp_M l yM_below wsM_below ({ frames := 0, cells := 0, slots := 0, locals := 0 }) D [.long p1, .long p2] ([]) [] (sp_Qz D ([]) ([]) [] (f_M_below p1 p2)) := by
  refine sp_ofW (cc := cM_below) (nL := 4) (ret := (some .boolean)) (own := RM) (by decide) rfl rfl (Nat.le_of_ble_eq_true rfl) ?_
  intro p e s m below meth c A ls hAe hnm C hA hP hK hD hS hl
  have hx := C.1
  have hb := C.2.1
  have hown := C.2.2.2.2.1
  have hts := C.2.2.2.2.2.1
  have hl : lv_has ls 4 [(0, .long p1), (2, .long p2)] := hl
  have hk0 := hts _ (List.mem_cons_of_mem _ wm_374)
  refine lv_lload_n hx hb dM_below_0 rfl (lv_at hl 0 rfl) ?_
  refine lv_ldc2 (v := (-9223372036854775808)) hx hb hown hk0 dM_below_1 ?_
  refine lv_ladd hx hb dM_below_4 ?_
  refine lv_lload_n hx hb dM_below_5 rfl (lv_at hl 1 rfl) ?_
  refine lv_ldc2 (v := (-9223372036854775808)) hx hb hown hk0 dM_below_6 ?_
  refine lv_ladd hx hb dM_below_9 ?_
  refine W.lcmp hx hb dM_below_10 ?_
  refine lv_if_ge (tgt := 18) hx hb dM_below_11 (by decide) (fun c1 => ?_) (fun c1 => ?_)
  · refine lv_iconst (v := 0) hx hb dM_below_18 (by decide) ?_
    have e9 : f_M_below p1 p2 = 0 := (if_pos c1).trans (rfl)
    rw [e9]
    exact sp_zret C hAe hP hK hD hS (Or.inl rfl) dM_below_19
  · refine lv_iconst (v := 1) hx hb dM_below_14 (by decide) ?_
    refine lv_goto (tgt := 19) hx hb dM_below_15 (by decide) ?_
    have e9 : f_M_below p1 p2 = 1 := (if_neg c1).trans (rfl)
    rw [e9]
    exact sp_zret C hAe hP hK hD hS (Or.inr rfl) dM_below_19
def f_M_lesser (p1 : Int64) (p2 : Int64) : Int64 :=
  if (f_M_below p1 p2) = 0 then p2
  else p1
set_option maxHeartbeats 4000000 in
set_option maxRecDepth 100000 in
theorem c_M_lesser (l : Launch) (D : va_G) (p1 : Int64) (p2 : Int64) : sp_M l yM_lesser wsM_lesser ({ frames := 1, cells := 0, slots := 0, locals := 23 }) D [.long p1, .long p2] ([]) [] (sp_Ql D ([]) ([]) [] (f_M_lesser p1 p2)) := by
  refine sp_ofW (cc := cM_lesser) (nL := 4) (ret := (some .long)) (own := RM) (by decide) rfl rfl (Nat.le_of_ble_eq_true rfl) ?_
  intro p e s m below meth c A ls hAe hnm C hA hP hK hD hS hl
  have hx := C.1
  have hb := C.2.1
  have hown := C.2.2.2.2.1
  have hts := C.2.2.2.2.2.1
  have hl : lv_has ls 4 [(0, .long p1), (2, .long p2)] := hl
  refine lv_lload_n hx hb dM_lesser_0 rfl (lv_at hl 0 rfl) ?_
  refine lv_lload_n hx hb dM_lesser_1 rfl (lv_at hl 1 rfl) ?_
  refine sp_callz (sp_runS (As := [.long p1, .long p2]) (rest := []) C (c_M_below l D p1 p2) (va_cwS 2 hts (gS wG_c wm_376 wm_377 wm_378 wm_375) rfl rfl rfl (by decide +kernel) ⟨Nat.le_of_ble_eq_true rfl, Nat.le_of_ble_eq_true rfl⟩) hK hP hD [] (by decide) rfl [] rfl rfl hl.1 rfl (Nat.le_of_ble_eq_true rfl) dM_lesser_2 ⟨Nat.le_of_ble_eq_true rfl, Nat.le_of_ble_eq_true rfl⟩) hP hD hS hA [] rfl sp_f0 (fun H locs z1 hP hD hS => ?_)
  have hP : va_P D vwCl ([]) H := hP
  have hD : va_D A ([]) := hD
  refine lv_if_eq (tgt := 12) hx hb dM_lesser_5 (by decide) (fun c2 => ?_) (fun c2 => ?_)
  · refine lv_lload_n hx hb dM_lesser_12 rfl (lv_at hl 1 rfl) ?_
    have e9 : f_M_lesser p1 p2 = p2 := (if_pos c2).trans (rfl)
    rw [e9]
    exact sp_lret C hAe hP hK hD hS dM_lesser_13
  · refine lv_lload_n hx hb dM_lesser_8 rfl (lv_at hl 0 rfl) ?_
    refine lv_goto (tgt := 13) hx hb dM_lesser_9 (by decide) ?_
    have e9 : f_M_lesser p1 p2 = p1 := (if_neg c2).trans (rfl)
    rw [e9]
    exact sp_lret C hAe hP hK hD hS dM_lesser_13
def f_M_greater (p1 : Int64) (p2 : Int64) : Int64 :=
  if (f_M_below p1 p2) = 0 then p1
  else p2
set_option maxHeartbeats 4000000 in
set_option maxRecDepth 100000 in
theorem c_M_greater (l : Launch) (D : va_G) (p1 : Int64) (p2 : Int64) : sp_M l yM_greater wsM_greater ({ frames := 1, cells := 0, slots := 0, locals := 23 }) D [.long p1, .long p2] ([]) [] (sp_Ql D ([]) ([]) [] (f_M_greater p1 p2)) := by
  refine sp_ofW (cc := cM_greater) (nL := 4) (ret := (some .long)) (own := RM) (by decide) rfl rfl (Nat.le_of_ble_eq_true rfl) ?_
  intro p e s m below meth c A ls hAe hnm C hA hP hK hD hS hl
  have hx := C.1
  have hb := C.2.1
  have hown := C.2.2.2.2.1
  have hts := C.2.2.2.2.2.1
  have hl : lv_has ls 4 [(0, .long p1), (2, .long p2)] := hl
  refine lv_lload_n hx hb dM_greater_0 rfl (lv_at hl 0 rfl) ?_
  refine lv_lload_n hx hb dM_greater_1 rfl (lv_at hl 1 rfl) ?_
  refine sp_callz (sp_runS (As := [.long p1, .long p2]) (rest := []) C (c_M_below l D p1 p2) (va_cwS 2 hts (gS wG_c wm_376 wm_377 wm_378 wm_375) rfl rfl rfl (by decide +kernel) ⟨Nat.le_of_ble_eq_true rfl, Nat.le_of_ble_eq_true rfl⟩) hK hP hD [] (by decide) rfl [] rfl rfl hl.1 rfl (Nat.le_of_ble_eq_true rfl) dM_greater_2 ⟨Nat.le_of_ble_eq_true rfl, Nat.le_of_ble_eq_true rfl⟩) hP hD hS hA [] rfl sp_f0 (fun H locs z1 hP hD hS => ?_)
  have hP : va_P D vwCl ([]) H := hP
  have hD : va_D A ([]) := hD
  refine lv_if_eq (tgt := 12) hx hb dM_greater_5 (by decide) (fun c2 => ?_) (fun c2 => ?_)
  · refine lv_lload_n hx hb dM_greater_12 rfl (lv_at hl 0 rfl) ?_
    have e9 : f_M_greater p1 p2 = p1 := (if_pos c2).trans (rfl)
    rw [e9]
    exact sp_lret C hAe hP hK hD hS dM_greater_13
  · refine lv_lload_n hx hb dM_greater_8 rfl (lv_at hl 1 rfl) ?_
    refine lv_goto (tgt := 13) hx hb dM_greater_9 (by decide) ?_
    have e9 : f_M_greater p1 p2 = p2 := (if_neg c2).trans (rfl)
    rw [e9]
    exact sp_lret C hAe hP hK hD hS dM_greater_13
def f_M_top (p1 : Int32) : Int64 :=
  if p1 = 8 then (-1)
  else if p1 = 4 then 4294967295
  else 65535
set_option maxHeartbeats 4000000 in
set_option maxRecDepth 100000 in
theorem c_M_top (l : Launch) (D : va_G) (p1 : Int32) : sp_M l yM_top wsM_top ({ frames := 0, cells := 0, slots := 0, locals := 0 }) D [.int p1] ([]) [] (sp_Ql D ([]) ([]) [] (f_M_top p1)) := by
  refine sp_ofW (cc := cM_top) (nL := 1) (ret := (some .long)) (own := RM) (by decide) rfl rfl (Nat.le_of_ble_eq_true rfl) ?_
  intro p e s m below meth c A ls hAe hnm C hA hP hK hD hS hl
  have hx := C.1
  have hb := C.2.1
  have hown := C.2.2.2.2.1
  have hts := C.2.2.2.2.2.1
  have hl : lv_has ls 1 [(0, .int p1)] := hl
  have hk0 := hts _ (List.mem_cons_of_mem _ wm_379)
  have hk1 := hts _ (List.mem_cons_of_mem _ wm_380)
  have hk2 := hts _ (List.mem_cons_of_mem _ wm_381)
  refine lv_iload_n hx hb dM_top_0 rfl (lv_at hl 0 rfl) ?_
  refine lv_bipush (v := 8) hx hb dM_top_1 (by decide) ?_
  refine lv_icmp_ne (tgt := 12) hx hb dM_top_3 (by decide) (fun c1 => ?_) (fun c1 => ?_)
  · refine lv_iload_n hx hb dM_top_12 rfl (lv_at hl 0 rfl) ?_
    refine lv_iconst (v := 4) hx hb dM_top_13 (by decide) ?_
    refine lv_icmp_ne (tgt := 23) hx hb dM_top_14 (by decide) (fun c2 => ?_) (fun c2 => ?_)
    · refine lv_ldc2 (v := 65535) hx hb hown hk0 dM_top_23 ?_
      have e9 : f_M_top p1 = 65535 := (if_neg c1).trans ((if_neg c2).trans (rfl))
      rw [e9]
      exact sp_lret C hAe hP hK hD hS dM_top_26
    · refine lv_ldc2 (v := 4294967295) hx hb hown hk1 dM_top_17 ?_
      refine lv_goto (tgt := 26) hx hb dM_top_20 (by decide) ?_
      have e9 : f_M_top p1 = 4294967295 := (if_neg c1).trans ((if_pos c2).trans (rfl))
      rw [e9]
      exact sp_lret C hAe hP hK hD hS dM_top_26
  · refine lv_ldc2 (v := (-1)) hx hb hown hk2 dM_top_6 ?_
    refine lv_goto (tgt := 26) hx hb dM_top_9 (by decide) ?_
    have e9 : f_M_top p1 = (-1) := (if_pos c1).trans (rfl)
    rw [e9]
    exact sp_lret C hAe hP hK hD hS dM_top_26
def f_M_isOne (p1 : Int64) : Int32 :=
  if (lg_cmp p1 0) = 0 then 0
  else if (lg_cmp (p1 &&& (p1 - 1)) 0) = 0 then 1
  else 0
set_option maxHeartbeats 4000000 in
set_option maxRecDepth 100000 in
theorem c_M_isOne (l : Launch) (D : va_G) (p1 : Int64) : sp_M l yM_isOne wsM_isOne ({ frames := 0, cells := 0, slots := 0, locals := 0 }) D [.long p1] ([]) [] (sp_Qz D ([]) ([]) [] (f_M_isOne p1)) := by
  refine sp_ofW (cc := cM_isOne) (nL := 2) (ret := (some .boolean)) (own := RM) (by decide) rfl rfl (Nat.le_of_ble_eq_true rfl) ?_
  intro p e s m below meth c A ls hAe hnm C hA hP hK hD hS hl
  have hx := C.1
  have hb := C.2.1
  have hown := C.2.2.2.2.1
  have hts := C.2.2.2.2.2.1
  have hl : lv_has ls 2 [(0, .long p1)] := hl
  refine lv_lload_n hx hb dM_isOne_0 rfl (lv_at hl 0 rfl) ?_
  refine lv_lconst (v := 0) hx hb dM_isOne_1 (by decide) ?_
  refine W.lcmp hx hb dM_isOne_2 ?_
  refine lv_if_eq (tgt := 20) hx hb dM_isOne_3 (by decide) (fun c1 => ?_) (fun c1 => ?_)
  · refine lv_iconst (v := 0) hx hb dM_isOne_20 (by decide) ?_
    have e9 : f_M_isOne p1 = 0 := (if_pos c1).trans (rfl)
    rw [e9]
    exact sp_zret C hAe hP hK hD hS (Or.inl rfl) dM_isOne_21
  · refine lv_lload_n hx hb dM_isOne_6 rfl (lv_at hl 0 rfl) ?_
    refine lv_lload_n hx hb dM_isOne_7 rfl (lv_at hl 0 rfl) ?_
    refine lv_lconst (v := 1) hx hb dM_isOne_8 (by decide) ?_
    refine lv_lsub hx hb dM_isOne_9 ?_
    refine lv_land hx hb dM_isOne_10 ?_
    refine lv_lconst (v := 0) hx hb dM_isOne_11 (by decide) ?_
    refine W.lcmp hx hb dM_isOne_12 ?_
    refine lv_if_ne (tgt := 20) hx hb dM_isOne_13 (by decide) (fun c2 => ?_) (fun c2 => ?_)
    · refine lv_iconst (v := 0) hx hb dM_isOne_20 (by decide) ?_
      have e9 : f_M_isOne p1 = 0 := (if_neg c1).trans ((if_neg c2).trans (rfl))
      rw [e9]
      exact sp_zret C hAe hP hK hD hS (Or.inl rfl) dM_isOne_21
    · refine lv_iconst (v := 1) hx hb dM_isOne_16 (by decide) ?_
      refine lv_goto (tgt := 21) hx hb dM_isOne_17 (by decide) ?_
      have e9 : f_M_isOne p1 = 1 := (if_neg c1).trans ((if_pos c2).trans (rfl))
      rw [e9]
      exact sp_zret C hAe hP hK hD hS (Or.inr rfl) dM_isOne_21
theorem mb_int {i : Int32} (h : ¬ f_M_is i = 0) : 0 ≤ i.toInt ∧ i.toInt < 16 := by
  unfold f_M_is at h
  by_cases c1 : i < 0
  · exact absurd (if_pos c1) h
  · rw [if_neg c1] at h
    by_cases c2 : (16 : Int32) ≤ i
    · exact absurd (if_pos c2) h
    · rw [Int32.lt_iff_toInt_lt] at c1
      rw [Int32.le_iff_toInt_le] at c2
      have e0 : (0 : Int32).toInt = 0 := by decide
      have e1 : (16 : Int32).toInt = 16 := by decide
      omega
theorem mb_in {i : Int32} (h : ¬ f_M_is i = 0) : vp_in i 19 := by
  have := mb_int h
  exact vp_in_iff.mpr ⟨this.1, by omega⟩

