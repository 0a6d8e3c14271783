theorem wm_439 : (.code yM_top cM_top 1 (some .long) : Cond) ∈ wsG := wG_of 765 (by decide +kernel) (by decide +kernel)
theorem wm_440 : (.methodLink RM 106 yM_top : Cond) ∈ wsG := wG_of 763 (by decide +kernel) (by decide +kernel)
theorem wm_441 : (.static yM_top : Cond) ∈ wsG := wG_of 764 (by decide +kernel) (by decide +kernel)
theorem wm_442 : (.constantLong RM 104 255 : Cond) ∈ wsG := wG_of 762 (by decide +kernel) (by decide +kernel)
theorem dM_swap_0 : decode cM_swap 0 = .ok (.aload_n 0, 1) := by decide +kernel
theorem dM_swap_1 : decode cM_swap 1 = .ok (.bipush 16, 2) := by decide +kernel
theorem dM_swap_3 : decode cM_swap 3 = .ok (.invokevirtual 82, 3) := by decide +kernel
theorem dM_swap_6 : decode cM_swap 6 = .ok (.ifCond .eq 53, 3) := by decide +kernel
theorem dM_swap_9 : decode cM_swap 9 = .ok (.lconst 0, 1) := by decide +kernel
theorem dM_swap_10 : decode cM_swap 10 = .ok (.lstore_n 2, 1) := by decide +kernel
theorem dM_swap_11 : decode cM_swap 11 = .ok (.iconst 0, 1) := by decide +kernel
theorem dM_swap_12 : decode cM_swap 12 = .ok (.istore 4, 2) := by decide +kernel
theorem dM_swap_14 : decode cM_swap 14 = .ok (.iload 4, 2) := by decide +kernel
theorem dM_swap_16 : decode cM_swap 16 = .ok (.iload_n 1, 1) := by decide +kernel
theorem dM_swap_17 : decode cM_swap 17 = .ok (.if_icmp .ge 32, 3) := by decide +kernel
theorem dM_swap_20 : decode cM_swap 20 = .ok (.lload_n 2, 1) := by decide +kernel
theorem dM_swap_21 : decode cM_swap 21 = .ok (.bipush 8, 2) := by decide +kernel
theorem dM_swap_23 : decode cM_swap 23 = .ok (.lshl, 1) := by decide +kernel
theorem dM_swap_24 : decode cM_swap 24 = .ok (.aload_n 0, 1) := by decide +kernel
theorem dM_swap_25 : decode cM_swap 25 = .ok (.getfield 9, 3) := by decide +kernel
theorem dM_swap_28 : decode cM_swap 28 = .ok (.bipush 16, 2) := by decide +kernel
theorem dM_swap_30 : decode cM_swap 30 = .ok (.laload, 1) := by decide +kernel
theorem dM_swap_31 : decode cM_swap 31 = .ok (.bipush 8, 2) := by decide +kernel
theorem dM_swap_33 : decode cM_swap 33 = .ok (.iload 4, 2) := by decide +kernel
theorem dM_swap_35 : decode cM_swap 35 = .ok (.imul, 1) := by decide +kernel
theorem dM_swap_36 : decode cM_swap 36 = .ok (.lshr, 1) := by decide +kernel
theorem dM_swap_37 : decode cM_swap 37 = .ok (.ldc2_w 104, 3) := by decide +kernel
theorem dM_swap_40 : decode cM_swap 40 = .ok (.land, 1) := by decide +kernel
theorem dM_swap_41 : decode cM_swap 41 = .ok (.lor, 1) := by decide +kernel
theorem dM_swap_42 : decode cM_swap 42 = .ok (.lstore_n 2, 1) := by decide +kernel
theorem dM_swap_43 : decode cM_swap 43 = .ok (.iinc 4 1, 3) := by decide +kernel
theorem dM_swap_46 : decode cM_swap 46 = .ok (.goto (-32), 3) := by decide +kernel
theorem dM_swap_49 : decode cM_swap 49 = .ok (.aload_n 0, 1) := by decide +kernel
theorem dM_swap_50 : decode cM_swap 50 = .ok (.bipush 18, 2) := by decide +kernel
theorem dM_swap_52 : decode cM_swap 52 = .ok (.lload_n 2, 1) := by decide +kernel
theorem dM_swap_53 : decode cM_swap 53 = .ok (.invokevirtual 71, 3) := by decide +kernel
theorem dM_swap_56 : decode cM_swap 56 = .ok (.goto 20, 3) := by decide +kernel
theorem dM_swap_59 : decode cM_swap 59 = .ok (.iload_n 1, 1) := by decide +kernel
theorem dM_swap_60 : decode cM_swap 60 = .ok (.bipush 8, 2) := by decide +kernel
theorem dM_swap_62 : decode cM_swap 62 = .ok (.if_icmp .ge 14, 3) := by decide +kernel
theorem dM_swap_65 : decode cM_swap 65 = .ok (.aload_n 0, 1) := by decide +kernel
theorem dM_swap_66 : decode cM_swap 66 = .ok (.getfield 19, 3) := by decide +kernel
theorem dM_swap_69 : decode cM_swap 69 = .ok (.bipush 18, 2) := by decide +kernel
theorem dM_swap_71 : decode cM_swap 71 = .ok (.iload_n 1, 1) := by decide +kernel
theorem dM_swap_72 : decode cM_swap 72 = .ok (.invokestatic 106, 3) := by decide +kernel
theorem dM_swap_75 : decode cM_swap 75 = .ok (.lastore, 1) := by decide +kernel
theorem dM_swap_76 : decode cM_swap 76 = .ok (.return_, 1) := by decide +kernel
def fl_M_swap (st : Md) (p1 : Int32) : Nat → Int64 → Int32 → Md
  | 0, u2, u4 => (f_M_setExact st 18 u2)
  | n + 1, u2, u4 => if p1 ≤ u4 then (f_M_setExact st 18 u2)
    else (let v2 : Int64 := (u2 <<< ((8 : Int32).toInt64 &&& 63)) ||| (((st.1 (16 : Int32).toNatClampNeg) >>> ((8 * u4).toInt64 &&& 63)) &&& 255)
    fl_M_swap st p1 n v2 (u4 + 1))
set_option maxHeartbeats 4000000 in
set_option maxRecDepth 100000 in
theorem lp_M_swap (l : Launch) (D : va_G) (h0 : Nat) (a1 : Nat) (a2 : Nat) (a3 : Nat) (a4 : Nat) (a5 : Nat) (a6 : Nat) (cj1 cj2 cj3 cj4 cj5 cj6 : ClassId) (th : Int32) (st : Md) (p1 : Int32) (hb8 : p1.toInt ≤ (0 : Int32).toInt + ((8 : Nat) : Int)) : ∀ (n : Nat) (u2 : Int64) (u4 : Int32), p1.toInt ≤ u4.toInt + (n : Int) → ∀ (p : Program) (e : Env) (s : State) (m : MethodId) (below : List Frame) (meth : Method) (c : Code) (A : Nat → Prop) (ls : Array Slot) (H : Heap) (locs : List Loc), A = va_A ([(h0, .inr (4, [.int th, .ref a1, .ref a2, .ref a3, .ref a4, .ref a5, .ref a6])), (a1, .inl (cj1, 19, .inr (.inl st.1))), (a2, .inl (cj2, 19, .inr (.inl st.2.1))), (a3, .inl (cj3, 19, .inr (.inl st.2.2.1))), (a4, .inl (cj4, 19, .inr (.inl st.2.2.2.1))), (a5, .inl (cj5, 19, .inr (.inl st.2.2.2.2.1))), (a6, .inl (cj6, 19, .inr (.inl st.2.2.2.2.2)))]) s.heap.size → sp_C p s m meth c ([.ref h0, .int p1] : List Value).toArray cM_swap 5 RM none wsM_swap → (∀ q : Nat, s.heap.size ≤ q → A q) → va_P D vwCl ([(h0, .inr (4, [.int th, .ref a1, .ref a2, .ref a3, .ref a4, .ref a5, .ref a6])), (a1, .inl (cj1, 19, .inr (.inl st.1))), (a2, .inl (cj2, 19, .inr (.inl st.2.1))), (a3, .inl (cj3, 19, .inr (.inl st.2.2.1))), (a4, .inl (cj4, 19, .inr (.inl st.2.2.2.1))), (a5, .inl (cj5, 19, .inr (.inl st.2.2.2.2.1))), (a6, .inl (cj6, 19, .inr (.inl st.2.2.2.2.2)))]) H → va_K D vwCl [(cj1, .long), (cj2, .long), (cj3, .long), (cj4, .long), (cj5, .long), (cj6, .long)] s → va_D A ([(h0, .inr (4, [.int th, .ref a1, .ref a2, .ref a3, .ref a4, .ref a5, .ref a6])), (a1, .inl (cj1, 19, .inr (.inl st.1))), (a2, .inl (cj2, 19, .inr (.inl st.2.1))), (a3, .inl (cj3, 19, .inr (.inl st.2.2.1))), (a4, .inl (cj4, 19, .inr (.inl st.2.2.2.1))), (a5, .inl (cj5, 19, .inr (.inl st.2.2.2.2.1))), (a6, .inl (cj6, 19, .inr (.inl st.2.2.2.2.2)))]) → va_S A s.heap H locs → lv_has ls 5 [(0, .ref h0), (1, .int p1), (2, .long u2), (4, .int u4)] → W p l e ({ frames := 1, cells := 0, slots := 0, locals := 23 } : Room) s m ([.ref h0, .int p1] : List Value).toArray below meth c H locs 0 0 (MQ below ((sp_Qv D ([(h0, .inr (4, [.int th, .ref a1, .ref a2, .ref a3, .ref a4, .ref a5, .ref a6])), (a1, .inl (cj1, 19, .inr (.inl st.1))), (a2, .inl (cj2, 19, .inr (.inl st.2.1))), (a3, .inl (cj3, 19, .inr (.inl st.2.2.1))), (a4, .inl (cj4, 19, .inr (.inl st.2.2.2.1))), (a5, .inl (cj5, 19, .inr (.inl st.2.2.2.2.1))), (a6, .inl (cj6, 19, .inr (.inl st.2.2.2.2.2)))]) ([(h0, .inr (4, [.int th, .ref a1, .ref a2, .ref a3, .ref a4, .ref a5, .ref a6])), (a1, .inl (cj1, 19, .inr (.inl ((fl_M_swap st p1 n u2 u4).1)))), (a2, .inl (cj2, 19, .inr (.inl ((fl_M_swap st p1 n u2 u4).2.1)))), (a3, .inl (cj3, 19, .inr (.inl ((fl_M_swap st p1 n u2 u4).2.2.1)))), (a4, .inl (cj4, 19, .inr (.inl ((fl_M_swap st p1 n u2 u4).2.2.2.1)))), (a5, .inl (cj5, 19, .inr (.inl ((fl_M_swap st p1 n u2 u4).2.2.2.2.1)))), (a6, .inl (cj6, 19, .inr (.inl ((fl_M_swap st p1 n u2 u4).2.2.2.2.2))))]) [(cj1, .long), (cj2, .long), (cj3, .long), (cj4, .long), (cj5, .long), (cj6, .long)]) s.heap.size) ([.ref h0, .int p1] : List Value).toArray s 0 0 (va_A ([(h0, .inr (4, [.int th, .ref a1, .ref a2, .ref a3, .ref a4, .ref a5, .ref a6])), (a1, .inl (cj1, 19, .inr (.inl st.1))), (a2, .inl (cj2, 19, .inr (.inl st.2.1))), (a3, .inl (cj3, 19, .inr (.inl st.2.2.1))), (a4, .inl (cj4, 19, .inr (.inl st.2.2.2.1))), (a5, .inl (cj5, 19, .inr (.inl st.2.2.2.2.1))), (a6, .inl (cj6, 19, .inr (.inl st.2.2.2.2.2)))]) s.heap.size)) (F0 m 14 ls []) := by
  intro n
  induction n with
  | zero =>
    intro u2 u4 hf p e s m below meth c A ls H locs hAe C hA hP hK hD hS hl
    have hz : p1 ≤ u4 := sp_up0 hf
    have hx := C.1
    have hb := C.2.1
    have hown := C.2.2.2.2.1
    have hts := C.2.2.2.2.2.1
    refine lv_iload hx hb dM_swap_14 (lv_at hl 3 rfl) ?_
    refine lv_iload_n hx hb dM_swap_16 rfl (lv_at hl 1 rfl) ?_
    refine lv_icmp_ge (tgt := 49) hx hb dM_swap_17 (by decide) (fun _ => ?_) (fun h9 => absurd hz h9)
    refine lv_aload_n hx hb dM_swap_49 rfl (lv_at hl 0 rfl) ?_
    refine lv_bipush (v := 18) hx hb dM_swap_50 (by decide) ?_
    refine lv_lload_n hx hb dM_swap_52 rfl (lv_at hl 2 rfl) ?_
    refine sp_callv (sp_runV (As := [.int 18, .long u2]) (rest := []) C (c_M_setExact l D h0 a1 a2 a3 a4 a5 a6 cj1 cj2 cj3 cj4 cj5 cj6 th st 18 u2 (vp_in_iff.mpr (by decide))) (cwV 2 hts (gV wG_c wm_427 wm_428 wm_429 wm_378 wm_426) rfl rfl rfl (by decide +kernel) ⟨Nat.le_of_ble_eq_true rfl, Nat.le_of_ble_eq_true rfl⟩) hK hP hD [0, 1, 2, 3, 4, 5, 6] (by decide) rfl [0, 1, 2, 3, 4, 5] rfl 0 4 rfl rfl rfl rfl hl.1 rfl (Nat.le_of_ble_eq_true rfl) dM_swap_53 ⟨Nat.le_of_ble_eq_true rfl, Nat.le_of_ble_eq_true rfl⟩) hP hD hS hA [0, 1, 2, 3, 4, 5, 6] rfl (sp_fc (sp_fc (sp_fc (sp_fc (sp_fc (sp_fc (sp_fc sp_f0))))))) (fun H locs hP hD hS => ?_)
    have hP : va_P D vwCl ([(h0, .inr (4, [.int th, .ref a1, .ref a2, .ref a3, .ref a4, .ref a5, .ref a6])), (a1, .inl (cj1, 19, .inr (.inl ((f_M_setExact st 18 u2).1)))), (a2, .inl (cj2, 19, .inr (.inl ((f_M_setExact st 18 u2).2.1)))), (a3, .inl (cj3, 19, .inr (.inl ((f_M_setExact st 18 u2).2.2.1)))), (a4, .inl (cj4, 19, .inr (.inl ((f_M_setExact st 18 u2).2.2.2.1)))), (a5, .inl (cj5, 19, .inr (.inl ((f_M_setExact st 18 u2).2.2.2.2.1)))), (a6, .inl (cj6, 19, .inr (.inl ((f_M_setExact st 18 u2).2.2.2.2.2))))]) H := hP
    have hD : va_D A ([(h0, .inr (4, [.int th, .ref a1, .ref a2, .ref a3, .ref a4, .ref a5, .ref a6])), (a1, .inl (cj1, 19, .inr (.inl ((f_M_setExact st 18 u2).1)))), (a2, .inl (cj2, 19, .inr (.inl ((f_M_setExact st 18 u2).2.1)))), (a3, .inl (cj3, 19, .inr (.inl ((f_M_setExact st 18 u2).2.2.1)))), (a4, .inl (cj4, 19, .inr (.inl ((f_M_setExact st 18 u2).2.2.2.1)))), (a5, .inl (cj5, 19, .inr (.inl ((f_M_setExact st 18 u2).2.2.2.2.1)))), (a6, .inl (cj6, 19, .inr (.inl ((f_M_setExact st 18 u2).2.2.2.2.2))))]) := hD
    refine lv_goto (tgt := 76) hx hb dM_swap_56 (by decide) ?_
    have e9 : fl_M_swap st p1 0 u2 u4 = (f_M_setExact st 18 u2) := rfl
    rw [e9]
    exact sp_vret C hAe hP hK hD hS dM_swap_76
  | succ n ih =>
    intro u2 u4 hf p e s m below meth c A ls H locs hAe C hA hP hK hD hS hl
    have hx := C.1
    have hb := C.2.1
    have hown := C.2.2.2.2.1
    have hts := C.2.2.2.2.2.1
    have hi4 : ∀ w ∈ u_ws RM TM 7, w ∈ wsM_swap := fun w h => List.mem_cons_of_mem _ (inM w h)
    have hk0 := hts _ (List.mem_cons_of_mem _ wm_382)
    have hk1 := hts _ (List.mem_cons_of_mem _ wm_442)
    refine lv_iload hx hb dM_swap_14 (lv_at hl 3 rfl) ?_
    refine lv_iload_n hx hb dM_swap_16 rfl (lv_at hl 1 rfl) ?_
    refine lv_icmp_ge (tgt := 49) hx hb dM_swap_17 (by decide) (fun c1 => ?_) (fun c1 => ?_)
    · refine lv_aload_n hx hb dM_swap_49 rfl (lv_at hl 0 rfl) ?_
      refine lv_bipush (v := 18) hx hb dM_swap_50 (by decide) ?_
      refine lv_lload_n hx hb dM_swap_52 rfl (lv_at hl 2 rfl) ?_
      refine sp_callv (sp_runV (As := [.int 18, .long u2]) (rest := []) C (c_M_setExact l D h0 a1 a2 a3 a4 a5 a6 cj1 cj2 cj3 cj4 cj5 cj6 th st 18 u2 (vp_in_iff.mpr (by decide))) (cwV 2 hts (gV wG_c wm_427 wm_428 wm_429 wm_378 wm_426) rfl rfl rfl (by decide +kernel) ⟨Nat.le_of_ble_eq_true rfl, Nat.le_of_ble_eq_true rfl⟩) hK hP hD [0, 1, 2, 3, 4, 5, 6] (by decide) rfl [0, 1, 2, 3, 4, 5] rfl 0 4 rfl rfl rfl rfl hl.1 rfl (Nat.le_of_ble_eq_true rfl) dM_swap_53 ⟨Nat.le_of_ble_eq_true rfl, Nat.le_of_ble_eq_true rfl⟩) hP hD hS hA [0, 1, 2, 3, 4, 5, 6] rfl (sp_fc (sp_fc (sp_fc (sp_fc (sp_fc (sp_fc (sp_fc sp_f0))))))) (fun H locs hP hD hS => ?_)
      have hP : va_P D vwCl ([(h0, .inr (4, [.int th, .ref a1, .ref a2, .ref a3, .ref a4, .ref a5, .ref a6])), (a1, .inl (cj1, 19, .inr (.inl ((f_M_setExact st 18 u2).1)))), (a2, .inl (cj2, 19, .inr (.inl ((f_M_setExact st 18 u2).2.1)))), (a3, .inl (cj3, 19, .inr (.inl ((f_M_setExact st 18 u2).2.2.1)))), (a4, .inl (cj4, 19, .inr (.inl ((f_M_setExact st 18 u2).2.2.2.1)))), (a5, .inl (cj5, 19, .inr (.inl ((f_M_setExact st 18 u2).2.2.2.2.1)))), (a6, .inl (cj6, 19, .inr (.inl ((f_M_setExact st 18 u2).2.2.2.2.2))))]) H := hP
      have hD : va_D A ([(h0, .inr (4, [.int th, .ref a1, .ref a2, .ref a3, .ref a4, .ref a5, .ref a6])), (a1, .inl (cj1, 19, .inr (.inl ((f_M_setExact st 18 u2).1)))), (a2, .inl (cj2, 19, .inr (.inl ((f_M_setExact st 18 u2).2.1)))), (a3, .inl (cj3, 19, .inr (.inl ((f_M_setExact st 18 u2).2.2.1)))), (a4, .inl (cj4, 19, .inr (.inl ((f_M_setExact st 18 u2).2.2.2.1)))), (a5, .inl (cj5, 19, .inr (.inl ((f_M_setExact st 18 u2).2.2.2.2.1)))), (a6, .inl (cj6, 19, .inr (.inl ((f_M_setExact st 18 u2).2.2.2.2.2))))]) := hD
      refine lv_goto (tgt := 76) hx hb dM_swap_56 (by decide) ?_
      have e9 : fl_M_swap st p1 (n + 1) u2 u4 = (f_M_setExact st 18 u2) := (if_pos c1).trans (rfl)
      rw [e9]
      exact sp_vret C hAe hP hK hD hS dM_swap_76
    · refine lv_lload_n hx hb dM_swap_20 rfl (lv_at hl 2 rfl) ?_
      refine lv_bipush (v := 8) hx hb dM_swap_21 (by decide) ?_
      refine lv_lshl (v := u2 <<< ((8 : Int32).toInt64 &&& 63)) hx hb dM_swap_23 rfl ?_
      refine lv_aload_n hx hb dM_swap_24 rfl (lv_at hl 0 rfl) ?_
      refine va_get (D := D) (ci := 4) (v := .ref a1) (C := RM) (T := TM) (N := 7) hx hb hts hi4 hown hK hP 0 rfl rfl 1 (by decide) hk0 (fun _ h9 => h9) rfl dM_swap_25 ?_
      refine lv_bipush (v := 16) hx hb dM_swap_28 (by decide) ?_
      refine va_lald hx hb hK hP 1 0 rfl rfl (vp_in_iff.mpr (by decide)) dM_swap_30 ?_
      refine lv_bipush (v := 8) hx hb dM_swap_31 (by decide) ?_
      refine lv_iload hx hb dM_swap_33 (lv_at hl 3 rfl) ?_
      refine lv_imul hx hb dM_swap_35 ?_
      refine lv_lshr (v := (st.1 (16 : Int32).toNatClampNeg) >>> ((8 * u4).toInt64 &&& 63)) hx hb dM_swap_36 rfl ?_
      refine lv_ldc2 (v := 255) hx hb hown hk1 dM_swap_37 ?_
      refine lv_land hx hb dM_swap_40 ?_
      refine lv_lor hx hb dM_swap_41 ?_
      refine lv_topl (fun v2 ev2 => ?_)
      refine lv_lstore_n (lv' := [(2, .long v2), (0, .ref h0), (1, .int p1), (4, .int u4)]) hx hb dM_swap_42 rfl hl (by decide) rfl (fun ls hl => ?_)
      refine lv_iinc (v := u4 + 1) (lv' := [(4, .int (u4 + 1)), (2, .long v2), (0, .ref h0), (1, .int p1)]) hx hb dM_swap_43 hl (k := 3) rfl rfl (by decide) rfl (fun ls hl => ?_)
      refine lv_goto (tgt := 14) hx hb dM_swap_46 (by decide) ?_
      have e9 : fl_M_swap st p1 (n + 1) u2 u4 = fl_M_swap st p1 n v2 (u4 + 1) := by
            subst ev2
            exact (if_neg c1).trans (rfl)
      rw [e9]
      exact ih v2 (u4 + 1) (sp_up c1 hf) p e s m below meth c A ls H locs hAe C hA hP hK hD hS (lv_sub hl [2, 3, 1, 0] rfl)
def f_M_swap (st : Md) (p1 : Int32) : Md :=
  if (f_M_isExact st 16) = 0 then (if 8 ≤ p1 then st
    else (st.1, st.2.1, st.2.2.1, vp_updL st.2.2.2.1 (18 : Int32).toNatClampNeg (f_M_top p1), st.2.2.2.2.1, st.2.2.2.2.2))
  else fl_M_swap st p1 8 0 0
set_option maxHeartbeats 4000000 in
set_option maxRecDepth 100000 in
theorem c_M_swap (l : Launch) (D : va_G) (h0 : Nat) (a1 : Nat) (a2 : Nat) (a3 : Nat) (a4 : Nat) (a5 : Nat) (a6 : Nat) (cj1 cj2 cj3 cj4 cj5 cj6 : ClassId) (th : Int32) (st : Md) (p1 : Int32) (hb8 : p1.toInt ≤ (0 : Int32).toInt + ((8 : Nat) : Int)) : sp_M l yM_swap wsM_swap ({ frames := 1, cells := 0, slots := 0, locals := 23 }) D [.ref h0, .int p1] ([(h0, .inr (4, [.int th, .ref a1, .ref a2, .ref a3, .ref a4, .ref a5, .ref a6])), (a1, .inl (cj1, 19, .inr (.inl st.1))), (a2, .inl (cj2, 19, .inr (.inl st.2.1))), (a3, .inl (cj3, 19, .inr (.inl st.2.2.1))), (a4, .inl (cj4, 19, .inr (.inl st.2.2.2.1))), (a5, .inl (cj5, 19, .inr (.inl st.2.2.2.2.1))), (a6, .inl (cj6, 19, .inr (.inl st.2.2.2.2.2)))]) [(cj1, .long), (cj2, .long), (cj3, .long), (cj4, .long), (cj5, .long), (cj6, .long)] (sp_Qv D ([(h0, .inr (4, [.int th, .ref a1, .ref a2, .ref a3, .ref a4, .ref a5, .ref a6])), (a1, .inl (cj1, 19, .inr (.inl st.1))), (a2, .inl (cj2, 19, .inr (.inl st.2.1))), (a3, .inl (cj3, 19, .inr (.inl st.2.2.1))), (a4, .inl (cj4, 19, .inr (.inl st.2.2.2.1))), (a5, .inl (cj5, 19, .inr (.inl st.2.2.2.2.1))), (a6, .inl (cj6, 19, .inr (.inl st.2.2.2.2.2)))]) ([(h0, .inr (4, [.int th, .ref a1, .ref a2, .ref a3, .ref a4, .ref a5, .ref a6])), (a1, .inl (cj1, 19, .inr (.inl ((f_M_swap st p1).1)))), (a2, .inl (cj2, 19, .inr (.inl ((f_M_swap st p1).2.1)))), (a3, .inl (cj3, 19, .inr (.inl ((f_M_swap st p1).2.2.1)))), (a4, .inl (cj4, 19, .inr (.inl ((f_M_swap st p1).2.2.2.1)))), (a5, .inl (cj5, 19, .inr (.inl ((f_M_swap st p1).2.2.2.2.1)))), (a6, .inl (cj6, 19, .inr (.inl ((f_M_swap st p1).2.2.2.2.2))))]) [(cj1, .long), (cj2, .long), (cj3, .long), (cj4, .long), (cj5, .long), (cj6, .long)]) := by
  refine sp_ofW (cc := cM_swap) (nL := 5) (ret := none) (own := RM) (by decide) rfl rfl (Nat.le_of_ble_eq_true rfl) ?_
  intro p e s m below meth c A ls hAe hnm C hA hP hK hD hS hl
  have hx := C.1
  have hb := C.2.1
  have hown := C.2.2.2.2.1
  have hts := C.2.2.2.2.2.1
  have hl : lv_has ls 5 [(0, .ref h0), (1, .int p1)] := hl
  have hi4 : ∀ w ∈ u_ws RM TM 7, w ∈ wsM_swap := fun w h => List.mem_cons_of_mem _ (inM w h)
  have hk0 := hts _ (List.mem_cons_of_mem _ wm_385)
  refine lv_aload_n hx hb dM_swap_0 rfl (lv_at hl 0 rfl) ?_
  refine lv_bipush (v := 16) hx hb dM_swap_1 (by decide) ?_
  refine sp_callz (sp_runV (As := [.int 16]) (rest := []) C (c_M_isExact l D h0 a1 a2 a3 a4 a5 a6 cj1 cj2 cj3 cj4 cj5 cj6 th st 16 (vp_in_iff.mpr (by decide))) (cwV 1 hts (gV wG_c wm_419 wm_420 wm_421 wm_378 wm_418) rfl rfl rfl (by decide +kernel) ⟨Nat.le_of_ble_eq_true rfl, Nat.le_of_ble_eq_true rfl⟩) hK hP hD [0, 1, 2, 3, 4, 5, 6] (by decide) rfl [0, 1, 2, 3, 4, 5] rfl 0 4 rfl rfl rfl rfl hl.1 rfl (Nat.le_of_ble_eq_true rfl) dM_swap_3 ⟨Nat.le_of_ble_eq_true rfl, Nat.le_of_ble_eq_true rfl⟩) hP hD hS hA [0, 1, 2, 3, 4, 5, 6] rfl (sp_fc (sp_fc (sp_fc (sp_fc (sp_fc (sp_fc (sp_fc sp_f0))))))) (fun H locs z1 hP hD hS => ?_)
  have hP : va_P D vwCl ([(h0, .inr (4, [.int th, .ref a1, .ref a2, .ref a3, .ref a4, .ref a5, .ref a6])), (a1, .inl (cj1, 19, .inr (.inl st.1))), (a2, .inl (cj2, 19, .inr (.inl st.2.1))), (a3, .inl (cj3, 19, .inr (.inl st.2.2.1))), (a4, .inl (cj4, 19, .inr (.inl st.2.2.2.1))), (a5, .inl (cj5, 19, .inr (.inl st.2.2.2.2.1))), (a6, .inl (cj6, 19, .inr (.inl st.2.2.2.2.2)))]) H := hP
  have hD : va_D A ([(h0, .inr (4, [.int th, .ref a1, .ref a2, .ref a3, .ref a4, .ref a5, .ref a6])), (a1, .inl (cj1, 19, .inr (.inl st.1))), (a2, .inl (cj2, 19, .inr (.inl st.2.1))), (a3, .inl (cj3, 19, .inr (.inl st.2.2.1))), (a4, .inl (cj4, 19, .inr (.inl st.2.2.2.1))), (a5, .inl (cj5, 19, .inr (.inl st.2.2.2.2.1))), (a6, .inl (cj6, 19, .inr (.inl st.2.2.2.2.2)))]) := hD
  refine lv_if_eq (tgt := 59) hx hb dM_swap_6 (by decide) (fun c2 => ?_) (fun c2 => ?_)
  · refine lv_iload_n hx hb dM_swap_59 rfl (lv_at hl 1 rfl) ?_
    refine lv_bipush (v := 8) hx hb dM_swap_60 (by decide) ?_
    refine lv_icmp_ge (tgt := 76) hx hb dM_swap_62 (by decide) (fun c3 => ?_) (fun c3 => ?_)
    · have e9 : f_M_swap st p1 = st := (if_pos c2).trans ((if_pos c3).trans (rfl))
      rw [e9]
      exact sp_vret C hAe hP hK hD hS dM_swap_76
    · refine lv_aload_n hx hb dM_swap_65 rfl (lv_at hl 0 rfl) ?_
      refine va_get (D := D) (ci := 4) (v := .ref a4) (C := RM) (T := TM) (N := 7) hx hb hts hi4 hown hK hP 0 rfl rfl 4 (by decide) hk0 (fun _ h9 => h9) rfl dM_swap_66 ?_
      refine lv_bipush (v := 18) hx hb dM_swap_69 (by decide) ?_
      refine lv_iload_n hx hb dM_swap_71 rfl (lv_at hl 1 rfl) ?_
      refine sp_calll (sp_runS (As := [.int p1]) (rest := [.int 18, .ref a4]) C (c_M_top l D p1) (va_cwS 1 hts (gS wG_c wm_440 wm_441 wm_378 wm_439) rfl rfl rfl (by decide +kernel) ⟨Nat.le_of_ble_eq_true rfl, Nat.le_of_ble_eq_true rfl⟩) hK hP hD [] (by decide) rfl [] rfl rfl hl.1 rfl (Nat.le_of_ble_eq_true rfl) dM_swap_72 ⟨Nat.le_of_ble_eq_true rfl, Nat.le_of_ble_eq_true rfl⟩) hP hD hS hA [] rfl sp_f0 (fun H locs hP hD hS => ?_)
      have hP : va_P D vwCl ([(h0, .inr (4, [.int th, .ref a1, .ref a2, .ref a3, .ref a4, .ref a5, .ref a6])), (a1, .inl (cj1, 19, .inr (.inl st.1))), (a2, .inl (cj2, 19, .inr (.inl st.2.1))), (a3, .inl (cj3, 19, .inr (.inl st.2.2.1))), (a4, .inl (cj4, 19, .inr (.inl st.2.2.2.1))), (a5, .inl (cj5, 19, .inr (.inl st.2.2.2.2.1))), (a6, .inl (cj6, 19, .inr (.inl st.2.2.2.2.2)))]) H := hP
      have hD : va_D A ([(h0, .inr (4, [.int th, .ref a1, .ref a2, .ref a3, .ref a4, .ref a5, .ref a6])), (a1, .inl (cj1, 19, .inr (.inl st.1))), (a2, .inl (cj2, 19, .inr (.inl st.2.1))), (a3, .inl (cj3, 19, .inr (.inl st.2.2.1))), (a4, .inl (cj4, 19, .inr (.inl st.2.2.2.1))), (a5, .inl (cj5, 19, .inr (.inl st.2.2.2.2.1))), (a6, .inl (cj6, 19, .inr (.inl st.2.2.2.2.2)))]) := hD
      refine va_last hx hb hK hP hD hS 4 3 rfl rfl (vp_in_iff.mpr (by decide)) dM_swap_75 (fun H locs hP hD hS => ?_)
      have hP : va_P D vwCl ([(h0, .inr (4, [.int th, .ref a1, .ref a2, .ref a3, .ref a4, .ref a5, .ref a6])), (a1, .inl (cj1, 19, .inr (.inl st.1))), (a2, .inl (cj2, 19, .inr (.inl st.2.1))), (a3, .inl (cj3, 19, .inr (.inl st.2.2.1))), (a4, .inl (cj4, 19, .inr (.inl (vp_updL st.2.2.2.1 (18 : Int32).toNatClampNeg (f_M_top p1))))), (a5, .inl (cj5, 19, .inr (.inl st.2.2.2.2.1))), (a6, .inl (cj6, 19, .inr (.inl st.2.2.2.2.2)))]) H := hP
      have hD : va_D A ([(h0, .inr (4, [.int th, .ref a1, .ref a2, .ref a3, .ref a4, .ref a5, .ref a6])), (a1, .inl (cj1, 19, .inr (.inl st.1))), (a2, .inl (cj2, 19, .inr (.inl st.2.1))), (a3, .inl (cj3, 19, .inr (.inl st.2.2.1))), (a4, .inl (cj4, 19, .inr (.inl (vp_updL st.2.2.2.1 (18 : Int32).toNatClampNeg (f_M_top p1))))), (a5, .inl (cj5, 19, .inr (.inl st.2.2.2.2.1))), (a6, .inl (cj6, 19, .inr (.inl st.2.2.2.2.2)))]) := hD
      have e9 : f_M_swap st p1 = (st.1, st.2.1, st.2.2.1, vp_updL st.2.2.2.1 (18 : Int32).toNatClampNeg (f_M_top p1), st.2.2.2.2.1, st.2.2.2.2.2) := (if_pos c2).trans ((if_neg c3).trans (rfl))
      rw [e9]
      exact sp_vret C hAe hP hK hD hS dM_swap_76
  · refine lv_lconst (v := 0) hx hb dM_swap_9 (by decide) ?_
    refine lv_lstore_n (lv' := [(2, .long 0), (0, .ref h0), (1, .int p1)]) hx hb dM_swap_10 rfl hl (by decide) rfl (fun ls hl => ?_)
    refine lv_iconst (v := 0) hx hb dM_swap_11 (by decide) ?_
    refine lv_istore (lv' := [(4, .int 0), (2, .long 0), (0, .ref h0), (1, .int p1)]) hx hb dM_swap_12 hl (by decide) rfl (fun ls hl => ?_)
    have e9 : f_M_swap st p1 = fl_M_swap st p1 8 0 0 := (if_neg c2).trans (rfl)
    rw [e9]
    exact lp_M_swap l D h0 a1 a2 a3 a4 a5 a6 cj1 cj2 cj3 cj4 cj5 cj6 th st p1  hb8 8 0 0 hb8 p e s m below meth c A ls _ _ hAe C hA hP hK hD hS (lv_sub hl [2, 3, 1, 0] rfl)
theorem lc_eq {x y : Int64} (h : lg_cmp x y = 0) : x = y := by
  unfold lg_cmp at h
  by_cases h1 : x > y
  · rw [if_pos h1] at h
    exact absurd h (by decide)
  · rw [if_neg h1] at h
    by_cases h2 : x = y
    · exact h2
    · rw [if_neg h2] at h
      exact absurd h (by decide)
theorem mb_8 (st : Md) (i : Int32) : (f_M_bytesOf st i).toInt ≤ (0 : Int32).toInt + ((8 : Nat) : Int) := by
  unfold f_M_bytesOf
  repeat' split
  all_goals first
    | decide
    | (rename_i h; rw [lc_eq h]; decide)

