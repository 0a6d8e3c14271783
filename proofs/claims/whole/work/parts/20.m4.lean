theorem dM_zeros_0 : decode cM_zeros 0 = .ok (.iconst 0, 1) := by decide +kernel
theorem dM_zeros_1 : decode cM_zeros 1 = .ok (.istore_n 2, 1) := by decide +kernel
theorem dM_zeros_2 : decode cM_zeros 2 = .ok (.iload_n 2, 1) := by decide +kernel
theorem dM_zeros_3 : decode cM_zeros 3 = .ok (.bipush 64, 2) := by decide +kernel
theorem dM_zeros_5 : decode cM_zeros 5 = .ok (.if_icmp .ge 31, 3) := by decide +kernel
theorem dM_zeros_8 : decode cM_zeros 8 = .ok (.aload_n 0, 1) := by decide +kernel
theorem dM_zeros_9 : decode cM_zeros 9 = .ok (.getfield 9, 3) := by decide +kernel
theorem dM_zeros_12 : decode cM_zeros 12 = .ok (.iload_n 1, 1) := by decide +kernel
theorem dM_zeros_13 : decode cM_zeros 13 = .ok (.laload, 1) := by decide +kernel
theorem dM_zeros_14 : decode cM_zeros 14 = .ok (.aload_n 0, 1) := by decide +kernel
theorem dM_zeros_15 : decode cM_zeros 15 = .ok (.getfield 13, 3) := by decide +kernel
theorem dM_zeros_18 : decode cM_zeros 18 = .ok (.iload_n 1, 1) := by decide +kernel
theorem dM_zeros_19 : decode cM_zeros 19 = .ok (.laload, 1) := by decide +kernel
theorem dM_zeros_20 : decode cM_zeros 20 = .ok (.lor, 1) := by decide +kernel
theorem dM_zeros_21 : decode cM_zeros 21 = .ok (.iload_n 2, 1) := by decide +kernel
theorem dM_zeros_22 : decode cM_zeros 22 = .ok (.lshr, 1) := by decide +kernel
theorem dM_zeros_23 : decode cM_zeros 23 = .ok (.lconst 1, 1) := by decide +kernel
theorem dM_zeros_24 : decode cM_zeros 24 = .ok (.land, 1) := by decide +kernel
theorem dM_zeros_25 : decode cM_zeros 25 = .ok (.lconst 0, 1) := by decide +kernel
theorem dM_zeros_26 : decode cM_zeros 26 = .ok (.lcmp, 1) := by decide +kernel
theorem dM_zeros_27 : decode cM_zeros 27 = .ok (.ifCond .ne 9, 3) := by decide +kernel
theorem dM_zeros_30 : decode cM_zeros 30 = .ok (.iinc 2 1, 3) := by decide +kernel
theorem dM_zeros_33 : decode cM_zeros 33 = .ok (.goto (-31), 3) := by decide +kernel
theorem dM_zeros_36 : decode cM_zeros 36 = .ok (.iload_n 2, 1) := by decide +kernel
theorem dM_zeros_37 : decode cM_zeros 37 = .ok (.ireturn, 1) := by decide +kernel
def fl_M_zeros (st : Md) (p1 : Int32) : Nat → Int32 → Int32
  | 0, u2 => u2
  | n + 1, u2 => if 64 ≤ u2 then u2
    else if (lg_cmp ((((st.1 p1.toNatClampNeg) ||| (st.2.1 p1.toNatClampNeg)) >>> (u2.toInt64 &&& 63)) &&& 1) 0) = 0 then fl_M_zeros st p1 n (u2 + 1)
    else u2
set_option maxHeartbeats 4000000 in
set_option maxRecDepth 100000 in
theorem lp_M_zeros (l : Launch) (D : va_G) (h0 : Nat) (a1 : Nat) (a2 : Nat) (a3 : Nat) (a4 : Nat) (a5 : Nat) (a6 : Nat) (cj1 cj2 cj3 cj4 cj5 cj6 : ClassId) (th : Int32) (st : Md) (p1 : Int32) (hq1 : vp_in p1 19) : ∀ (n : Nat) (u2 : Int32), (64 : Int32).toInt ≤ u2.toInt + (n : Int) → ∀ (p : Program) (e : Env) (s : State) (m : MethodId) (below : List Frame) (meth : Method) (c : Code) (A : Nat → Prop) (ls : Array Slot) (H : Heap) (locs : List Loc), A = va_A ([(h0, .inr (4, [.int th, .ref a1, .ref a2, .ref a3, .ref a4, .ref a5, .ref a6])), (a1, .inl (cj1, 19, .inr (.inl st.1))), (a2, .inl (cj2, 19, .inr (.inl st.2.1))), (a3, .inl (cj3, 19, .inr (.inl st.2.2.1))), (a4, .inl (cj4, 19, .inr (.inl st.2.2.2.1))), (a5, .inl (cj5, 19, .inr (.inl st.2.2.2.2.1))), (a6, .inl (cj6, 19, .inr (.inl st.2.2.2.2.2)))]) s.heap.size → sp_C p s m meth c ([.ref h0, .int p1] : List Value).toArray cM_zeros 3 RM (some .int) wsM_zeros → (∀ q : Nat, s.heap.size ≤ q → A q) → va_P D vwCl ([(h0, .inr (4, [.int th, .ref a1, .ref a2, .ref a3, .ref a4, .ref a5, .ref a6])), (a1, .inl (cj1, 19, .inr (.inl st.1))), (a2, .inl (cj2, 19, .inr (.inl st.2.1))), (a3, .inl (cj3, 19, .inr (.inl st.2.2.1))), (a4, .inl (cj4, 19, .inr (.inl st.2.2.2.1))), (a5, .inl (cj5, 19, .inr (.inl st.2.2.2.2.1))), (a6, .inl (cj6, 19, .inr (.inl st.2.2.2.2.2)))]) H → va_K D vwCl [(cj1, .long), (cj2, .long), (cj3, .long), (cj4, .long), (cj5, .long), (cj6, .long)] s → va_D A ([(h0, .inr (4, [.int th, .ref a1, .ref a2, .ref a3, .ref a4, .ref a5, .ref a6])), (a1, .inl (cj1, 19, .inr (.inl st.1))), (a2, .inl (cj2, 19, .inr (.inl st.2.1))), (a3, .inl (cj3, 19, .inr (.inl st.2.2.1))), (a4, .inl (cj4, 19, .inr (.inl st.2.2.2.1))), (a5, .inl (cj5, 19, .inr (.inl st.2.2.2.2.1))), (a6, .inl (cj6, 19, .inr (.inl st.2.2.2.2.2)))]) → va_S A s.heap H locs → lv_has ls 3 [(0, .ref h0), (1, .int p1), (2, .int u2)] → W p l e ({ frames := 0, cells := 0, slots := 0, locals := 0 } : Room) s m ([.ref h0, .int p1] : List Value).toArray below meth c H locs 0 0 (MQ below ((sp_Qi D ([(h0, .inr (4, [.int th, .ref a1, .ref a2, .ref a3, .ref a4, .ref a5, .ref a6])), (a1, .inl (cj1, 19, .inr (.inl st.1))), (a2, .inl (cj2, 19, .inr (.inl st.2.1))), (a3, .inl (cj3, 19, .inr (.inl st.2.2.1))), (a4, .inl (cj4, 19, .inr (.inl st.2.2.2.1))), (a5, .inl (cj5, 19, .inr (.inl st.2.2.2.2.1))), (a6, .inl (cj6, 19, .inr (.inl st.2.2.2.2.2)))]) ([(h0, .inr (4, [.int th, .ref a1, .ref a2, .ref a3, .ref a4, .ref a5, .ref a6])), (a1, .inl (cj1, 19, .inr (.inl st.1))), (a2, .inl (cj2, 19, .inr (.inl st.2.1))), (a3, .inl (cj3, 19, .inr (.inl st.2.2.1))), (a4, .inl (cj4, 19, .inr (.inl st.2.2.2.1))), (a5, .inl (cj5, 19, .inr (.inl st.2.2.2.2.1))), (a6, .inl (cj6, 19, .inr (.inl st.2.2.2.2.2)))]) [(cj1, .long), (cj2, .long), (cj3, .long), (cj4, .long), (cj5, .long), (cj6, .long)] (fl_M_zeros st p1 n u2)) s.heap.size) ([.ref h0, .int p1] : List Value).toArray s 0 0 (va_A ([(h0, .inr (4, [.int th, .ref a1, .ref a2, .ref a3, .ref a4, .ref a5, .ref a6])), (a1, .inl (cj1, 19, .inr (.inl st.1))), (a2, .inl (cj2, 19, .inr (.inl st.2.1))), (a3, .inl (cj3, 19, .inr (.inl st.2.2.1))), (a4, .inl (cj4, 19, .inr (.inl st.2.2.2.1))), (a5, .inl (cj5, 19, .inr (.inl st.2.2.2.2.1))), (a6, .inl (cj6, 19, .inr (.inl st.2.2.2.2.2)))]) s.heap.size)) (F0 m 2 ls []) := by
  intro n
  induction n with
  | zero =>
    intro u2 hf p e s m below meth c A ls H locs hAe C hA hP hK hD hS hl
    have hz : 64 ≤ u2 := sp_up0 hf
    have hx := C.1
    have hb := C.2.1
    have hown := C.2.2.2.2.1
    have hts := C.2.2.2.2.2.1
    refine lv_iload_n hx hb dM_zeros_2 rfl (lv_at hl 2 rfl) ?_
    refine lv_bipush (v := 64) hx hb dM_zeros_3 (by decide) ?_
    refine lv_icmp_ge (tgt := 36) hx hb dM_zeros_5 (by decide) (fun _ => ?_) (fun h9 => absurd hz h9)
    refine lv_iload_n hx hb dM_zeros_36 rfl (lv_at hl 2 rfl) ?_
    have e9 : fl_M_zeros st p1 0 u2 = u2 := rfl
    rw [e9]
    exact sp_iret C hAe hP hK hD hS dM_zeros_37
  | succ n ih =>
    intro u2 hf p e s m below meth c A ls H locs hAe C hA hP hK hD hS hl
    have hx := C.1
    have hb := C.2.1
    have hown := C.2.2.2.2.1
    have hts := C.2.2.2.2.2.1
    have hi4 : ∀ w ∈ u_ws RM TM 7, w ∈ wsM_zeros := fun w h => List.mem_cons_of_mem _ (inM w h)
    have hk0 := hts _ (List.mem_cons_of_mem _ wm_382)
    have hk1 := hts _ (List.mem_cons_of_mem _ wm_383)
    refine lv_iload_n hx hb dM_zeros_2 rfl (lv_at hl 2 rfl) ?_
    refine lv_bipush (v := 64) hx hb dM_zeros_3 (by decide) ?_
    refine lv_icmp_ge (tgt := 36) hx hb dM_zeros_5 (by decide) (fun c1 => ?_) (fun c1 => ?_)
    · refine lv_iload_n hx hb dM_zeros_36 rfl (lv_at hl 2 rfl) ?_
      have e9 : fl_M_zeros st p1 (n + 1) u2 = u2 := (if_pos c1).trans (rfl)
      rw [e9]
      exact sp_iret C hAe hP hK hD hS dM_zeros_37
    · refine lv_aload_n hx hb dM_zeros_8 rfl (lv_at hl 0 rfl) ?_
      refine va_get (D := D) (ci := 4) (v := .ref a1) (C := RM) (T := TM) (N := 7) hx hb hts hi4 hown hK hP 0 rfl rfl 1 (by decide) hk0 (fun _ h9 => h9) rfl dM_zeros_9 ?_
      refine lv_iload_n hx hb dM_zeros_12 rfl (lv_at hl 1 rfl) ?_
      refine va_lald hx hb hK hP 1 0 rfl rfl hq1 dM_zeros_13 ?_
      refine lv_aload_n hx hb dM_zeros_14 rfl (lv_at hl 0 rfl) ?_
      refine va_get (D := D) (ci := 4) (v := .ref a2) (C := RM) (T := TM) (N := 7) hx hb hts hi4 hown hK hP 0 rfl rfl 2 (by decide) hk1 (fun _ h9 => h9) rfl dM_zeros_15 ?_
      refine lv_iload_n hx hb dM_zeros_18 rfl (lv_at hl 1 rfl) ?_
      refine va_lald hx hb hK hP 2 1 rfl rfl hq1 dM_zeros_19 ?_
      refine lv_lor hx hb dM_zeros_20 ?_
      refine lv_iload_n hx hb dM_zeros_21 rfl (lv_at hl 2 rfl) ?_
      refine lv_lshr (v := ((st.1 p1.toNatClampNeg) ||| (st.2.1 p1.toNatClampNeg)) >>> (u2.toInt64 &&& 63)) hx hb dM_zeros_22 rfl ?_
      refine lv_lconst (v := 1) hx hb dM_zeros_23 (by decide) ?_
      refine lv_land hx hb dM_zeros_24 ?_
      refine lv_lconst (v := 0) hx hb dM_zeros_25 (by decide) ?_
      refine W.lcmp hx hb dM_zeros_26 ?_
      refine lv_if_ne (tgt := 36) hx hb dM_zeros_27 (by decide) (fun c2 => ?_) (fun c2 => ?_)
      · refine lv_iload_n hx hb dM_zeros_36 rfl (lv_at hl 2 rfl) ?_
        have e9 : fl_M_zeros st p1 (n + 1) u2 = u2 := (if_neg c1).trans ((if_neg c2).trans (rfl))
        rw [e9]
        exact sp_iret C hAe hP hK hD hS dM_zeros_37
      · refine lv_iinc (v := u2 + 1) (lv' := [(2, .int (u2 + 1)), (0, .ref h0), (1, .int p1)]) hx hb dM_zeros_30 hl (k := 2) rfl rfl (by decide) rfl (fun ls hl => ?_)
        refine lv_goto (tgt := 2) hx hb dM_zeros_33 (by decide) ?_
        have e9 : fl_M_zeros st p1 (n + 1) u2 = fl_M_zeros st p1 n (u2 + 1) := (if_neg c1).trans ((if_pos c2).trans (rfl))
        rw [e9]
        exact ih (u2 + 1) (sp_up c1 hf) p e s m below meth c A ls H locs hAe C hA hP hK hD hS (lv_sub hl [1, 2, 0] rfl)
def f_M_zeros (st : Md) (p1 : Int32) : Int32 :=
  fl_M_zeros st p1 64 0
set_option maxHeartbeats 4000000 in
set_option maxRecDepth 100000 in
theorem c_M_zeros (l : Launch) (D : va_G) (h0 : Nat) (a1 : Nat) (a2 : Nat) (a3 : Nat) (a4 : Nat) (a5 : Nat) (a6 : Nat) (cj1 cj2 cj3 cj4 cj5 cj6 : ClassId) (th : Int32) (st : Md) (p1 : Int32) (hq1 : vp_in p1 19) : sp_M l yM_zeros wsM_zeros ({ frames := 0, cells := 0, slots := 0, locals := 0 }) D [.ref h0, .int p1] ([(h0, .inr (4, [.int th, .ref a1, .ref a2, .ref a3, .ref a4, .ref a5, .ref a6])), (a1, .inl (cj1, 19, .inr (.inl st.1))), (a2, .inl (cj2, 19, .inr (.inl st.2.1))), (a3, .inl (cj3, 19, .inr (.inl st.2.2.1))), (a4, .inl (cj4, 19, .inr (.inl st.2.2.2.1))), (a5, .inl (cj5, 19, .inr (.inl st.2.2.2.2.1))), (a6, .inl (cj6, 19, .inr (.inl st.2.2.2.2.2)))]) [(cj1, .long), (cj2, .long), (cj3, .long), (cj4, .long), (cj5, .long), (cj6, .long)] (sp_Qi D ([(h0, .inr (4, [.int th, .ref a1, .ref a2, .ref a3, .ref a4, .ref a5, .ref a6])), (a1, .inl (cj1, 19, .inr (.inl st.1))), (a2, .inl (cj2, 19, .inr (.inl st.2.1))), (a3, .inl (cj3, 19, .inr (.inl st.2.2.1))), (a4, .inl (cj4, 19, .inr (.inl st.2.2.2.1))), (a5, .inl (cj5, 19, .inr (.inl st.2.2.2.2.1))), (a6, .inl (cj6, 19, .inr (.inl st.2.2.2.2.2)))]) ([(h0, .inr (4, [.int th, .ref a1, .ref a2, .ref a3, .ref a4, .ref a5, .ref a6])), (a1, .inl (cj1, 19, .inr (.inl st.1))), (a2, .inl (cj2, 19, .inr (.inl st.2.1))), (a3, .inl (cj3, 19, .inr (.inl st.2.2.1))), (a4, .inl (cj4, 19, .inr (.inl st.2.2.2.1))), (a5, .inl (cj5, 19, .inr (.inl st.2.2.2.2.1))), (a6, .inl (cj6, 19, .inr (.inl st.2.2.2.2.2)))]) [(cj1, .long), (cj2, .long), (cj3, .long), (cj4, .long), (cj5, .long), (cj6, .long)] (f_M_zeros st p1)) := by
  refine sp_ofW (cc := cM_zeros) (nL := 3) (ret := (some .int)) (own := RM) (by decide) rfl rfl (Nat.le_of_ble_eq_true rfl) ?_
  intro p e s m below meth c A ls hAe hnm C hA hP hK hD hS hl
  have hx := C.1
  have hb := C.2.1
  have hown := C.2.2.2.2.1
  have hts := C.2.2.2.2.2.1
  have hl : lv_has ls 3 [(0, .ref h0), (1, .int p1)] := hl
  refine lv_iconst (v := 0) hx hb dM_zeros_0 (by decide) ?_
  refine lv_istore_n (lv' := [(2, .int 0), (0, .ref h0), (1, .int p1)]) hx hb dM_zeros_1 rfl hl (by decide) rfl (fun ls hl => ?_)
  have e9 : f_M_zeros st p1 = fl_M_zeros st p1 64 0 := rfl
  rw [e9]
  exact lp_M_zeros l D h0 a1 a2 a3 a4 a5 a6 cj1 cj2 cj3 cj4 cj5 cj6 th st p1 hq1  64 0 (by decide) p e s m below meth c A ls _ _ hAe C hA hP hK hD hS (lv_sub hl [1, 2, 0] rfl)
