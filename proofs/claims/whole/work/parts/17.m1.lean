theorem dM_places_0 : decode cM_places 0 = .ok (.lload_n 0, 1) := by decide +kernel
theorem dM_places_1 : decode cM_places 1 = .ok (.lload_n 2, 1) := by decide +kernel
theorem dM_places_2 : decode cM_places 2 = .ok (.lxor, 1) := by decide +kernel
theorem dM_places_3 : decode cM_places 3 = .ok (.lstore 4, 2) := by decide +kernel
theorem dM_places_5 : decode cM_places 5 = .ok (.lconst 0, 1) := by decide +kernel
theorem dM_places_6 : decode cM_places 6 = .ok (.lstore 6, 2) := by decide +kernel
theorem dM_places_8 : decode cM_places 8 = .ok (.bipush 63, 2) := by decide +kernel
theorem dM_places_10 : decode cM_places 10 = .ok (.istore 8, 2) := by decide +kernel
theorem dM_places_12 : decode cM_places 12 = .ok (.iload 8, 2) := by decide +kernel
theorem dM_places_14 : decode cM_places 14 = .ok (.ifCond .lt 42, 3) := by decide +kernel
theorem dM_places_17 : decode cM_places 17 = .ok (.lload 6, 2) := by decide +kernel
theorem dM_places_19 : decode cM_places 19 = .ok (.lconst 0, 1) := by decide +kernel
theorem dM_places_20 : decode cM_places 20 = .ok (.lcmp, 1) := by decide +kernel
theorem dM_places_21 : decode cM_places 21 = .ok (.ifCond .ne 15, 3) := by decide +kernel
theorem dM_places_24 : decode cM_places 24 = .ok (.lload 4, 2) := by decide +kernel
theorem dM_places_26 : decode cM_places 26 = .ok (.iload 8, 2) := by decide +kernel
theorem dM_places_28 : decode cM_places 28 = .ok (.lshr, 1) := by decide +kernel
theorem dM_places_29 : decode cM_places 29 = .ok (.lconst 1, 1) := by decide +kernel
theorem dM_places_30 : decode cM_places 30 = .ok (.land, 1) := by decide +kernel
theorem dM_places_31 : decode cM_places 31 = .ok (.lconst 1, 1) := by decide +kernel
theorem dM_places_32 : decode cM_places 32 = .ok (.lcmp, 1) := by decide +kernel
theorem dM_places_33 : decode cM_places 33 = .ok (.ifCond .ne 13, 3) := by decide +kernel
theorem dM_places_36 : decode cM_places 36 = .ok (.lload 6, 2) := by decide +kernel
theorem dM_places_38 : decode cM_places 38 = .ok (.lconst 1, 1) := by decide +kernel
theorem dM_places_39 : decode cM_places 39 = .ok (.iload 8, 2) := by decide +kernel
theorem dM_places_41 : decode cM_places 41 = .ok (.lshl, 1) := by decide +kernel
theorem dM_places_42 : decode cM_places 42 = .ok (.lor, 1) := by decide +kernel
theorem dM_places_43 : decode cM_places 43 = .ok (.goto 5, 3) := by decide +kernel
theorem dM_places_46 : decode cM_places 46 = .ok (.lload 6, 2) := by decide +kernel
theorem dM_places_48 : decode cM_places 48 = .ok (.lstore 6, 2) := by decide +kernel
theorem dM_places_50 : decode cM_places 50 = .ok (.iinc 8 (-1), 3) := by decide +kernel
theorem dM_places_53 : decode cM_places 53 = .ok (.goto (-41), 3) := by decide +kernel
theorem dM_places_56 : decode cM_places 56 = .ok (.lload 6, 2) := by decide +kernel
theorem dM_places_58 : decode cM_places 58 = .ok (.lreturn, 1) := by decide +kernel
theorem dM_quotient_0 : decode cM_quotient 0 = .ok (.lconst 0, 1) := by decide +kernel
theorem dM_quotient_1 : decode cM_quotient 1 = .ok (.lstore 4, 2) := by decide +kernel
theorem dM_quotient_3 : decode cM_quotient 3 = .ok (.lconst 0, 1) := by decide +kernel
theorem dM_quotient_4 : decode cM_quotient 4 = .ok (.lstore 6, 2) := by decide +kernel
theorem dM_quotient_6 : decode cM_quotient 6 = .ok (.bipush 63, 2) := by decide +kernel
theorem dM_quotient_8 : decode cM_quotient 8 = .ok (.istore 8, 2) := by decide +kernel
theorem dM_quotient_10 : decode cM_quotient 10 = .ok (.iload 8, 2) := by decide +kernel
theorem dM_quotient_12 : decode cM_quotient 12 = .ok (.ifCond .lt 90, 3) := by decide +kernel
theorem dM_quotient_15 : decode cM_quotient 15 = .ok (.lload 6, 2) := by decide +kernel
theorem dM_quotient_17 : decode cM_quotient 17 = .ok (.lconst 0, 1) := by decide +kernel
theorem dM_quotient_18 : decode cM_quotient 18 = .ok (.lcmp, 1) := by decide +kernel
theorem dM_quotient_19 : decode cM_quotient 19 = .ok (.ifCond .ge 7, 3) := by decide +kernel
theorem dM_quotient_22 : decode cM_quotient 22 = .ok (.iconst 1, 1) := by decide +kernel
theorem dM_quotient_23 : decode cM_quotient 23 = .ok (.goto 4, 3) := by decide +kernel
theorem dM_quotient_26 : decode cM_quotient 26 = .ok (.iconst 0, 1) := by decide +kernel
theorem dM_quotient_27 : decode cM_quotient 27 = .ok (.istore 9, 2) := by decide +kernel
theorem dM_quotient_29 : decode cM_quotient 29 = .ok (.lload 6, 2) := by decide +kernel
theorem dM_quotient_31 : decode cM_quotient 31 = .ok (.iconst 1, 1) := by decide +kernel
theorem dM_quotient_32 : decode cM_quotient 32 = .ok (.lshl, 1) := by decide +kernel
theorem dM_quotient_33 : decode cM_quotient 33 = .ok (.lload_n 0, 1) := by decide +kernel
theorem dM_quotient_34 : decode cM_quotient 34 = .ok (.iload 8, 2) := by decide +kernel
theorem dM_quotient_36 : decode cM_quotient 36 = .ok (.lshr, 1) := by decide +kernel
theorem dM_quotient_37 : decode cM_quotient 37 = .ok (.lconst 1, 1) := by decide +kernel
theorem dM_quotient_38 : decode cM_quotient 38 = .ok (.land, 1) := by decide +kernel
theorem dM_quotient_39 : decode cM_quotient 39 = .ok (.lor, 1) := by decide +kernel
theorem dM_quotient_40 : decode cM_quotient 40 = .ok (.lstore 6, 2) := by decide +kernel
theorem dM_quotient_42 : decode cM_quotient 42 = .ok (.iload 9, 2) := by decide +kernel
theorem dM_quotient_44 : decode cM_quotient 44 = .ok (.ifCond .ne 12, 3) := by decide +kernel
theorem dM_quotient_47 : decode cM_quotient 47 = .ok (.lload 6, 2) := by decide +kernel
theorem dM_quotient_49 : decode cM_quotient 49 = .ok (.lload_n 2, 1) := by decide +kernel
theorem dM_quotient_50 : decode cM_quotient 50 = .ok (.invokestatic 34, 3) := by decide +kernel
theorem dM_quotient_53 : decode cM_quotient 53 = .ok (.ifCond .ne 7, 3) := by decide +kernel
theorem dM_quotient_56 : decode cM_quotient 56 = .ok (.iconst 1, 1) := by decide +kernel
theorem dM_quotient_57 : decode cM_quotient 57 = .ok (.goto 4, 3) := by decide +kernel
theorem dM_quotient_60 : decode cM_quotient 60 = .ok (.iconst 0, 1) := by decide +kernel
theorem dM_quotient_61 : decode cM_quotient 61 = .ok (.istore 10, 2) := by decide +kernel
theorem dM_quotient_63 : decode cM_quotient 63 = .ok (.lload 6, 2) := by decide +kernel
theorem dM_quotient_65 : decode cM_quotient 65 = .ok (.iload 10, 2) := by decide +kernel
theorem dM_quotient_67 : decode cM_quotient 67 = .ok (.ifCond .eq 7, 3) := by decide +kernel
theorem dM_quotient_70 : decode cM_quotient 70 = .ok (.lload_n 2, 1) := by decide +kernel
theorem dM_quotient_71 : decode cM_quotient 71 = .ok (.goto 4, 3) := by decide +kernel
theorem dM_quotient_74 : decode cM_quotient 74 = .ok (.lconst 0, 1) := by decide +kernel
theorem dM_quotient_75 : decode cM_quotient 75 = .ok (.lsub, 1) := by decide +kernel
theorem dM_quotient_76 : decode cM_quotient 76 = .ok (.lstore 6, 2) := by decide +kernel
theorem dM_quotient_78 : decode cM_quotient 78 = .ok (.lload 4, 2) := by decide +kernel
theorem dM_quotient_80 : decode cM_quotient 80 = .ok (.iload 10, 2) := by decide +kernel
theorem dM_quotient_82 : decode cM_quotient 82 = .ok (.ifCond .eq 10, 3) := by decide +kernel
theorem dM_quotient_85 : decode cM_quotient 85 = .ok (.lconst 1, 1) := by decide +kernel
theorem dM_quotient_86 : decode cM_quotient 86 = .ok (.iload 8, 2) := by decide +kernel
theorem dM_quotient_88 : decode cM_quotient 88 = .ok (.lshl, 1) := by decide +kernel
theorem dM_quotient_89 : decode cM_quotient 89 = .ok (.goto 4, 3) := by decide +kernel
theorem dM_quotient_92 : decode cM_quotient 92 = .ok (.lconst 0, 1) := by decide +kernel
theorem dM_quotient_93 : decode cM_quotient 93 = .ok (.lor, 1) := by decide +kernel
theorem dM_quotient_94 : decode cM_quotient 94 = .ok (.lstore 4, 2) := by decide +kernel
theorem dM_quotient_96 : decode cM_quotient 96 = .ok (.iinc 8 (-1), 3) := by decide +kernel
theorem dM_quotient_99 : decode cM_quotient 99 = .ok (.goto (-89), 3) := by decide +kernel
theorem dM_quotient_102 : decode cM_quotient 102 = .ok (.lload 4, 2) := by decide +kernel
theorem dM_quotient_104 : decode cM_quotient 104 = .ok (.lreturn, 1) := by decide +kernel
def fl_M_places (p1 : Int64) (p2 : Int64) (u4 : Int64) : Nat → Int64 → Int32 → Int64
  | 0, u6, u8 => u6
  | n + 1, u6, u8 => if u8 < 0 then u6
    else if (lg_cmp u6 0) = 0 then (if (lg_cmp ((u4 >>> (u8.toInt64 &&& 63)) &&& 1) 1) = 0 then (let v5 : Int64 := u6 ||| ((1 : Int64) <<< (u8.toInt64 &&& 63))
        fl_M_places p1 p2 u4 n v5 (u8 + (-1)))
      else fl_M_places p1 p2 u4 n u6 (u8 + (-1)))
    else (let v3 : Int64 := u6 ||| ((1 : Int64) <<< (u8.toInt64 &&& 63))
    fl_M_places p1 p2 u4 n v3 (u8 + (-1)))
set_option maxHeartbeats 4000000 in
set_option maxRecDepth 100000 in
theorem lp_M_places (l : Launch) (D : va_G) (p1 : Int64) (p2 : Int64) (u4 : Int64) : ∀ (n : Nat) (u6 : Int64) (u8 : Int32), u8.toInt + 1 ≤ (n : Int) → ∀ (p : Program) (e : Env) (s : State) (m : MethodId) (below : List Frame) (meth : Method) (c : Code) (A : Nat → Prop) (ls : Array Slot) (H : Heap) (locs : List Loc), A = va_A ([]) s.heap.size → sp_C p s m meth c ([.long p1, .long p2] : List Value).toArray cM_places 9 RM (some .long) wsM_places → (∀ q : Nat, s.heap.size ≤ q → A q) → va_P D vwCl ([]) H → va_K D vwCl [] s → va_D A ([]) → va_S A s.heap H locs → lv_has ls 9 [(0, .long p1), (2, .long p2), (4, .long u4), (6, .long u6), (8, .int u8)] → W p l e ({ frames := 0, cells := 0, slots := 0, locals := 0 } : Room) s m ([.long p1, .long p2] : List Value).toArray below meth c H locs 0 0 (MQ below ((sp_Ql D ([]) ([]) [] (fl_M_places p1 p2 u4 n u6 u8)) s.heap.size) ([.long p1, .long p2] : List Value).toArray s 0 0 (va_A ([]) s.heap.size)) (F0 m 12 ls []) := by
  intro n
  induction n with
  | zero =>
    intro u6 u8 hf p e s m below meth c A ls H locs hAe C hA hP hK hD hS hl
    have hz : u8 < 0 := sp_dn0 hf
    have hx := C.1
    have hb := C.2.1
    have hown := C.2.2.2.2.1
    have hts := C.2.2.2.2.2.1
    refine lv_iload hx hb dM_places_12 (lv_at hl 4 rfl) ?_
    refine lv_if_lt (tgt := 56) hx hb dM_places_14 (by decide) (fun _ => ?_) (fun h9 => absurd hz h9)
    refine lv_lload hx hb dM_places_56 (lv_at hl 3 rfl) ?_
    have e9 : fl_M_places p1 p2 u4 0 u6 u8 = u6 := rfl
    rw [e9]
    exact sp_lret C hAe hP hK hD hS dM_places_58
  | succ n ih =>
    intro u6 u8 hf p e s m below meth c A ls H locs hAe C hA hP hK hD hS hl
    have hx := C.1
    have hb := C.2.1
    have hown := C.2.2.2.2.1
    have hts := C.2.2.2.2.2.1
    refine lv_iload hx hb dM_places_12 (lv_at hl 4 rfl) ?_
    refine lv_if_lt (tgt := 56) hx hb dM_places_14 (by decide) (fun c1 => ?_) (fun c1 => ?_)
    · refine lv_lload hx hb dM_places_56 (lv_at hl 3 rfl) ?_
      have e9 : fl_M_places p1 p2 u4 (n + 1) u6 u8 = u6 := (if_pos c1).trans (rfl)
      rw [e9]
      exact sp_lret C hAe hP hK hD hS dM_places_58
    · refine lv_lload hx hb dM_places_17 (lv_at hl 3 rfl) ?_
      refine lv_lconst (v := 0) hx hb dM_places_19 (by decide) ?_
      refine W.lcmp hx hb dM_places_20 ?_
      refine lv_if_ne (tgt := 36) hx hb dM_places_21 (by decide) (fun c2 => ?_) (fun c2 => ?_)
      · refine lv_lload hx hb dM_places_36 (lv_at hl 3 rfl) ?_
        refine lv_lconst (v := 1) hx hb dM_places_38 (by decide) ?_
        refine lv_iload hx hb dM_places_39 (lv_at hl 4 rfl) ?_
        refine lv_lshl (v := (1 : Int64) <<< (u8.toInt64 &&& 63)) hx hb dM_places_41 rfl ?_
        refine lv_lor hx hb dM_places_42 ?_
        refine lv_goto (tgt := 48) hx hb dM_places_43 (by decide) ?_
        refine lv_topl (fun v3 ev3 => ?_)
        refine lv_lstore (lv' := [(6, .long v3), (0, .long p1), (2, .long p2), (4, .long u4), (8, .int u8)]) hx hb dM_places_48 hl (by decide) rfl (fun ls hl => ?_)
        refine lv_iinc (v := u8 + (-1)) (lv' := [(8, .int (u8 + (-1))), (6, .long v3), (0, .long p1), (2, .long p2), (4, .long u4)]) hx hb dM_places_50 hl (k := 4) rfl rfl (by decide) rfl (fun ls hl => ?_)
        refine lv_goto (tgt := 12) hx hb dM_places_53 (by decide) ?_
        have e9 : fl_M_places p1 p2 u4 (n + 1) u6 u8 = fl_M_places p1 p2 u4 n v3 (u8 + (-1)) := by
              subst ev3
              exact (if_neg c1).trans ((if_neg c2).trans (rfl))
        rw [e9]
        exact ih v3 (u8 + (-1)) (sp_dn c1 hf) p e s m below meth c A ls H locs hAe C hA hP hK hD hS (lv_sub hl [2, 3, 4, 1, 0] rfl)
      · refine lv_lload hx hb dM_places_24 (lv_at hl 2 rfl) ?_
        refine lv_iload hx hb dM_places_26 (lv_at hl 4 rfl) ?_
        refine lv_lshr (v := u4 >>> (u8.toInt64 &&& 63)) hx hb dM_places_28 rfl ?_
        refine lv_lconst (v := 1) hx hb dM_places_29 (by decide) ?_
        refine lv_land hx hb dM_places_30 ?_
        refine lv_lconst (v := 1) hx hb dM_places_31 (by decide) ?_
        refine W.lcmp hx hb dM_places_32 ?_
        refine lv_if_ne (tgt := 46) hx hb dM_places_33 (by decide) (fun c4 => ?_) (fun c4 => ?_)
        · refine lv_lload hx hb dM_places_46 (lv_at hl 3 rfl) ?_
          refine lv_lstore (lv' := [(6, .long u6), (0, .long p1), (2, .long p2), (4, .long u4), (8, .int u8)]) hx hb dM_places_48 hl (by decide) rfl (fun ls hl => ?_)
          refine lv_iinc (v := u8 + (-1)) (lv' := [(8, .int (u8 + (-1))), (6, .long u6), (0, .long p1), (2, .long p2), (4, .long u4)]) hx hb dM_places_50 hl (k := 4) rfl rfl (by decide) rfl (fun ls hl => ?_)
          refine lv_goto (tgt := 12) hx hb dM_places_53 (by decide) ?_
          have e9 : fl_M_places p1 p2 u4 (n + 1) u6 u8 = fl_M_places p1 p2 u4 n u6 (u8 + (-1)) := (if_neg c1).trans ((if_pos c2).trans ((if_neg c4).trans (rfl)))
          rw [e9]
          exact ih u6 (u8 + (-1)) (sp_dn c1 hf) p e s m below meth c A ls H locs hAe C hA hP hK hD hS (lv_sub hl [2, 3, 4, 1, 0] rfl)
        · refine lv_lload hx hb dM_places_36 (lv_at hl 3 rfl) ?_
          refine lv_lconst (v := 1) hx hb dM_places_38 (by decide) ?_
          refine lv_iload hx hb dM_places_39 (lv_at hl 4 rfl) ?_
          refine lv_lshl (v := (1 : Int64) <<< (u8.toInt64 &&& 63)) hx hb dM_places_41 rfl ?_
          refine lv_lor hx hb dM_places_42 ?_
          refine lv_goto (tgt := 48) hx hb dM_places_43 (by decide) ?_
          refine lv_topl (fun v5 ev5 => ?_)
          refine lv_lstore (lv' := [(6, .long v5), (0, .long p1), (2, .long p2), (4, .long u4), (8, .int u8)]) hx hb dM_places_48 hl (by decide) rfl (fun ls hl => ?_)
          refine lv_iinc (v := u8 + (-1)) (lv' := [(8, .int (u8 + (-1))), (6, .long v5), (0, .long p1), (2, .long p2), (4, .long u4)]) hx hb dM_places_50 hl (k := 4) rfl rfl (by decide) rfl (fun ls hl => ?_)
          refine lv_goto (tgt := 12) hx hb dM_places_53 (by decide) ?_
          have e9 : fl_M_places p1 p2 u4 (n + 1) u6 u8 = fl_M_places p1 p2 u4 n v5 (u8 + (-1)) := by
                subst ev5
                exact (if_neg c1).trans ((if_pos c2).trans ((if_pos c4).trans (rfl)))
          rw [e9]
          exact ih v5 (u8 + (-1)) (sp_dn c1 hf) p e s m below meth c A ls H locs hAe C hA hP hK hD hS (lv_sub hl [2, 3, 4, 1, 0] rfl)
def f_M_places (p1 : Int64) (p2 : Int64) : Int64 :=
  fl_M_places p1 p2 (p1 ^^^ p2) 64 0 63
set_option maxHeartbeats 4000000 in
set_option maxRecDepth 100000 in
theorem c_M_places (l : Launch) (D : va_G) (p1 : Int64) (p2 : Int64) : sp_M l yM_places wsM_places ({ frames := 0, cells := 0, slots := 0, locals := 0 }) D [.long p1, .long p2] ([]) [] (sp_Ql D ([]) ([]) [] (f_M_places p1 p2)) := by
  refine sp_ofW (cc := cM_places) (nL := 9) (ret := (some .long)) (own := RM) (by decide) rfl rfl (Nat.le_of_ble_eq_true rfl) ?_
  intro p e s m below meth c A ls hAe hnm C hA hP hK hD hS hl
  have hx := C.1
  have hb := C.2.1
  have hown := C.2.2.2.2.1
  have hts := C.2.2.2.2.2.1
  have hl : lv_has ls 9 [(0, .long p1), (2, .long p2)] := hl
  refine lv_lload_n hx hb dM_places_0 rfl (lv_at hl 0 rfl) ?_
  refine lv_lload_n hx hb dM_places_1 rfl (lv_at hl 1 rfl) ?_
  refine lv_lxor hx hb dM_places_2 ?_
  refine lv_lstore (lv' := [(4, .long (p1 ^^^ p2)), (0, .long p1), (2, .long p2)]) hx hb dM_places_3 hl (by decide) rfl (fun ls hl => ?_)
  refine lv_lconst (v := 0) hx hb dM_places_5 (by decide) ?_
  refine lv_lstore (lv' := [(6, .long 0), (4, .long (p1 ^^^ p2)), (0, .long p1), (2, .long p2)]) hx hb dM_places_6 hl (by decide) rfl (fun ls hl => ?_)
  refine lv_bipush (v := 63) hx hb dM_places_8 (by decide) ?_
  refine lv_istore (lv' := [(8, .int 63), (6, .long 0), (4, .long (p1 ^^^ p2)), (0, .long p1), (2, .long p2)]) hx hb dM_places_10 hl (by decide) rfl (fun ls hl => ?_)
  have e9 : f_M_places p1 p2 = fl_M_places p1 p2 (p1 ^^^ p2) 64 0 63 := rfl
  rw [e9]
  exact lp_M_places l D   p1 p2 (p1 ^^^ p2)   64 0 63 (by decide) p e s m below meth c A ls _ _ hAe C hA hP hK hD hS (lv_sub hl [3, 4, 2, 1, 0] rfl)
def fl_M_quotient (p1 : Int64) (p2 : Int64) : Nat → Int64 → Int64 → Int32 → Int64
  | 0, u4, u6, u8 => u4
  | n + 1, u4, u6, u8 => if u8 < 0 then u4
    else if 0 ≤ (lg_cmp u6 0) then (let v3 : Int64 := (u6 <<< ((1 : Int32).toInt64 &&& 63)) ||| ((p1 >>> (u8.toInt64 &&& 63)) &&& 1)
      if (f_M_below v3 p2) = 0 then (let v6 : Int64 := u4 ||| ((1 : Int64) <<< (u8.toInt64 &&& 63))
        fl_M_quotient p1 p2 n v6 (v3 - p2) (u8 + (-1)))
      else fl_M_quotient p1 p2 n (u4 ||| 0) (v3 - 0) (u8 + (-1)))
    else (let v7 : Int64 := (u6 <<< ((1 : Int32).toInt64 &&& 63)) ||| ((p1 >>> (u8.toInt64 &&& 63)) &&& 1)
    (let v8 : Int64 := u4 ||| ((1 : Int64) <<< (u8.toInt64 &&& 63))
    fl_M_quotient p1 p2 n v8 (v7 - p2) (u8 + (-1))))
set_option maxHeartbeats 4000000 in
set_option maxRecDepth 100000 in
theorem lp_M_quotient (l : Launch) (D : va_G) (p1 : Int64) (p2 : Int64) : ∀ (n : Nat) (u4 : Int64) (u6 : Int64) (u8 : Int32), u8.toInt + 1 ≤ (n : Int) → ∀ (p : Program) (e : Env) (s : State) (m : MethodId) (below : List Frame) (meth : Method) (c : Code) (A : Nat → Prop) (ls : Array Slot) (H : Heap) (locs : List Loc), A = va_A ([]) s.heap.size → sp_C p s m meth c ([.long p1, .long p2] : List Value).toArray cM_quotient 11 RM (some .long) wsM_quotient → (∀ q : Nat, s.heap.size ≤ q → A q) → va_P D vwCl ([]) H → va_K D vwCl [] s → va_D A ([]) → va_S A s.heap H locs → lv_has ls 11 [(0, .long p1), (2, .long p2), (4, .long u4), (6, .long u6), (8, .int u8)] → W p l e ({ frames := 1, cells := 0, slots := 0, locals := 23 } : Room) s m ([.long p1, .long p2] : List Value).toArray below meth c H locs 0 0 (MQ below ((sp_Ql D ([]) ([]) [] (fl_M_quotient p1 p2 n u4 u6 u8)) s.heap.size) ([.long p1, .long p2] : List Value).toArray s 0 0 (va_A ([]) s.heap.size)) (F0 m 10 ls []) := by
  intro n
  induction n with
  | zero =>
    intro u4 u6 u8 hf p e s m below meth c A ls H locs hAe C hA hP hK hD hS hl
    have hz : u8 < 0 := sp_dn0 hf
    have hx := C.1
    have hb := C.2.1
    have hown := C.2.2.2.2.1
    have hts := C.2.2.2.2.2.1
    refine lv_iload hx hb dM_quotient_10 (lv_at hl 4 rfl) ?_
    refine lv_if_lt (tgt := 102) hx hb dM_quotient_12 (by decide) (fun _ => ?_) (fun h9 => absurd hz h9)
    refine lv_lload hx hb dM_quotient_102 (lv_at hl 2 rfl) ?_
    have e9 : fl_M_quotient p1 p2 0 u4 u6 u8 = u4 := rfl
    rw [e9]
    exact sp_lret C hAe hP hK hD hS dM_quotient_104
  | succ n ih =>
    intro u4 u6 u8 hf p e s m below meth c A ls H locs hAe C hA hP hK hD hS hl
    have hx := C.1
    have hb := C.2.1
    have hown := C.2.2.2.2.1
    have hts := C.2.2.2.2.2.1
    refine lv_iload hx hb dM_quotient_10 (lv_at hl 4 rfl) ?_
    refine lv_if_lt (tgt := 102) hx hb dM_quotient_12 (by decide) (fun c1 => ?_) (fun c1 => ?_)
    · refine lv_lload hx hb dM_quotient_102 (lv_at hl 2 rfl) ?_
      have e9 : fl_M_quotient p1 p2 (n + 1) u4 u6 u8 = u4 := (if_pos c1).trans (rfl)
      rw [e9]
      exact sp_lret C hAe hP hK hD hS dM_quotient_104
    · refine lv_lload hx hb dM_quotient_15 (lv_at hl 3 rfl) ?_
      refine lv_lconst (v := 0) hx hb dM_quotient_17 (by decide) ?_
      refine W.lcmp hx hb dM_quotient_18 ?_
      refine lv_if_ge (tgt := 26) hx hb dM_quotient_19 (by decide) (fun c2 => ?_) (fun c2 => ?_)
      · refine lv_iconst (v := 0) hx hb dM_quotient_26 (by decide) ?_
        refine lv_istore (lv' := [(9, .int 0), (0, .long p1), (2, .long p2), (4, .long u4), (6, .long u6), (8, .int u8)]) hx hb dM_quotient_27 hl (by decide) rfl (fun ls hl => ?_)
        refine lv_lload hx hb dM_quotient_29 (lv_at hl 4 rfl) ?_
        refine lv_iconst (v := 1) hx hb dM_quotient_31 (by decide) ?_
        refine lv_lshl (v := u6 <<< ((1 : Int32).toInt64 &&& 63)) hx hb dM_quotient_32 rfl ?_
        refine lv_lload_n hx hb dM_quotient_33 rfl (lv_at hl 1 rfl) ?_
        refine lv_iload hx hb dM_quotient_34 (lv_at hl 5 rfl) ?_
        refine lv_lshr (v := p1 >>> (u8.toInt64 &&& 63)) hx hb dM_quotient_36 rfl ?_
        refine lv_lconst (v := 1) hx hb dM_quotient_37 (by decide) ?_
        refine lv_land hx hb dM_quotient_38 ?_
        refine lv_lor hx hb dM_quotient_39 ?_
        refine lv_topl (fun v3 ev3 => ?_)
        refine lv_lstore (lv' := [(6, .long v3), (9, .int 0), (0, .long p1), (2, .long p2), (4, .long u4), (8, .int u8)]) hx hb dM_quotient_40 hl (by decide) rfl (fun ls hl => ?_)
        refine lv_iload hx hb dM_quotient_42 (lv_at hl 1 rfl) ?_
        refine lv_if_ne (tgt := 56) hx hb dM_quotient_44 (by decide) (fun h9 => absurd h9 (by decide)) (fun _ => ?_)
        refine lv_lload hx hb dM_quotient_47 (lv_at hl 0 rfl) ?_
        refine lv_lload_n hx hb dM_quotient_49 rfl (lv_at hl 3 rfl) ?_
        refine sp_callz (sp_runS (As := [.long v3, .long p2]) (rest := []) C (c_M_below l D v3 p2) (va_cwS 2 hts (gS wG_c wm_376 wm_377 wm_378 wm_375) rfl rfl rfl (by decide +kernel) ⟨Nat.le_of_ble_eq_true rfl, Nat.le_of_ble_eq_true rfl⟩) hK hP hD [] (by decide) rfl [] rfl rfl hl.1 rfl (Nat.le_of_ble_eq_true rfl) dM_quotient_50 ⟨Nat.le_of_ble_eq_true rfl, Nat.le_of_ble_eq_true rfl⟩) hP hD hS hA [] rfl sp_f0 (fun H locs z4 hP hD hS => ?_)
        have hP : va_P D vwCl ([]) H := hP
        have hD : va_D A ([]) := hD
        refine lv_if_ne (tgt := 60) hx hb dM_quotient_53 (by decide) (fun c5 => ?_) (fun c5 => ?_)
        · refine lv_iconst (v := 0) hx hb dM_quotient_60 (by decide) ?_
          refine lv_istore (lv' := [(10, .int 0), (6, .long v3), (9, .int 0), (0, .long p1), (2, .long p2), (4, .long u4), (8, .int u8)]) hx hb dM_quotient_61 hl (by decide) rfl (fun ls hl => ?_)
          refine lv_lload hx hb dM_quotient_63 (lv_at hl 1 rfl) ?_
          refine lv_iload hx hb dM_quotient_65 (lv_at hl 0 rfl) ?_
          refine lv_if_eq (tgt := 74) hx hb dM_quotient_67 (by decide) (fun _ => ?_) (fun h9 => absurd h9 (by decide))
          refine lv_lconst (v := 0) hx hb dM_quotient_74 (by decide) ?_
          refine lv_lsub hx hb dM_quotient_75 ?_
          refine lv_lstore (lv' := [(6, .long (v3 - 0)), (10, .int 0), (9, .int 0), (0, .long p1), (2, .long p2), (4, .long u4), (8, .int u8)]) hx hb dM_quotient_76 hl (by decide) rfl (fun ls hl => ?_)
          refine lv_lload hx hb dM_quotient_78 (lv_at hl 5 rfl) ?_
          refine lv_iload hx hb dM_quotient_80 (lv_at hl 1 rfl) ?_
          refine lv_if_eq (tgt := 92) hx hb dM_quotient_82 (by decide) (fun _ => ?_) (fun h9 => absurd h9 (by decide))
          refine lv_lconst (v := 0) hx hb dM_quotient_92 (by decide) ?_
          refine lv_lor hx hb dM_quotient_93 ?_
          refine lv_lstore (lv' := [(4, .long (u4 ||| 0)), (6, .long (v3 - 0)), (10, .int 0), (9, .int 0), (0, .long p1), (2, .long p2), (8, .int u8)]) hx hb dM_quotient_94 hl (by decide) rfl (fun ls hl => ?_)
          refine lv_iinc (v := u8 + (-1)) (lv' := [(8, .int (u8 + (-1))), (4, .long (u4 ||| 0)), (6, .long (v3 - 0)), (10, .int 0), (9, .int 0), (0, .long p1), (2, .long p2)]) hx hb dM_quotient_96 hl (k := 6) rfl rfl (by decide) rfl (fun ls hl => ?_)
          refine lv_goto (tgt := 10) hx hb dM_quotient_99 (by decide) ?_
          have e9 : fl_M_quotient p1 p2 (n + 1) u4 u6 u8 = fl_M_quotient p1 p2 n (u4 ||| 0) (v3 - 0) (u8 + (-1)) := by
                subst ev3
                exact (if_neg c1).trans ((if_pos c2).trans ((if_neg c5).trans (rfl)))
          rw [e9]
          exact ih (u4 ||| 0) (v3 - 0) (u8 + (-1)) (sp_dn c1 hf) p e s m below meth c A ls H locs hAe C hA hP hK hD hS (lv_sub hl [5, 6, 1, 2, 0] rfl)
        · refine lv_iconst (v := 1) hx hb dM_quotient_56 (by decide) ?_
          refine lv_goto (tgt := 61) hx hb dM_quotient_57 (by decide) ?_
          refine lv_istore (lv' := [(10, .int 1), (6, .long v3), (9, .int 0), (0, .long p1), (2, .long p2), (4, .long u4), (8, .int u8)]) hx hb dM_quotient_61 hl (by decide) rfl (fun ls hl => ?_)
          refine lv_lload hx hb dM_quotient_63 (lv_at hl 1 rfl) ?_
          refine lv_iload hx hb dM_quotient_65 (lv_at hl 0 rfl) ?_
          refine lv_if_eq (tgt := 74) hx hb dM_quotient_67 (by decide) (fun h9 => absurd h9 (by decide)) (fun _ => ?_)
          refine lv_lload_n hx hb dM_quotient_70 rfl (lv_at hl 4 rfl) ?_
          refine lv_goto (tgt := 75) hx hb dM_quotient_71 (by decide) ?_
          refine lv_lsub hx hb dM_quotient_75 ?_
          refine lv_lstore (lv' := [(6, .long (v3 - p2)), (10, .int 1), (9, .int 0), (0, .long p1), (2, .long p2), (4, .long u4), (8, .int u8)]) hx hb dM_quotient_76 hl (by decide) rfl (fun ls hl => ?_)
          refine lv_lload hx hb dM_quotient_78 (lv_at hl 5 rfl) ?_
          refine lv_iload hx hb dM_quotient_80 (lv_at hl 1 rfl) ?_
          refine lv_if_eq (tgt := 92) hx hb dM_quotient_82 (by decide) (fun h9 => absurd h9 (by decide)) (fun _ => ?_)
          refine lv_lconst (v := 1) hx hb dM_quotient_85 (by decide) ?_
          refine lv_iload hx hb dM_quotient_86 (lv_at hl 6 rfl) ?_
          refine lv_lshl (v := (1 : Int64) <<< (u8.toInt64 &&& 63)) hx hb dM_quotient_88 rfl ?_
          refine lv_goto (tgt := 93) hx hb dM_quotient_89 (by decide) ?_
          refine lv_lor hx hb dM_quotient_93 ?_
          refine lv_topl (fun v6 ev6 => ?_)
          refine lv_lstore (lv' := [(4, .long v6), (6, .long (v3 - p2)), (10, .int 1), (9, .int 0), (0, .long p1), (2, .long p2), (8, .int u8)]) hx hb dM_quotient_94 hl (by decide) rfl (fun ls hl => ?_)
          refine lv_iinc (v := u8 + (-1)) (lv' := [(8, .int (u8 + (-1))), (4, .long v6), (6, .long (v3 - p2)), (10, .int 1), (9, .int 0), (0, .long p1), (2, .long p2)]) hx hb dM_quotient_96 hl (k := 6) rfl rfl (by decide) rfl (fun ls hl => ?_)
          refine lv_goto (tgt := 10) hx hb dM_quotient_99 (by decide) ?_
          have e9 : fl_M_quotient p1 p2 (n + 1) u4 u6 u8 = fl_M_quotient p1 p2 n v6 (v3 - p2) (u8 + (-1)) := by
                subst ev6
                subst ev3
                exact (if_neg c1).trans ((if_pos c2).trans ((if_pos c5).trans (rfl)))
          rw [e9]
          exact ih v6 (v3 - p2) (u8 + (-1)) (sp_dn c1 hf) p e s m below meth c A ls H locs hAe C hA hP hK hD hS (lv_sub hl [5, 6, 1, 2, 0] rfl)
      · refine lv_iconst (v := 1) hx hb dM_quotient_22 (by decide) ?_
        refine lv_goto (tgt := 27) hx hb dM_quotient_23 (by decide) ?_
        refine lv_istore (lv' := [(9, .int 1), (0, .long p1), (2, .long p2), (4, .long u4), (6, .long u6), (8, .int u8)]) hx hb dM_quotient_27 hl (by decide) rfl (fun ls hl => ?_)
        refine lv_lload hx hb dM_quotient_29 (lv_at hl 4 rfl) ?_
        refine lv_iconst (v := 1) hx hb dM_quotient_31 (by decide) ?_
        refine lv_lshl (v := u6 <<< ((1 : Int32).toInt64 &&& 63)) hx hb dM_quotient_32 rfl ?_
        refine lv_lload_n hx hb dM_quotient_33 rfl (lv_at hl 1 rfl) ?_
        refine lv_iload hx hb dM_quotient_34 (lv_at hl 5 rfl) ?_
        refine lv_lshr (v := p1 >>> (u8.toInt64 &&& 63)) hx hb dM_quotient_36 rfl ?_
        refine lv_lconst (v := 1) hx hb dM_quotient_37 (by decide) ?_
        refine lv_land hx hb dM_quotient_38 ?_
        refine lv_lor hx hb dM_quotient_39 ?_
        refine lv_topl (fun v7 ev7 => ?_)
        refine lv_lstore (lv' := [(6, .long v7), (9, .int 1), (0, .long p1), (2, .long p2), (4, .long u4), (8, .int u8)]) hx hb dM_quotient_40 hl (by decide) rfl (fun ls hl => ?_)
        refine lv_iload hx hb dM_quotient_42 (lv_at hl 1 rfl) ?_
        refine lv_if_ne (tgt := 56) hx hb dM_quotient_44 (by decide) (fun _ => ?_) (fun h9 => absurd h9 (by decide))
        refine lv_iconst (v := 1) hx hb dM_quotient_56 (by decide) ?_
        refine lv_goto (tgt := 61) hx hb dM_quotient_57 (by decide) ?_
        refine lv_istore (lv' := [(10, .int 1), (6, .long v7), (9, .int 1), (0, .long p1), (2, .long p2), (4, .long u4), (8, .int u8)]) hx hb dM_quotient_61 hl (by decide) rfl (fun ls hl => ?_)
        refine lv_lload hx hb dM_quotient_63 (lv_at hl 1 rfl) ?_
        refine lv_iload hx hb dM_quotient_65 (lv_at hl 0 rfl) ?_
        refine lv_if_eq (tgt := 74) hx hb dM_quotient_67 (by decide) (fun h9 => absurd h9 (by decide)) (fun _ => ?_)
        refine lv_lload_n hx hb dM_quotient_70 rfl (lv_at hl 4 rfl) ?_
        refine lv_goto (tgt := 75) hx hb dM_quotient_71 (by decide) ?_
        refine lv_lsub hx hb dM_quotient_75 ?_
        refine lv_lstore (lv' := [(6, .long (v7 - p2)), (10, .int 1), (9, .int 1), (0, .long p1), (2, .long p2), (4, .long u4), (8, .int u8)]) hx hb dM_quotient_76 hl (by decide) rfl (fun ls hl => ?_)
        refine lv_lload hx hb dM_quotient_78 (lv_at hl 5 rfl) ?_
        refine lv_iload hx hb dM_quotient_80 (lv_at hl 1 rfl) ?_
        refine lv_if_eq (tgt := 92) hx hb dM_quotient_82 (by decide) (fun h9 => absurd h9 (by decide)) (fun _ => ?_)
        refine lv_lconst (v := 1) hx hb dM_quotient_85 (by decide) ?_
        refine lv_iload hx hb dM_quotient_86 (lv_at hl 6 rfl) ?_
        refine lv_lshl (v := (1 : Int64) <<< (u8.toInt64 &&& 63)) hx hb dM_quotient_88 rfl ?_
        refine lv_goto (tgt := 93) hx hb dM_quotient_89 (by decide) ?_
        refine lv_lor hx hb dM_quotient_93 ?_
        refine lv_topl (fun v8 ev8 => ?_)
        refine lv_lstore (lv' := [(4, .long v8), (6, .long (v7 - p2)), (10, .int 1), (9, .int 1), (0, .long p1), (2, .long p2), (8, .int u8)]) hx hb dM_quotient_94 hl (by decide) rfl (fun ls hl => ?_)
        refine lv_iinc (v := u8 + (-1)) (lv' := [(8, .int (u8 + (-1))), (4, .long v8), (6, .long (v7 - p2)), (10, .int 1), (9, .int 1), (0, .long p1), (2, .long p2)]) hx hb dM_quotient_96 hl (k := 6) rfl rfl (by decide) rfl (fun ls hl => ?_)
        refine lv_goto (tgt := 10) hx hb dM_quotient_99 (by decide) ?_
        have e9 : fl_M_quotient p1 p2 (n + 1) u4 u6 u8 = fl_M_quotient p1 p2 n v8 (v7 - p2) (u8 + (-1)) := by
              subst ev8
              subst ev7
              exact (if_neg c1).trans ((if_neg c2).trans (rfl))
        rw [e9]
        exact ih v8 (v7 - p2) (u8 + (-1)) (sp_dn c1 hf) p e s m below meth c A ls H locs hAe C hA hP hK hD hS (lv_sub hl [5, 6, 1, 2, 0] rfl)
def f_M_quotient (p1 : Int64) (p2 : Int64) : Int64 :=
  fl_M_quotient p1 p2 64 0 0 63
set_option maxHeartbeats 4000000 in
set_option maxRecDepth 100000 in
theorem c_M_quotient (l : Launch) (D : va_G) (p1 : Int64) (p2 : Int64) : sp_M l yM_quotient wsM_quotient ({ frames := 1, cells := 0, slots := 0, locals := 23 }) D [.long p1, .long p2] ([]) [] (sp_Ql D ([]) ([]) [] (f_M_quotient p1 p2)) := by
  refine sp_ofW (cc := cM_quotient) (nL := 11) (ret := (some .long)) (own := RM) (by decide) rfl rfl (Nat.le_of_ble_eq_true rfl) ?_
  intro p e s m below meth c A ls hAe hnm C hA hP hK hD hS hl
  have hx := C.1
  have hb := C.2.1
  have hown := C.2.2.2.2.1
  have hts := C.2.2.2.2.2.1
  have hl : lv_has ls 11 [(0, .long p1), (2, .long p2)] := hl
  refine lv_lconst (v := 0) hx hb dM_quotient_0 (by decide) ?_
  refine lv_lstore (lv' := [(4, .long 0), (0, .long p1), (2, .long p2)]) hx hb dM_quotient_1 hl (by decide) rfl (fun ls hl => ?_)
  refine lv_lconst (v := 0) hx hb dM_quotient_3 (by decide) ?_
  refine lv_lstore (lv' := [(6, .long 0), (4, .long 0), (0, .long p1), (2, .long p2)]) hx hb dM_quotient_4 hl (by decide) rfl (fun ls hl => ?_)
  refine lv_bipush (v := 63) hx hb dM_quotient_6 (by decide) ?_
  refine lv_istore (lv' := [(8, .int 63), (6, .long 0), (4, .long 0), (0, .long p1), (2, .long p2)]) hx hb dM_quotient_8 hl (by decide) rfl (fun ls hl => ?_)
  have e9 : f_M_quotient p1 p2 = fl_M_quotient p1 p2 64 0 0 63 := rfl
  rw [e9]
  exact lp_M_quotient l D   p1 p2   64 0 0 63 (by decide) p e s m below meth c A ls _ _ hAe C hA hP hK hD hS (lv_sub hl [3, 4, 2, 1, 0] rfl)
