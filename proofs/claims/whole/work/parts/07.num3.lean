theorem wm_78 : (.code yX1_boundByBits cX1_boundByBits 1 none : Cond) ∈ wsG := wG_of 215 (by decide +kernel) (by decide +kernel)
theorem wm_79 : (.methodLink RX1 65 yX1_boundByBits : Cond) ∈ wsG := wG_of 212 (by decide +kernel) (by decide +kernel)
theorem wm_80 : (.instanceMethod yX1_boundByBits : Cond) ∈ wsG := wG_of 214 (by decide +kernel) (by decide +kernel)
theorem wm_81 : (.selects RX1 yX1_boundByBits yX1_boundByBits : Cond) ∈ wsG := wG_of 0 (by decide +kernel) (by decide +kernel)
theorem wm_82 : (.code yX1_isCrossed cX1_isCrossed 1 (some .boolean) : Cond) ∈ wsG := wG_of 235 (by decide +kernel) (by decide +kernel)
theorem wm_83 : (.methodLink RX1 68 yX1_isCrossed : Cond) ∈ wsG := wG_of 232 (by decide +kernel) (by decide +kernel)
theorem wm_84 : (.instanceMethod yX1_isCrossed : Cond) ∈ wsG := wG_of 234 (by decide +kernel) (by decide +kernel)
theorem wm_85 : (.selects RX1 yX1_isCrossed yX1_isCrossed : Cond) ∈ wsG := wG_of 1 (by decide +kernel) (by decide +kernel)
theorem wm_86 : (.code yX1_boundSignedByUnsigned cX1_boundSignedByUnsigned 1 none : Cond) ∈ wsG := wG_of 239 (by decide +kernel) (by decide +kernel)
theorem wm_87 : (.methodLink RX1 72 yX1_boundSignedByUnsigned : Cond) ∈ wsG := wG_of 236 (by decide +kernel) (by decide +kernel)
theorem wm_88 : (.instanceMethod yX1_boundSignedByUnsigned : Cond) ∈ wsG := wG_of 238 (by decide +kernel) (by decide +kernel)
theorem wm_89 : (.selects RX1 yX1_boundSignedByUnsigned yX1_boundSignedByUnsigned : Cond) ∈ wsG := wG_of 2 (by decide +kernel) (by decide +kernel)
theorem wm_90 : (.code yX1_boundUnsignedBySigned cX1_boundUnsignedBySigned 1 none : Cond) ∈ wsG := wG_of 257 (by decide +kernel) (by decide +kernel)
theorem wm_91 : (.methodLink RX1 75 yX1_boundUnsignedBySigned : Cond) ∈ wsG := wG_of 254 (by decide +kernel) (by decide +kernel)
theorem wm_92 : (.instanceMethod yX1_boundUnsignedBySigned : Cond) ∈ wsG := wG_of 256 (by decide +kernel) (by decide +kernel)
theorem wm_93 : (.selects RX1 yX1_boundUnsignedBySigned yX1_boundUnsignedBySigned : Cond) ∈ wsG := wG_of 3 (by decide +kernel) (by decide +kernel)
theorem wm_94 : (.code yX1_learnSharedHighBits cX1_learnSharedHighBits 5 (some .boolean) : Cond) ∈ wsG := wG_of 261 (by decide +kernel) (by decide +kernel)
theorem wm_95 : (.methodLink RX1 78 yX1_learnSharedHighBits : Cond) ∈ wsG := wG_of 258 (by decide +kernel) (by decide +kernel)
theorem wm_96 : (.instanceMethod yX1_learnSharedHighBits : Cond) ∈ wsG := wG_of 260 (by decide +kernel) (by decide +kernel)
theorem wm_97 : (.selects RX1 yX1_learnSharedHighBits yX1_learnSharedHighBits : Cond) ∈ wsG := wG_of 4 (by decide +kernel) (by decide +kernel)
theorem dX1_settle_0 : decode cX1_settle 0 = .ok (.iconst 0, 1) := by decide +kernel
theorem dX1_settle_1 : decode cX1_settle 1 = .ok (.istore_n 1, 1) := by decide +kernel
theorem dX1_settle_2 : decode cX1_settle 2 = .ok (.iload_n 1, 1) := by decide +kernel
theorem dX1_settle_3 : decode cX1_settle 3 = .ok (.iconst 3, 1) := by decide +kernel
theorem dX1_settle_4 : decode cX1_settle 4 = .ok (.if_icmp .ge 55, 3) := by decide +kernel
theorem dX1_settle_7 : decode cX1_settle 7 = .ok (.aload_n 0, 1) := by decide +kernel
theorem dX1_settle_8 : decode cX1_settle 8 = .ok (.invokevirtual 65, 3) := by decide +kernel
theorem dX1_settle_11 : decode cX1_settle 11 = .ok (.aload_n 0, 1) := by decide +kernel
theorem dX1_settle_12 : decode cX1_settle 12 = .ok (.invokevirtual 68, 3) := by decide +kernel
theorem dX1_settle_15 : decode cX1_settle 15 = .ok (.ifCond .eq 5, 3) := by decide +kernel
theorem dX1_settle_18 : decode cX1_settle 18 = .ok (.iconst 0, 1) := by decide +kernel
theorem dX1_settle_19 : decode cX1_settle 19 = .ok (.ireturn, 1) := by decide +kernel
theorem dX1_settle_20 : decode cX1_settle 20 = .ok (.aload_n 0, 1) := by decide +kernel
theorem dX1_settle_21 : decode cX1_settle 21 = .ok (.invokevirtual 72, 3) := by decide +kernel
theorem dX1_settle_24 : decode cX1_settle 24 = .ok (.aload_n 0, 1) := by decide +kernel
theorem dX1_settle_25 : decode cX1_settle 25 = .ok (.invokevirtual 68, 3) := by decide +kernel
theorem dX1_settle_28 : decode cX1_settle 28 = .ok (.ifCond .eq 5, 3) := by decide +kernel
theorem dX1_settle_31 : decode cX1_settle 31 = .ok (.iconst 0, 1) := by decide +kernel
theorem dX1_settle_32 : decode cX1_settle 32 = .ok (.ireturn, 1) := by decide +kernel
theorem dX1_settle_33 : decode cX1_settle 33 = .ok (.aload_n 0, 1) := by decide +kernel
theorem dX1_settle_34 : decode cX1_settle 34 = .ok (.invokevirtual 75, 3) := by decide +kernel
theorem dX1_settle_37 : decode cX1_settle 37 = .ok (.aload_n 0, 1) := by decide +kernel
theorem dX1_settle_38 : decode cX1_settle 38 = .ok (.invokevirtual 68, 3) := by decide +kernel
theorem dX1_settle_41 : decode cX1_settle 41 = .ok (.ifCond .ne 10, 3) := by decide +kernel
theorem dX1_settle_44 : decode cX1_settle 44 = .ok (.aload_n 0, 1) := by decide +kernel
theorem dX1_settle_45 : decode cX1_settle 45 = .ok (.invokevirtual 78, 3) := by decide +kernel
theorem dX1_settle_48 : decode cX1_settle 48 = .ok (.ifCond .ne 5, 3) := by decide +kernel
theorem dX1_settle_51 : decode cX1_settle 51 = .ok (.iconst 0, 1) := by decide +kernel
theorem dX1_settle_52 : decode cX1_settle 52 = .ok (.ireturn, 1) := by decide +kernel
theorem dX1_settle_53 : decode cX1_settle 53 = .ok (.iinc 1 1, 3) := by decide +kernel
theorem dX1_settle_56 : decode cX1_settle 56 = .ok (.goto (-54), 3) := by decide +kernel
theorem dX1_settle_59 : decode cX1_settle 59 = .ok (.iconst 1, 1) := by decide +kernel
theorem dX1_settle_60 : decode cX1_settle 60 = .ok (.ireturn, 1) := by decide +kernel
def f_X1_settle (n0 : Nm) : Nm × Int32 :=
  if (f_X1_isCrossed (f_X1_boundByBits n0)) = 0 then (if (f_X1_isCrossed (f_X1_boundSignedByUnsigned (f_X1_boundByBits n0))) = 0 then (if (f_X1_isCrossed (f_X1_boundUnsignedBySigned (f_X1_boundSignedByUnsigned (f_X1_boundByBits n0)))) = 0 then (if ((f_X1_learnSharedHighBits (f_X1_boundUnsignedBySigned (f_X1_boundSignedByUnsigned (f_X1_boundByBits n0)))).2) = 0 then (((f_X1_learnSharedHighBits (f_X1_boundUnsignedBySigned (f_X1_boundSignedByUnsigned (f_X1_boundByBits n0)))).1), 0)
        else if (f_X1_isCrossed (f_X1_boundByBits ((f_X1_learnSharedHighBits (f_X1_boundUnsignedBySigned (f_X1_boundSignedByUnsigned (f_X1_boundByBits n0)))).1))) = 0 then (if (f_X1_isCrossed (f_X1_boundSignedByUnsigned (f_X1_boundByBits ((f_X1_learnSharedHighBits (f_X1_boundUnsignedBySigned (f_X1_boundSignedByUnsigned (f_X1_boundByBits n0)))).1)))) = 0 then (if (f_X1_isCrossed (f_X1_boundUnsignedBySigned (f_X1_boundSignedByUnsigned (f_X1_boundByBits ((f_X1_learnSharedHighBits (f_X1_boundUnsignedBySigned (f_X1_boundSignedByUnsigned (f_X1_boundByBits n0)))).1))))) = 0 then (if ((f_X1_learnSharedHighBits (f_X1_boundUnsignedBySigned (f_X1_boundSignedByUnsigned (f_X1_boundByBits ((f_X1_learnSharedHighBits (f_X1_boundUnsignedBySigned (f_X1_boundSignedByUnsigned (f_X1_boundByBits n0)))).1))))).2) = 0 then (((f_X1_learnSharedHighBits (f_X1_boundUnsignedBySigned (f_X1_boundSignedByUnsigned (f_X1_boundByBits ((f_X1_learnSharedHighBits (f_X1_boundUnsignedBySigned (f_X1_boundSignedByUnsigned (f_X1_boundByBits n0)))).1))))).1), 0)
              else if (f_X1_isCrossed (f_X1_boundByBits ((f_X1_learnSharedHighBits (f_X1_boundUnsignedBySigned (f_X1_boundSignedByUnsigned (f_X1_boundByBits ((f_X1_learnSharedHighBits (f_X1_boundUnsignedBySigned (f_X1_boundSignedByUnsigned (f_X1_boundByBits n0)))).1))))).1))) = 0 then (if (f_X1_isCrossed (f_X1_boundSignedByUnsigned (f_X1_boundByBits ((f_X1_learnSharedHighBits (f_X1_boundUnsignedBySigned (f_X1_boundSignedByUnsigned (f_X1_boundByBits ((f_X1_learnSharedHighBits (f_X1_boundUnsignedBySigned (f_X1_boundSignedByUnsigned (f_X1_boundByBits n0)))).1))))).1)))) = 0 then (if (f_X1_isCrossed (f_X1_boundUnsignedBySigned (f_X1_boundSignedByUnsigned (f_X1_boundByBits ((f_X1_learnSharedHighBits (f_X1_boundUnsignedBySigned (f_X1_boundSignedByUnsigned (f_X1_boundByBits ((f_X1_learnSharedHighBits (f_X1_boundUnsignedBySigned (f_X1_boundSignedByUnsigned (f_X1_boundByBits n0)))).1))))).1))))) = 0 then (if ((f_X1_learnSharedHighBits (f_X1_boundUnsignedBySigned (f_X1_boundSignedByUnsigned (f_X1_boundByBits ((f_X1_learnSharedHighBits (f_X1_boundUnsignedBySigned (f_X1_boundSignedByUnsigned (f_X1_boundByBits ((f_X1_learnSharedHighBits (f_X1_boundUnsignedBySigned (f_X1_boundSignedByUnsigned (f_X1_boundByBits n0)))).1))))).1))))).2) = 0 then (((f_X1_learnSharedHighBits (f_X1_boundUnsignedBySigned (f_X1_boundSignedByUnsigned (f_X1_boundByBits ((f_X1_learnSharedHighBits (f_X1_boundUnsignedBySigned (f_X1_boundSignedByUnsigned (f_X1_boundByBits ((f_X1_learnSharedHighBits (f_X1_boundUnsignedBySigned (f_X1_boundSignedByUnsigned (f_X1_boundByBits n0)))).1))))).1))))).1), 0)
                    else (((f_X1_learnSharedHighBits (f_X1_boundUnsignedBySigned (f_X1_boundSignedByUnsigned (f_X1_boundByBits ((f_X1_learnSharedHighBits (f_X1_boundUnsignedBySigned (f_X1_boundSignedByUnsigned (f_X1_boundByBits ((f_X1_learnSharedHighBits (f_X1_boundUnsignedBySigned (f_X1_boundSignedByUnsigned (f_X1_boundByBits n0)))).1))))).1))))).1), 1))
                  else ((f_X1_boundUnsignedBySigned (f_X1_boundSignedByUnsigned (f_X1_boundByBits ((f_X1_learnSharedHighBits (f_X1_boundUnsignedBySigned (f_X1_boundSignedByUnsigned (f_X1_boundByBits ((f_X1_learnSharedHighBits (f_X1_boundUnsignedBySigned (f_X1_boundSignedByUnsigned (f_X1_boundByBits n0)))).1))))).1)))), 0))
                else ((f_X1_boundSignedByUnsigned (f_X1_boundByBits ((f_X1_learnSharedHighBits (f_X1_boundUnsignedBySigned (f_X1_boundSignedByUnsigned (f_X1_boundByBits ((f_X1_learnSharedHighBits (f_X1_boundUnsignedBySigned (f_X1_boundSignedByUnsigned (f_X1_boundByBits n0)))).1))))).1))), 0))
              else ((f_X1_boundByBits ((f_X1_learnSharedHighBits (f_X1_boundUnsignedBySigned (f_X1_boundSignedByUnsigned (f_X1_boundByBits ((f_X1_learnSharedHighBits (f_X1_boundUnsignedBySigned (f_X1_boundSignedByUnsigned (f_X1_boundByBits n0)))).1))))).1)), 0))
            else ((f_X1_boundUnsignedBySigned (f_X1_boundSignedByUnsigned (f_X1_boundByBits ((f_X1_learnSharedHighBits (f_X1_boundUnsignedBySigned (f_X1_boundSignedByUnsigned (f_X1_boundByBits n0)))).1)))), 0))
          else ((f_X1_boundSignedByUnsigned (f_X1_boundByBits ((f_X1_learnSharedHighBits (f_X1_boundUnsignedBySigned (f_X1_boundSignedByUnsigned (f_X1_boundByBits n0)))).1))), 0))
        else ((f_X1_boundByBits ((f_X1_learnSharedHighBits (f_X1_boundUnsignedBySigned (f_X1_boundSignedByUnsigned (f_X1_boundByBits n0)))).1)), 0))
      else ((f_X1_boundUnsignedBySigned (f_X1_boundSignedByUnsigned (f_X1_boundByBits n0))), 0))
    else ((f_X1_boundSignedByUnsigned (f_X1_boundByBits n0)), 0))
  else ((f_X1_boundByBits n0), 0)
set_option maxHeartbeats 4000000 in
set_option maxRecDepth 100000 in
theorem c_X1_settle (l : Launch) (D : va_G) (h0 : Nat) (n0 : Nm) : sp_M l yX1_settle wsX1_settle ({ frames := 3, cells := 0, slots := 0, locals := 67 }) D [.ref h0] ([(h0, .inr (1, nm_fs n0))]) [] (sp_Qz D ([(h0, .inr (1, nm_fs n0))]) ([(h0, .inr (1, nm_fs ((f_X1_settle n0).1)))]) [] ((f_X1_settle n0).2)) := by
  refine sp_ofW (cc := cX1_settle) (nL := 2) (ret := (some .boolean)) (own := RX1) (by decide) rfl rfl (Nat.le_of_ble_eq_true rfl) ?_
  intro p e s m below meth c A ls hAe hnm C hA hP hK hD hS hl
  have hx := C.1
  have hb := C.2.1
  have hown := C.2.2.2.2.1
  have hts := C.2.2.2.2.2.1
  have hl : lv_has ls 2 [(0, .ref h0)] := hl
  refine lv_iconst (v := 0) hx hb dX1_settle_0 (by decide) ?_
  refine lv_istore_n (lv' := [(1, .int 0), (0, .ref h0)]) hx hb dX1_settle_1 rfl hl (by decide) rfl (fun ls hl => ?_)
  refine lv_iload_n hx hb dX1_settle_2 rfl (lv_at hl 0 rfl) ?_
  refine lv_iconst (v := 3) hx hb dX1_settle_3 (by decide) ?_
  refine lv_icmp_ge (tgt := 59) hx hb dX1_settle_4 (by decide) (fun h9 => absurd h9 (by decide)) (fun _ => ?_)
  refine lv_aload_n hx hb dX1_settle_7 rfl (lv_at hl 1 rfl) ?_
  refine sp_callv (sp_runV (As := []) (rest := []) C (c_X1_boundByBits l D h0 n0) (cwV 0 hts (gV wG_c wm_79 wm_80 wm_81 wm_31 wm_78) rfl rfl rfl (by decide +kernel) ⟨Nat.le_of_ble_eq_true rfl, Nat.le_of_ble_eq_true rfl⟩) hK hP hD [0] (by decide) rfl [] rfl 0 1 rfl rfl rfl rfl hl.1 rfl (Nat.le_of_ble_eq_true rfl) dX1_settle_8 ⟨Nat.le_of_ble_eq_true rfl, Nat.le_of_ble_eq_true rfl⟩) hP hD hS hA [0] rfl (sp_fc sp_f0) (fun H locs hP hD hS => ?_)
  have hP : va_P D vwCl ([(h0, .inr (1, nm_fs (f_X1_boundByBits n0)))]) H := hP
  have hD : va_D A ([(h0, .inr (1, nm_fs (f_X1_boundByBits n0)))]) := hD
  refine lv_aload_n hx hb dX1_settle_11 rfl (lv_at hl 1 rfl) ?_
  refine sp_callz (sp_runV (As := []) (rest := []) C (c_X1_isCrossed l D h0 (f_X1_boundByBits n0)) (cwV 0 hts (gV wG_c wm_83 wm_84 wm_85 wm_31 wm_82) rfl rfl rfl (by decide +kernel) ⟨Nat.le_of_ble_eq_true rfl, Nat.le_of_ble_eq_true rfl⟩) hK hP hD [0] (by decide) rfl [] rfl 0 1 rfl rfl rfl rfl hl.1 rfl (Nat.le_of_ble_eq_true rfl) dX1_settle_12 ⟨Nat.le_of_ble_eq_true rfl, Nat.le_of_ble_eq_true rfl⟩) hP hD hS hA [0] rfl (sp_fc sp_f0) (fun H locs z1 hP hD hS => ?_)
  have hP : va_P D vwCl ([(h0, .inr (1, nm_fs (f_X1_boundByBits n0)))]) H := hP
  have hD : va_D A ([(h0, .inr (1, nm_fs (f_X1_boundByBits n0)))]) := hD
  refine lv_if_eq (tgt := 20) hx hb dX1_settle_15 (by decide) (fun c2 => ?_) (fun c2 => ?_)
  · refine lv_aload_n hx hb dX1_settle_20 rfl (lv_at hl 1 rfl) ?_
    refine sp_callv (sp_runV (As := []) (rest := []) C (c_X1_boundSignedByUnsigned l D h0 (f_X1_boundByBits n0)) (cwV 0 hts (gV wG_c wm_87 wm_88 wm_89 wm_31 wm_86) rfl rfl rfl (by decide +kernel) ⟨Nat.le_of_ble_eq_true rfl, Nat.le_of_ble_eq_true rfl⟩) hK hP hD [0] (by decide) rfl [] rfl 0 1 rfl rfl rfl rfl hl.1 rfl (Nat.le_of_ble_eq_true rfl) dX1_settle_21 ⟨Nat.le_of_ble_eq_true rfl, Nat.le_of_ble_eq_true rfl⟩) hP hD hS hA [0] rfl (sp_fc sp_f0) (fun H locs hP hD hS => ?_)
    have hP : va_P D vwCl ([(h0, .inr (1, nm_fs (f_X1_boundSignedByUnsigned (f_X1_boundByBits n0))))]) H := hP
    have hD : va_D A ([(h0, .inr (1, nm_fs (f_X1_boundSignedByUnsigned (f_X1_boundByBits n0))))]) := hD
    refine lv_aload_n hx hb dX1_settle_24 rfl (lv_at hl 1 rfl) ?_
    refine sp_callz (sp_runV (As := []) (rest := []) C (c_X1_isCrossed l D h0 (f_X1_boundSignedByUnsigned (f_X1_boundByBits n0))) (cwV 0 hts (gV wG_c wm_83 wm_84 wm_85 wm_31 wm_82) rfl rfl rfl (by decide +kernel) ⟨Nat.le_of_ble_eq_true rfl, Nat.le_of_ble_eq_true rfl⟩) hK hP hD [0] (by decide) rfl [] rfl 0 1 rfl rfl rfl rfl hl.1 rfl (Nat.le_of_ble_eq_true rfl) dX1_settle_25 ⟨Nat.le_of_ble_eq_true rfl, Nat.le_of_ble_eq_true rfl⟩) hP hD hS hA [0] rfl (sp_fc sp_f0) (fun H locs z3 hP hD hS => ?_)
    have hP : va_P D vwCl ([(h0, .inr (1, nm_fs (f_X1_boundSignedByUnsigned (f_X1_boundByBits n0))))]) H := hP
    have hD : va_D A ([(h0, .inr (1, nm_fs (f_X1_boundSignedByUnsigned (f_X1_boundByBits n0))))]) := hD
    refine lv_if_eq (tgt := 33) hx hb dX1_settle_28 (by decide) (fun c4 => ?_) (fun c4 => ?_)
    · refine lv_aload_n hx hb dX1_settle_33 rfl (lv_at hl 1 rfl) ?_
      refine sp_callv (sp_runV (As := []) (rest := []) C (c_X1_boundUnsignedBySigned l D h0 (f_X1_boundSignedByUnsigned (f_X1_boundByBits n0))) (cwV 0 hts (gV wG_c wm_91 wm_92 wm_93 wm_31 wm_90) rfl rfl rfl (by decide +kernel) ⟨Nat.le_of_ble_eq_true rfl, Nat.le_of_ble_eq_true rfl⟩) hK hP hD [0] (by decide) rfl [] rfl 0 1 rfl rfl rfl rfl hl.1 rfl (Nat.le_of_ble_eq_true rfl) dX1_settle_34 ⟨Nat.le_of_ble_eq_true rfl, Nat.le_of_ble_eq_true rfl⟩) hP hD hS hA [0] rfl (sp_fc sp_f0) (fun H locs hP hD hS => ?_)
      have hP : va_P D vwCl ([(h0, .inr (1, nm_fs (f_X1_boundUnsignedBySigned (f_X1_boundSignedByUnsigned (f_X1_boundByBits n0)))))]) H := hP
      have hD : va_D A ([(h0, .inr (1, nm_fs (f_X1_boundUnsignedBySigned (f_X1_boundSignedByUnsigned (f_X1_boundByBits n0)))))]) := hD
      refine lv_aload_n hx hb dX1_settle_37 rfl (lv_at hl 1 rfl) ?_
      refine sp_callz (sp_runV (As := []) (rest := []) C (c_X1_isCrossed l D h0 (f_X1_boundUnsignedBySigned (f_X1_boundSignedByUnsigned (f_X1_boundByBits n0)))) (cwV 0 hts (gV wG_c wm_83 wm_84 wm_85 wm_31 wm_82) rfl rfl rfl (by decide +kernel) ⟨Nat.le_of_ble_eq_true rfl, Nat.le_of_ble_eq_true rfl⟩) hK hP hD [0] (by decide) rfl [] rfl 0 1 rfl rfl rfl rfl hl.1 rfl (Nat.le_of_ble_eq_true rfl) dX1_settle_38 ⟨Nat.le_of_ble_eq_true rfl, Nat.le_of_ble_eq_true rfl⟩) hP hD hS hA [0] rfl (sp_fc sp_f0) (fun H locs z5 hP hD hS => ?_)
      have hP : va_P D vwCl ([(h0, .inr (1, nm_fs (f_X1_boundUnsignedBySigned (f_X1_boundSignedByUnsigned (f_X1_boundByBits n0)))))]) H := hP
      have hD : va_D A ([(h0, .inr (1, nm_fs (f_X1_boundUnsignedBySigned (f_X1_boundSignedByUnsigned (f_X1_boundByBits n0)))))]) := hD
      refine lv_if_ne (tgt := 51) hx hb dX1_settle_41 (by decide) (fun c6 => ?_) (fun c6 => ?_)
      · refine lv_iconst (v := 0) hx hb dX1_settle_51 (by decide) ?_
        have e9 : f_X1_settle n0 = ((f_X1_boundUnsignedBySigned (f_X1_boundSignedByUnsigned (f_X1_boundByBits n0))), 0) := (if_pos c2).trans ((if_pos c4).trans ((if_neg c6).trans (rfl)))
        rw [e9]
        exact sp_zret C hAe hP hK hD hS (Or.inl rfl) dX1_settle_52
      · refine lv_aload_n hx hb dX1_settle_44 rfl (lv_at hl 1 rfl) ?_
        refine sp_callz (sp_runV (As := []) (rest := []) C (c_X1_learnSharedHighBits l D h0 (f_X1_boundUnsignedBySigned (f_X1_boundSignedByUnsigned (f_X1_boundByBits n0)))) (cwV 0 hts (gV wG_c wm_95 wm_96 wm_97 wm_31 wm_94) rfl rfl rfl (by decide +kernel) ⟨Nat.le_of_ble_eq_true rfl, Nat.le_of_ble_eq_true rfl⟩) hK hP hD [0] (by decide) rfl [] rfl 0 1 rfl rfl rfl rfl hl.1 rfl (Nat.le_of_ble_eq_true rfl) dX1_settle_45 ⟨Nat.le_of_ble_eq_true rfl, Nat.le_of_ble_eq_true rfl⟩) hP hD hS hA [0] rfl (sp_fc sp_f0) (fun H locs z7 hP hD hS => ?_)
        have hP : va_P D vwCl ([(h0, .inr (1, nm_fs ((f_X1_learnSharedHighBits (f_X1_boundUnsignedBySigned (f_X1_boundSignedByUnsigned (f_X1_boundByBits n0)))).1)))]) H := hP
        have hD : va_D A ([(h0, .inr (1, nm_fs ((f_X1_learnSharedHighBits (f_X1_boundUnsignedBySigned (f_X1_boundSignedByUnsigned (f_X1_boundByBits n0)))).1)))]) := hD
        refine lv_if_ne (tgt := 53) hx hb dX1_settle_48 (by decide) (fun c8 => ?_) (fun c8 => ?_)
        · refine lv_iinc (v := 1) (lv' := [(1, .int 1), (0, .ref h0)]) hx hb dX1_settle_53 hl (k := 0) rfl (by decide) (by decide) rfl (fun ls hl => ?_)
          refine lv_goto (tgt := 2) hx hb dX1_settle_56 (by decide) ?_
          refine lv_iload_n hx hb dX1_settle_2 rfl (lv_at hl 0 rfl) ?_
          refine lv_iconst (v := 3) hx hb dX1_settle_3 (by decide) ?_
          refine lv_icmp_ge (tgt := 59) hx hb dX1_settle_4 (by decide) (fun h9 => absurd h9 (by decide)) (fun _ => ?_)
          refine lv_aload_n hx hb dX1_settle_7 rfl (lv_at hl 1 rfl) ?_
          refine sp_callv (sp_runV (As := []) (rest := []) C (c_X1_boundByBits l D h0 ((f_X1_learnSharedHighBits (f_X1_boundUnsignedBySigned (f_X1_boundSignedByUnsigned (f_X1_boundByBits n0)))).1)) (cwV 0 hts (gV wG_c wm_79 wm_80 wm_81 wm_31 wm_78) rfl rfl rfl (by decide +kernel) ⟨Nat.le_of_ble_eq_true rfl, Nat.le_of_ble_eq_true rfl⟩) hK hP hD [0] (by decide) rfl [] rfl 0 1 rfl rfl rfl rfl hl.1 rfl (Nat.le_of_ble_eq_true rfl) dX1_settle_8 ⟨Nat.le_of_ble_eq_true rfl, Nat.le_of_ble_eq_true rfl⟩) hP hD hS hA [0] rfl (sp_fc sp_f0) (fun H locs hP hD hS => ?_)
          have hP : va_P D vwCl ([(h0, .inr (1, nm_fs (f_X1_boundByBits ((f_X1_learnSharedHighBits (f_X1_boundUnsignedBySigned (f_X1_boundSignedByUnsigned (f_X1_boundByBits n0)))).1))))]) H := hP
          have hD : va_D A ([(h0, .inr (1, nm_fs (f_X1_boundByBits ((f_X1_learnSharedHighBits (f_X1_boundUnsignedBySigned (f_X1_boundSignedByUnsigned (f_X1_boundByBits n0)))).1))))]) := hD
          refine lv_aload_n hx hb dX1_settle_11 rfl (lv_at hl 1 rfl) ?_
          refine sp_callz (sp_runV (As := []) (rest := []) C (c_X1_isCrossed l D h0 (f_X1_boundByBits ((f_X1_learnSharedHighBits (f_X1_boundUnsignedBySigned (f_X1_boundSignedByUnsigned (f_X1_boundByBits n0)))).1))) (cwV 0 hts (gV wG_c wm_83 wm_84 wm_85 wm_31 wm_82) rfl rfl rfl (by decide +kernel) ⟨Nat.le_of_ble_eq_true rfl, Nat.le_of_ble_eq_true rfl⟩) hK hP hD [0] (by decide) rfl [] rfl 0 1 rfl rfl rfl rfl hl.1 rfl (Nat.le_of_ble_eq_true rfl) dX1_settle_12 ⟨Nat.le_of_ble_eq_true rfl, Nat.le_of_ble_eq_true rfl⟩) hP hD hS hA [0] rfl (sp_fc sp_f0) (fun H locs z9 hP hD hS => ?_)
          have hP : va_P D vwCl ([(h0, .inr (1, nm_fs (f_X1_boundByBits ((f_X1_learnSharedHighBits (f_X1_boundUnsignedBySigned (f_X1_boundSignedByUnsigned (f_X1_boundByBits n0)))).1))))]) H := hP
          have hD : va_D A ([(h0, .inr (1, nm_fs (f_X1_boundByBits ((f_X1_learnSharedHighBits (f_X1_boundUnsignedBySigned (f_X1_boundSignedByUnsigned (f_X1_boundByBits n0)))).1))))]) := hD
          refine lv_if_eq (tgt := 20) hx hb dX1_settle_15 (by decide) (fun c10 => ?_) (fun c10 => ?_)
          · refine lv_aload_n hx hb dX1_settle_20 rfl (lv_at hl 1 rfl) ?_
            refine sp_callv (sp_runV (As := []) (rest := []) C (c_X1_boundSignedByUnsigned l D h0 (f_X1_boundByBits ((f_X1_learnSharedHighBits (f_X1_boundUnsignedBySigned (f_X1_boundSignedByUnsigned (f_X1_boundByBits n0)))).1))) (cwV 0 hts (gV wG_c wm_87 wm_88 wm_89 wm_31 wm_86) rfl rfl rfl (by decide +kernel) ⟨Nat.le_of_ble_eq_true rfl, Nat.le_of_ble_eq_true rfl⟩) hK hP hD [0] (by decide) rfl [] rfl 0 1 rfl rfl rfl rfl hl.1 rfl (Nat.le_of_ble_eq_true rfl) dX1_settle_21 ⟨Nat.le_of_ble_eq_true rfl, Nat.le_of_ble_eq_true rfl⟩) hP hD hS hA [0] rfl (sp_fc sp_f0) (fun H locs hP hD hS => ?_)
            have hP : va_P D vwCl ([(h0, .inr (1, nm_fs (f_X1_boundSignedByUnsigned (f_X1_boundByBits ((f_X1_learnSharedHighBits (f_X1_boundUnsignedBySigned (f_X1_boundSignedByUnsigned (f_X1_boundByBits n0)))).1)))))]) H := hP
            have hD : va_D A ([(h0, .inr (1, nm_fs (f_X1_boundSignedByUnsigned (f_X1_boundByBits ((f_X1_learnSharedHighBits (f_X1_boundUnsignedBySigned (f_X1_boundSignedByUnsigned (f_X1_boundByBits n0)))).1)))))]) := hD
            refine lv_aload_n hx hb dX1_settle_24 rfl (lv_at hl 1 rfl) ?_
            refine sp_callz (sp_runV (As := []) (rest := []) C (c_X1_isCrossed l D h0 (f_X1_boundSignedByUnsigned (f_X1_boundByBits ((f_X1_learnSharedHighBits (f_X1_boundUnsignedBySigned (f_X1_boundSignedByUnsigned (f_X1_boundByBits n0)))).1)))) (cwV 0 hts (gV wG_c wm_83 wm_84 wm_85 wm_31 wm_82) rfl rfl rfl (by decide +kernel) ⟨Nat.le_of_ble_eq_true rfl, Nat.le_of_ble_eq_true rfl⟩) hK hP hD [0] (by decide) rfl [] rfl 0 1 rfl rfl rfl rfl hl.1 rfl (Nat.le_of_ble_eq_true rfl) dX1_settle_25 ⟨Nat.le_of_ble_eq_true rfl, Nat.le_of_ble_eq_true rfl⟩) hP hD hS hA [0] rfl (sp_fc sp_f0) (fun H locs z11 hP hD hS => ?_)
            have hP : va_P D vwCl ([(h0, .inr (1, nm_fs (f_X1_boundSignedByUnsigned (f_X1_boundByBits ((f_X1_learnSharedHighBits (f_X1_boundUnsignedBySigned (f_X1_boundSignedByUnsigned (f_X1_boundByBits n0)))).1)))))]) H := hP
            have hD : va_D A ([(h0, .inr (1, nm_fs (f_X1_boundSignedByUnsigned (f_X1_boundByBits ((f_X1_learnSharedHighBits (f_X1_boundUnsignedBySigned (f_X1_boundSignedByUnsigned (f_X1_boundByBits n0)))).1)))))]) := hD
            refine lv_if_eq (tgt := 33) hx hb dX1_settle_28 (by decide) (fun c12 => ?_) (fun c12 => ?_)
            · refine lv_aload_n hx hb dX1_settle_33 rfl (lv_at hl 1 rfl) ?_
              refine sp_callv (sp_runV (As := []) (rest := []) C (c_X1_boundUnsignedBySigned l D h0 (f_X1_boundSignedByUnsigned (f_X1_boundByBits ((f_X1_learnSharedHighBits (f_X1_boundUnsignedBySigned (f_X1_boundSignedByUnsigned (f_X1_boundByBits n0)))).1)))) (cwV 0 hts (gV wG_c wm_91 wm_92 wm_93 wm_31 wm_90) rfl rfl rfl (by decide +kernel) ⟨Nat.le_of_ble_eq_true rfl, Nat.le_of_ble_eq_true rfl⟩) hK hP hD [0] (by decide) rfl [] rfl 0 1 rfl rfl rfl rfl hl.1 rfl (Nat.le_of_ble_eq_true rfl) dX1_settle_34 ⟨Nat.le_of_ble_eq_true rfl, Nat.le_of_ble_eq_true rfl⟩) hP hD hS hA [0] rfl (sp_fc sp_f0) (fun H locs hP hD hS => ?_)
              have hP : va_P D vwCl ([(h0, .inr (1, nm_fs (f_X1_boundUnsignedBySigned (f_X1_boundSignedByUnsigned (f_X1_boundByBits ((f_X1_learnSharedHighBits (f_X1_boundUnsignedBySigned (f_X1_boundSignedByUnsigned (f_X1_boundByBits n0)))).1))))))]) H := hP
              have hD : va_D A ([(h0, .inr (1, nm_fs (f_X1_boundUnsignedBySigned (f_X1_boundSignedByUnsigned (f_X1_boundByBits ((f_X1_learnSharedHighBits (f_X1_boundUnsignedBySigned (f_X1_boundSignedByUnsigned (f_X1_boundByBits n0)))).1))))))]) := hD
              refine lv_aload_n hx hb dX1_settle_37 rfl (lv_at hl 1 rfl) ?_
              refine sp_callz (sp_runV (As := []) (rest := []) C (c_X1_isCrossed l D h0 (f_X1_boundUnsignedBySigned (f_X1_boundSignedByUnsigned (f_X1_boundByBits ((f_X1_learnSharedHighBits (f_X1_boundUnsignedBySigned (f_X1_boundSignedByUnsigned (f_X1_boundByBits n0)))).1))))) (cwV 0 hts (gV wG_c wm_83 wm_84 wm_85 wm_31 wm_82) rfl rfl rfl (by decide +kernel) ⟨Nat.le_of_ble_eq_true rfl, Nat.le_of_ble_eq_true rfl⟩) hK hP hD [0] (by decide) rfl [] rfl 0 1 rfl rfl rfl rfl hl.1 rfl (Nat.le_of_ble_eq_true rfl) dX1_settle_38 ⟨Nat.le_of_ble_eq_true rfl, Nat.le_of_ble_eq_true rfl⟩) hP hD hS hA [0] rfl (sp_fc sp_f0) (fun H locs z13 hP hD hS => ?_)
              have hP : va_P D vwCl ([(h0, .inr (1, nm_fs (f_X1_boundUnsignedBySigned (f_X1_boundSignedByUnsigned (f_X1_boundByBits ((f_X1_learnSharedHighBits (f_X1_boundUnsignedBySigned (f_X1_boundSignedByUnsigned (f_X1_boundByBits n0)))).1))))))]) H := hP
              have hD : va_D A ([(h0, .inr (1, nm_fs (f_X1_boundUnsignedBySigned (f_X1_boundSignedByUnsigned (f_X1_boundByBits ((f_X1_learnSharedHighBits (f_X1_boundUnsignedBySigned (f_X1_boundSignedByUnsigned (f_X1_boundByBits n0)))).1))))))]) := hD
              refine lv_if_ne (tgt := 51) hx hb dX1_settle_41 (by decide) (fun c14 => ?_) (fun c14 => ?_)
              · refine lv_iconst (v := 0) hx hb dX1_settle_51 (by decide) ?_
                have e9 : f_X1_settle n0 = ((f_X1_boundUnsignedBySigned (f_X1_boundSignedByUnsigned (f_X1_boundByBits ((f_X1_learnSharedHighBits (f_X1_boundUnsignedBySigned (f_X1_boundSignedByUnsigned (f_X1_boundByBits n0)))).1)))), 0) := (if_pos c2).trans ((if_pos c4).trans ((if_pos c6).trans ((if_neg c8).trans ((if_pos c10).trans ((if_pos c12).trans ((if_neg c14).trans (rfl)))))))
                rw [e9]
                exact sp_zret C hAe hP hK hD hS (Or.inl rfl) dX1_settle_52
              · refine lv_aload_n hx hb dX1_settle_44 rfl (lv_at hl 1 rfl) ?_
                refine sp_callz (sp_runV (As := []) (rest := []) C (c_X1_learnSharedHighBits l D h0 (f_X1_boundUnsignedBySigned (f_X1_boundSignedByUnsigned (f_X1_boundByBits ((f_X1_learnSharedHighBits (f_X1_boundUnsignedBySigned (f_X1_boundSignedByUnsigned (f_X1_boundByBits n0)))).1))))) (cwV 0 hts (gV wG_c wm_95 wm_96 wm_97 wm_31 wm_94) rfl rfl rfl (by decide +kernel) ⟨Nat.le_of_ble_eq_true rfl, Nat.le_of_ble_eq_true rfl⟩) hK hP hD [0] (by decide) rfl [] rfl 0 1 rfl rfl rfl rfl hl.1 rfl (Nat.le_of_ble_eq_true rfl) dX1_settle_45 ⟨Nat.le_of_ble_eq_true rfl, Nat.le_of_ble_eq_true rfl⟩) hP hD hS hA [0] rfl (sp_fc sp_f0) (fun H locs z15 hP hD hS => ?_)
                have hP : va_P D vwCl ([(h0, .inr (1, nm_fs ((f_X1_learnSharedHighBits (f_X1_boundUnsignedBySigned (f_X1_boundSignedByUnsigned (f_X1_boundByBits ((f_X1_learnSharedHighBits (f_X1_boundUnsignedBySigned (f_X1_boundSignedByUnsigned (f_X1_boundByBits n0)))).1))))).1)))]) H := hP
                have hD : va_D A ([(h0, .inr (1, nm_fs ((f_X1_learnSharedHighBits (f_X1_boundUnsignedBySigned (f_X1_boundSignedByUnsigned (f_X1_boundByBits ((f_X1_learnSharedHighBits (f_X1_boundUnsignedBySigned (f_X1_boundSignedByUnsigned (f_X1_boundByBits n0)))).1))))).1)))]) := hD
                refine lv_if_ne (tgt := 53) hx hb dX1_settle_48 (by decide) (fun c16 => ?_) (fun c16 => ?_)
                · refine lv_iinc (v := 2) (lv' := [(1, .int 2), (0, .ref h0)]) hx hb dX1_settle_53 hl (k := 0) rfl (by decide) (by decide) rfl (fun ls hl => ?_)
                  refine lv_goto (tgt := 2) hx hb dX1_settle_56 (by decide) ?_
                  refine lv_iload_n hx hb dX1_settle_2 rfl (lv_at hl 0 rfl) ?_
                  refine lv_iconst (v := 3) hx hb dX1_settle_3 (by decide) ?_
                  refine lv_icmp_ge (tgt := 59) hx hb dX1_settle_4 (by decide) (fun h9 => absurd h9 (by decide)) (fun _ => ?_)
                  refine lv_aload_n hx hb dX1_settle_7 rfl (lv_at hl 1 rfl) ?_
                  refine sp_callv (sp_runV (As := []) (rest := []) C (c_X1_boundByBits l D h0 ((f_X1_learnSharedHighBits (f_X1_boundUnsignedBySigned (f_X1_boundSignedByUnsigned (f_X1_boundByBits ((f_X1_learnSharedHighBits (f_X1_boundUnsignedBySigned (f_X1_boundSignedByUnsigned (f_X1_boundByBits n0)))).1))))).1)) (cwV 0 hts (gV wG_c wm_79 wm_80 wm_81 wm_31 wm_78) rfl rfl rfl (by decide +kernel) ⟨Nat.le_of_ble_eq_true rfl, Nat.le_of_ble_eq_true rfl⟩) hK hP hD [0] (by decide) rfl [] rfl 0 1 rfl rfl rfl rfl hl.1 rfl (Nat.le_of_ble_eq_true rfl) dX1_settle_8 ⟨Nat.le_of_ble_eq_true rfl, Nat.le_of_ble_eq_true rfl⟩) hP hD hS hA [0] rfl (sp_fc sp_f0) (fun H locs hP hD hS => ?_)
                  have hP : va_P D vwCl ([(h0, .inr (1, nm_fs (f_X1_boundByBits ((f_X1_learnSharedHighBits (f_X1_boundUnsignedBySigned (f_X1_boundSignedByUnsigned (f_X1_boundByBits ((f_X1_learnSharedHighBits (f_X1_boundUnsignedBySigned (f_X1_boundSignedByUnsigned (f_X1_boundByBits n0)))).1))))).1))))]) H := hP
                  have hD : va_D A ([(h0, .inr (1, nm_fs (f_X1_boundByBits ((f_X1_learnSharedHighBits (f_X1_boundUnsignedBySigned (f_X1_boundSignedByUnsigned (f_X1_boundByBits ((f_X1_learnSharedHighBits (f_X1_boundUnsignedBySigned (f_X1_boundSignedByUnsigned (f_X1_boundByBits n0)))).1))))).1))))]) := hD
                  refine lv_aload_n hx hb dX1_settle_11 rfl (lv_at hl 1 rfl) ?_
                  refine sp_callz (sp_runV (As := []) (rest := []) C (c_X1_isCrossed l D h0 (f_X1_boundByBits ((f_X1_learnSharedHighBits (f_X1_boundUnsignedBySigned (f_X1_boundSignedByUnsigned (f_X1_boundByBits ((f_X1_learnSharedHighBits (f_X1_boundUnsignedBySigned (f_X1_boundSignedByUnsigned (f_X1_boundByBits n0)))).1))))).1))) (cwV 0 hts (gV wG_c wm_83 wm_84 wm_85 wm_31 wm_82) rfl rfl rfl (by decide +kernel) ⟨Nat.le_of_ble_eq_true rfl, Nat.le_of_ble_eq_true rfl⟩) hK hP hD [0] (by decide) rfl [] rfl 0 1 rfl rfl rfl rfl hl.1 rfl (Nat.le_of_ble_eq_true rfl) dX1_settle_12 ⟨Nat.le_of_ble_eq_true rfl, Nat.le_of_ble_eq_true rfl⟩) hP hD hS hA [0] rfl (sp_fc sp_f0) (fun H locs z17 hP hD hS => ?_)
                  have hP : va_P D vwCl ([(h0, .inr (1, nm_fs (f_X1_boundByBits ((f_X1_learnSharedHighBits (f_X1_boundUnsignedBySigned (f_X1_boundSignedByUnsigned (f_X1_boundByBits ((f_X1_learnSharedHighBits (f_X1_boundUnsignedBySigned (f_X1_boundSignedByUnsigned (f_X1_boundByBits n0)))).1))))).1))))]) H := hP
                  have hD : va_D A ([(h0, .inr (1, nm_fs (f_X1_boundByBits ((f_X1_learnSharedHighBits (f_X1_boundUnsignedBySigned (f_X1_boundSignedByUnsigned (f_X1_boundByBits ((f_X1_learnSharedHighBits (f_X1_boundUnsignedBySigned (f_X1_boundSignedByUnsigned (f_X1_boundByBits n0)))).1))))).1))))]) := hD
                  refine lv_if_eq (tgt := 20) hx hb dX1_settle_15 (by decide) (fun c18 => ?_) (fun c18 => ?_)
                  · refine lv_aload_n hx hb dX1_settle_20 rfl (lv_at hl 1 rfl) ?_
                    refine sp_callv (sp_runV (As := []) (rest := []) C (c_X1_boundSignedByUnsigned l D h0 (f_X1_boundByBits ((f_X1_learnSharedHighBits (f_X1_boundUnsignedBySigned (f_X1_boundSignedByUnsigned (f_X1_boundByBits ((f_X1_learnSharedHighBits (f_X1_boundUnsignedBySigned (f_X1_boundSignedByUnsigned (f_X1_boundByBits n0)))).1))))).1))) (cwV 0 hts (gV wG_c wm_87 wm_88 wm_89 wm_31 wm_86) rfl rfl rfl (by decide +kernel) ⟨Nat.le_of_ble_eq_true rfl, Nat.le_of_ble_eq_true rfl⟩) hK hP hD [0] (by decide) rfl [] rfl 0 1 rfl rfl rfl rfl hl.1 rfl (Nat.le_of_ble_eq_true rfl) dX1_settle_21 ⟨Nat.le_of_ble_eq_true rfl, Nat.le_of_ble_eq_true rfl⟩) hP hD hS hA [0] rfl (sp_fc sp_f0) (fun H locs hP hD hS => ?_)
                    have hP : va_P D vwCl ([(h0, .inr (1, nm_fs (f_X1_boundSignedByUnsigned (f_X1_boundByBits ((f_X1_learnSharedHighBits (f_X1_boundUnsignedBySigned (f_X1_boundSignedByUnsigned (f_X1_boundByBits ((f_X1_learnSharedHighBits (f_X1_boundUnsignedBySigned (f_X1_boundSignedByUnsigned (f_X1_boundByBits n0)))).1))))).1)))))]) H := hP
                    have hD : va_D A ([(h0, .inr (1, nm_fs (f_X1_boundSignedByUnsigned (f_X1_boundByBits ((f_X1_learnSharedHighBits (f_X1_boundUnsignedBySigned (f_X1_boundSignedByUnsigned (f_X1_boundByBits ((f_X1_learnSharedHighBits (f_X1_boundUnsignedBySigned (f_X1_boundSignedByUnsigned (f_X1_boundByBits n0)))).1))))).1)))))]) := hD
                    refine lv_aload_n hx hb dX1_settle_24 rfl (lv_at hl 1 rfl) ?_
                    refine sp_callz (sp_runV (As := []) (rest := []) C (c_X1_isCrossed l D h0 (f_X1_boundSignedByUnsigned (f_X1_boundByBits ((f_X1_learnSharedHighBits (f_X1_boundUnsignedBySigned (f_X1_boundSignedByUnsigned (f_X1_boundByBits ((f_X1_learnSharedHighBits (f_X1_boundUnsignedBySigned (f_X1_boundSignedByUnsigned (f_X1_boundByBits n0)))).1))))).1)))) (cwV 0 hts (gV wG_c wm_83 wm_84 wm_85 wm_31 wm_82) rfl rfl rfl (by decide +kernel) ⟨Nat.le_of_ble_eq_true rfl, Nat.le_of_ble_eq_true rfl⟩) hK hP hD [0] (by decide) rfl [] rfl 0 1 rfl rfl rfl rfl hl.1 rfl (Nat.le_of_ble_eq_true rfl) dX1_settle_25 ⟨Nat.le_of_ble_eq_true rfl, Nat.le_of_ble_eq_true rfl⟩) hP hD hS hA [0] rfl (sp_fc sp_f0) (fun H locs z19 hP hD hS => ?_)
                    have hP : va_P D vwCl ([(h0, .inr (1, nm_fs (f_X1_boundSignedByUnsigned (f_X1_boundByBits ((f_X1_learnSharedHighBits (f_X1_boundUnsignedBySigned (f_X1_boundSignedByUnsigned (f_X1_boundByBits ((f_X1_learnSharedHighBits (f_X1_boundUnsignedBySigned (f_X1_boundSignedByUnsigned (f_X1_boundByBits n0)))).1))))).1)))))]) H := hP
                    have hD : va_D A ([(h0, .inr (1, nm_fs (f_X1_boundSignedByUnsigned (f_X1_boundByBits ((f_X1_learnSharedHighBits (f_X1_boundUnsignedBySigned (f_X1_boundSignedByUnsigned (f_X1_boundByBits ((f_X1_learnSharedHighBits (f_X1_boundUnsignedBySigned (f_X1_boundSignedByUnsigned (f_X1_boundByBits n0)))).1))))).1)))))]) := hD
                    refine lv_if_eq (tgt := 33) hx hb dX1_settle_28 (by decide) (fun c20 => ?_) (fun c20 => ?_)
                    · refine lv_aload_n hx hb dX1_settle_33 rfl (lv_at hl 1 rfl) ?_
                      refine sp_callv (sp_runV (As := []) (rest := []) C (c_X1_boundUnsignedBySigned l D h0 (f_X1_boundSignedByUnsigned (f_X1_boundByBits ((f_X1_learnSharedHighBits (f_X1_boundUnsignedBySigned (f_X1_boundSignedByUnsigned (f_X1_boundByBits ((f_X1_learnSharedHighBits (f_X1_boundUnsignedBySigned (f_X1_boundSignedByUnsigned (f_X1_boundByBits n0)))).1))))).1)))) (cwV 0 hts (gV wG_c wm_91 wm_92 wm_93 wm_31 wm_90) rfl rfl rfl (by decide +kernel) ⟨Nat.le_of_ble_eq_true rfl, Nat.le_of_ble_eq_true rfl⟩) hK hP hD [0] (by decide) rfl [] rfl 0 1 rfl rfl rfl rfl hl.1 rfl (Nat.le_of_ble_eq_true rfl) dX1_settle_34 ⟨Nat.le_of_ble_eq_true rfl, Nat.le_of_ble_eq_true rfl⟩) hP hD hS hA [0] rfl (sp_fc sp_f0) (fun H locs hP hD hS => ?_)
                      have hP : va_P D vwCl ([(h0, .inr (1, nm_fs (f_X1_boundUnsignedBySigned (f_X1_boundSignedByUnsigned (f_X1_boundByBits ((f_X1_learnSharedHighBits (f_X1_boundUnsignedBySigned (f_X1_boundSignedByUnsigned (f_X1_boundByBits ((f_X1_learnSharedHighBits (f_X1_boundUnsignedBySigned (f_X1_boundSignedByUnsigned (f_X1_boundByBits n0)))).1))))).1))))))]) H := hP
                      have hD : va_D A ([(h0, .inr (1, nm_fs (f_X1_boundUnsignedBySigned (f_X1_boundSignedByUnsigned (f_X1_boundByBits ((f_X1_learnSharedHighBits (f_X1_boundUnsignedBySigned (f_X1_boundSignedByUnsigned (f_X1_boundByBits ((f_X1_learnSharedHighBits (f_X1_boundUnsignedBySigned (f_X1_boundSignedByUnsigned (f_X1_boundByBits n0)))).1))))).1))))))]) := hD
                      refine lv_aload_n hx hb dX1_settle_37 rfl (lv_at hl 1 rfl) ?_
                      refine sp_callz (sp_runV (As := []) (rest := []) C (c_X1_isCrossed l D h0 (f_X1_boundUnsignedBySigned (f_X1_boundSignedByUnsigned (f_X1_boundByBits ((f_X1_learnSharedHighBits (f_X1_boundUnsignedBySigned (f_X1_boundSignedByUnsigned (f_X1_boundByBits ((f_X1_learnSharedHighBits (f_X1_boundUnsignedBySigned (f_X1_boundSignedByUnsigned (f_X1_boundByBits n0)))).1))))).1))))) (cwV 0 hts (gV wG_c wm_83 wm_84 wm_85 wm_31 wm_82) rfl rfl rfl (by decide +kernel) ⟨Nat.le_of_ble_eq_true rfl, Nat.le_of_ble_eq_true rfl⟩) hK hP hD [0] (by decide) rfl [] rfl 0 1 rfl rfl rfl rfl hl.1 rfl (Nat.le_of_ble_eq_true rfl) dX1_settle_38 ⟨Nat.le_of_ble_eq_true rfl, Nat.le_of_ble_eq_true rfl⟩) hP hD hS hA [0] rfl (sp_fc sp_f0) (fun H locs z21 hP hD hS => ?_)
                      have hP : va_P D vwCl ([(h0, .inr (1, nm_fs (f_X1_boundUnsignedBySigned (f_X1_boundSignedByUnsigned (f_X1_boundByBits ((f_X1_learnSharedHighBits (f_X1_boundUnsignedBySigned (f_X1_boundSignedByUnsigned (f_X1_boundByBits ((f_X1_learnSharedHighBits (f_X1_boundUnsignedBySigned (f_X1_boundSignedByUnsigned (f_X1_boundByBits n0)))).1))))).1))))))]) H := hP
                      have hD : va_D A ([(h0, .inr (1, nm_fs (f_X1_boundUnsignedBySigned (f_X1_boundSignedByUnsigned (f_X1_boundByBits ((f_X1_learnSharedHighBits (f_X1_boundUnsignedBySigned (f_X1_boundSignedByUnsigned (f_X1_boundByBits ((f_X1_learnSharedHighBits (f_X1_boundUnsignedBySigned (f_X1_boundSignedByUnsigned (f_X1_boundByBits n0)))).1))))).1))))))]) := hD
                      refine lv_if_ne (tgt := 51) hx hb dX1_settle_41 (by decide) (fun c22 => ?_) (fun c22 => ?_)
                      · refine lv_iconst (v := 0) hx hb dX1_settle_51 (by decide) ?_
                        have e9 : f_X1_settle n0 = ((f_X1_boundUnsignedBySigned (f_X1_boundSignedByUnsigned (f_X1_boundByBits ((f_X1_learnSharedHighBits (f_X1_boundUnsignedBySigned (f_X1_boundSignedByUnsigned (f_X1_boundByBits ((f_X1_learnSharedHighBits (f_X1_boundUnsignedBySigned (f_X1_boundSignedByUnsigned (f_X1_boundByBits n0)))).1))))).1)))), 0) := (if_pos c2).trans ((if_pos c4).trans ((if_pos c6).trans ((if_neg c8).trans ((if_pos c10).trans ((if_pos c12).trans ((if_pos c14).trans ((if_neg c16).trans ((if_pos c18).trans ((if_pos c20).trans ((if_neg c22).trans (rfl)))))))))))
                        rw [e9]
                        exact sp_zret C hAe hP hK hD hS (Or.inl rfl) dX1_settle_52
                      · refine lv_aload_n hx hb dX1_settle_44 rfl (lv_at hl 1 rfl) ?_
                        refine sp_callz (sp_runV (As := []) (rest := []) C (c_X1_learnSharedHighBits l D h0 (f_X1_boundUnsignedBySigned (f_X1_boundSignedByUnsigned (f_X1_boundByBits ((f_X1_learnSharedHighBits (f_X1_boundUnsignedBySigned (f_X1_boundSignedByUnsigned (f_X1_boundByBits ((f_X1_learnSharedHighBits (f_X1_boundUnsignedBySigned (f_X1_boundSignedByUnsigned (f_X1_boundByBits n0)))).1))))).1))))) (cwV 0 hts (gV wG_c wm_95 wm_96 wm_97 wm_31 wm_94) rfl rfl rfl (by decide +kernel) ⟨Nat.le_of_ble_eq_true rfl, Nat.le_of_ble_eq_true rfl⟩) hK hP hD [0] (by decide) rfl [] rfl 0 1 rfl rfl rfl rfl hl.1 rfl (Nat.le_of_ble_eq_true rfl) dX1_settle_45 ⟨Nat.le_of_ble_eq_true rfl, Nat.le_of_ble_eq_true rfl⟩) hP hD hS hA [0] rfl (sp_fc sp_f0) (fun H locs z23 hP hD hS => ?_)
                        have hP : va_P D vwCl ([(h0, .inr (1, nm_fs ((f_X1_learnSharedHighBits (f_X1_boundUnsignedBySigned (f_X1_boundSignedByUnsigned (f_X1_boundByBits ((f_X1_learnSharedHighBits (f_X1_boundUnsignedBySigned (f_X1_boundSignedByUnsigned (f_X1_boundByBits ((f_X1_learnSharedHighBits (f_X1_boundUnsignedBySigned (f_X1_boundSignedByUnsigned (f_X1_boundByBits n0)))).1))))).1))))).1)))]) H := hP
                        have hD : va_D A ([(h0, .inr (1, nm_fs ((f_X1_learnSharedHighBits (f_X1_boundUnsignedBySigned (f_X1_boundSignedByUnsigned (f_X1_boundByBits ((f_X1_learnSharedHighBits (f_X1_boundUnsignedBySigned (f_X1_boundSignedByUnsigned (f_X1_boundByBits ((f_X1_learnSharedHighBits (f_X1_boundUnsignedBySigned (f_X1_boundSignedByUnsigned (f_X1_boundByBits n0)))).1))))).1))))).1)))]) := hD
                        refine lv_if_ne (tgt := 53) hx hb dX1_settle_48 (by decide) (fun c24 => ?_) (fun c24 => ?_)
                        · refine lv_iinc (v := 3) (lv' := [(1, .int 3), (0, .ref h0)]) hx hb dX1_settle_53 hl (k := 0) rfl (by decide) (by decide) rfl (fun ls hl => ?_)
                          refine lv_goto (tgt := 2) hx hb dX1_settle_56 (by decide) ?_
                          refine lv_iload_n hx hb dX1_settle_2 rfl (lv_at hl 0 rfl) ?_
                          refine lv_iconst (v := 3) hx hb dX1_settle_3 (by decide) ?_
                          refine lv_icmp_ge (tgt := 59) hx hb dX1_settle_4 (by decide) (fun _ => ?_) (fun h9 => absurd h9 (by decide))
                          refine lv_iconst (v := 1) hx hb dX1_settle_59 (by decide) ?_
                          have e9 : f_X1_settle n0 = (((f_X1_learnSharedHighBits (f_X1_boundUnsignedBySigned (f_X1_boundSignedByUnsigned (f_X1_boundByBits ((f_X1_learnSharedHighBits (f_X1_boundUnsignedBySigned (f_X1_boundSignedByUnsigned (f_X1_boundByBits ((f_X1_learnSharedHighBits (f_X1_boundUnsignedBySigned (f_X1_boundSignedByUnsigned (f_X1_boundByBits n0)))).1))))).1))))).1), 1) := (if_pos c2).trans ((if_pos c4).trans ((if_pos c6).trans ((if_neg c8).trans ((if_pos c10).trans ((if_pos c12).trans ((if_pos c14).trans ((if_neg c16).trans ((if_pos c18).trans ((if_pos c20).trans ((if_pos c22).trans ((if_neg c24).trans (rfl))))))))))))
                          rw [e9]
                          exact sp_zret C hAe hP hK hD hS (Or.inr rfl) dX1_settle_60
                        · refine lv_iconst (v := 0) hx hb dX1_settle_51 (by decide) ?_
                          have e9 : f_X1_settle n0 = (((f_X1_learnSharedHighBits (f_X1_boundUnsignedBySigned (f_X1_boundSignedByUnsigned (f_X1_boundByBits ((f_X1_learnSharedHighBits (f_X1_boundUnsignedBySigned (f_X1_boundSignedByUnsigned (f_X1_boundByBits ((f_X1_learnSharedHighBits (f_X1_boundUnsignedBySigned (f_X1_boundSignedByUnsigned (f_X1_boundByBits n0)))).1))))).1))))).1), 0) := (if_pos c2).trans ((if_pos c4).trans ((if_pos c6).trans ((if_neg c8).trans ((if_pos c10).trans ((if_pos c12).trans ((if_pos c14).trans ((if_neg c16).trans ((if_pos c18).trans ((if_pos c20).trans ((if_pos c22).trans ((if_pos c24).trans (rfl))))))))))))
                          rw [e9]
                          exact sp_zret C hAe hP hK hD hS (Or.inl rfl) dX1_settle_52
                    · refine lv_iconst (v := 0) hx hb dX1_settle_31 (by decide) ?_
                      have e9 : f_X1_settle n0 = ((f_X1_boundSignedByUnsigned (f_X1_boundByBits ((f_X1_learnSharedHighBits (f_X1_boundUnsignedBySigned (f_X1_boundSignedByUnsigned (f_X1_boundByBits ((f_X1_learnSharedHighBits (f_X1_boundUnsignedBySigned (f_X1_boundSignedByUnsigned (f_X1_boundByBits n0)))).1))))).1))), 0) := (if_pos c2).trans ((if_pos c4).trans ((if_pos c6).trans ((if_neg c8).trans ((if_pos c10).trans ((if_pos c12).trans ((if_pos c14).trans ((if_neg c16).trans ((if_pos c18).trans ((if_neg c20).trans (rfl))))))))))
                      rw [e9]
                      exact sp_zret C hAe hP hK hD hS (Or.inl rfl) dX1_settle_32
                  · refine lv_iconst (v := 0) hx hb dX1_settle_18 (by decide) ?_
                    have e9 : f_X1_settle n0 = ((f_X1_boundByBits ((f_X1_learnSharedHighBits (f_X1_boundUnsignedBySigned (f_X1_boundSignedByUnsigned (f_X1_boundByBits ((f_X1_learnSharedHighBits (f_X1_boundUnsignedBySigned (f_X1_boundSignedByUnsigned (f_X1_boundByBits n0)))).1))))).1)), 0) := (if_pos c2).trans ((if_pos c4).trans ((if_pos c6).trans ((if_neg c8).trans ((if_pos c10).trans ((if_pos c12).trans ((if_pos c14).trans ((if_neg c16).trans ((if_neg c18).trans (rfl)))))))))
                    rw [e9]
                    exact sp_zret C hAe hP hK hD hS (Or.inl rfl) dX1_settle_19
                · refine lv_iconst (v := 0) hx hb dX1_settle_51 (by decide) ?_
                  have e9 : f_X1_settle n0 = (((f_X1_learnSharedHighBits (f_X1_boundUnsignedBySigned (f_X1_boundSignedByUnsigned (f_X1_boundByBits ((f_X1_learnSharedHighBits (f_X1_boundUnsignedBySigned (f_X1_boundSignedByUnsigned (f_X1_boundByBits n0)))).1))))).1), 0) := (if_pos c2).trans ((if_pos c4).trans ((if_pos c6).trans ((if_neg c8).trans ((if_pos c10).trans ((if_pos c12).trans ((if_pos c14).trans ((if_pos c16).trans (rfl))))))))
                  rw [e9]
                  exact sp_zret C hAe hP hK hD hS (Or.inl rfl) dX1_settle_52
            · refine lv_iconst (v := 0) hx hb dX1_settle_31 (by decide) ?_
              have e9 : f_X1_settle n0 = ((f_X1_boundSignedByUnsigned (f_X1_boundByBits ((f_X1_learnSharedHighBits (f_X1_boundUnsignedBySigned (f_X1_boundSignedByUnsigned (f_X1_boundByBits n0)))).1))), 0) := (if_pos c2).trans ((if_pos c4).trans ((if_pos c6).trans ((if_neg c8).trans ((if_pos c10).trans ((if_neg c12).trans (rfl))))))
              rw [e9]
              exact sp_zret C hAe hP hK hD hS (Or.inl rfl) dX1_settle_32
          · refine lv_iconst (v := 0) hx hb dX1_settle_18 (by decide) ?_
            have e9 : f_X1_settle n0 = ((f_X1_boundByBits ((f_X1_learnSharedHighBits (f_X1_boundUnsignedBySigned (f_X1_boundSignedByUnsigned (f_X1_boundByBits n0)))).1)), 0) := (if_pos c2).trans ((if_pos c4).trans ((if_pos c6).trans ((if_neg c8).trans ((if_neg c10).trans (rfl)))))
            rw [e9]
            exact sp_zret C hAe hP hK hD hS (Or.inl rfl) dX1_settle_19
        · refine lv_iconst (v := 0) hx hb dX1_settle_51 (by decide) ?_
          have e9 : f_X1_settle n0 = (((f_X1_learnSharedHighBits (f_X1_boundUnsignedBySigned (f_X1_boundSignedByUnsigned (f_X1_boundByBits n0)))).1), 0) := (if_pos c2).trans ((if_pos c4).trans ((if_pos c6).trans ((if_pos c8).trans (rfl))))
          rw [e9]
          exact sp_zret C hAe hP hK hD hS (Or.inl rfl) dX1_settle_52
    · refine lv_iconst (v := 0) hx hb dX1_settle_31 (by decide) ?_
      have e9 : f_X1_settle n0 = ((f_X1_boundSignedByUnsigned (f_X1_boundByBits n0)), 0) := (if_pos c2).trans ((if_neg c4).trans (rfl))
      rw [e9]
      exact sp_zret C hAe hP hK hD hS (Or.inl rfl) dX1_settle_32
  · refine lv_iconst (v := 0) hx hb dX1_settle_18 (by decide) ?_
    have e9 : f_X1_settle n0 = ((f_X1_boundByBits n0), 0) := (if_neg c2).trans (rfl)
    rw [e9]
    exact sp_zret C hAe hP hK hD hS (Or.inl rfl) dX1_settle_19
