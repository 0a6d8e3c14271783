set_option maxHeartbeats 4000000 in
set_option maxRecDepth 100000 in
theorem lw_c6 (p : Program) (l : Launch) (e : Env) (s : State) (m : MethodId) (below : List Frame) (meth : Method) (c : Code) (b : Nat) (D : va_G) (q : Nat → Nat) (cA : ClassId) (ad : Nat → Nat) (r : Nat → Nat) (cj : Nat → ClassId) (o : Nat) (cO : ClassId) {L : Nat} {xs : Nat → Int32} (F : lw_F p l s m meth c b L xs D cA cj cO) {i : Int32} (hv : lw_in i L) {cells slots : Nat} (hf1 : cells + 1 ≤ room_1.cells ∧ slots + 6 ≤ room_1.slots) (J : lw_J p l e s m below meth c b D q cA ad r cj o cO i 857 (cells + 1) (slots + 6)) : lw_J p l e s m below meth c b D q cA ad r cj o cO i 608 cells slots := by
  obtain ⟨C, hX, hbl, hK, hZ, hl0⟩ := F
  obtain ⟨hv0, hv1, hv2, hv3, hv4, hv5, hv6⟩ := hv
  have hf0 : cells + 0 ≤ room_1.cells ∧ slots + 0 ≤ room_1.slots := ⟨Nat.le_trans (Nat.le_add_right cells 1) hf1.1, Nat.le_trans (Nat.le_add_right slots 6) hf1.2⟩
  have hA : ∀ z : Nat, s.heap.size ≤ z → (fun z : Nat => s.heap.size ≤ z) z := fun _ h => h
  have hbA : ¬ (fun z : Nat => s.heap.size ≤ z) b := Nat.not_le.mpr hbl
  have hx := C.1
  have hb := C.2.1
  have hown := C.2.2.2.2.1
  have hts := C.2.2.2.2.2.1
  intro sg x th st f H locs ls hr hi hP hD hS hl
  refine lv_aload_n hx hb dL_law_608 rfl (lv_at hl 2 rfl) ?_
  refine lv_aload_n hx hb dL_law_609 rfl (lv_at hl 1 rfl) ?_
  refine lv_iload hx hb dL_law_610 (lv_at hl 0 rfl) ?_
  refine lv_iconst (v := 1) hx hb dL_law_612 (by decide) ?_
  refine lv_iadd hx hb dL_law_613 ?_
  refine va_sld hx hb hX hbl hbA hS hv1 dL_law_614 ?_
  refine lv_topi (fun v1 ev1 => ?_)
  refine lv_aload_n hx hb dL_law_615 rfl (lv_at hl 1 rfl) ?_
  refine lv_iload hx hb dL_law_616 (lv_at hl 0 rfl) ?_
  refine lv_iconst (v := 2) hx hb dL_law_618 (by decide) ?_
  refine lv_iadd hx hb dL_law_619 ?_
  refine va_sld hx hb hX hbl hbA hS hv2 dL_law_620 ?_
  refine lv_topi (fun v2 ev2 => ?_)
  refine lv_aload_n hx hb dL_law_621 rfl (lv_at hl 4 rfl) ?_
  by_cases hg : f_X0_isNumber v1 = 0 ∨ ¬ lk_ok v2
  · refine sh_calli (sh_runS (n := 4) (As := [.ref (q 0), .int v1, .int v2, .ref o]) (rest := []) C (c_L_look_x l hl0 D q cA ad sg x o cO f v1 v2 hg) (lw_hws hts kmL_look) List.mem_cons_self (hts _ wm_604) (hts _ wm_605) (hts _ wm_606) ⟨by decide +kernel, by decide +kernel⟩ (lw_nlen (by decide +kernel)) rfl rfl ⟨Nat.le_of_ble_eq_true rfl, Nat.le_of_ble_eq_true rfl⟩ hZ (fun z h9 => hS.2.1 z h9 (Nat.not_le.mpr h9)) hK hP hD (List.range' 7 26) (by decide) (sp_end md_len do_len) [6, 7] rfl rfl hl.1 rfl (Nat.le_of_ble_eq_true rfl) dL_law_622 hf1) hP hD hS hA (List.range' 7 26) (sp_end md_len do_len) rfl (fun H locs hP hD hS => ?_)
    rw [sp_upd_end _ _ _ 7 26 md_len do_len do_len] at hP hD
    have eM : f_M_look st v1 v2 = (1, 0) := ml_look_x hg
    refine lv_istore (lv' := [(5, .int 1), (4, .int i), (0, .ref b), (1, .ref (q 0)), (2, .ref (r 0)), (3, .ref o)]) hx hb dL_law_625 hl (by decide) rfl (fun ls hl => ?_)
    refine lv_aload_n hx hb dL_law_627 rfl (lv_at hl 4 rfl) ?_
    refine lv_aload_n hx hb dL_law_628 rfl (lv_at hl 2 rfl) ?_
    refine lv_iload hx hb dL_law_629 (lv_at hl 1 rfl) ?_
    refine lv_iconst (v := 1) hx hb dL_law_631 (by decide) ?_
    refine lv_iadd hx hb dL_law_632 ?_
    refine va_sld hx hb hX hbl hbA hS hv1 dL_law_633 ?_
    refine lw_topi ev1 ?_
    refine lv_aload_n hx hb dL_law_634 rfl (lv_at hl 2 rfl) ?_
    refine lv_iload hx hb dL_law_635 (lv_at hl 1 rfl) ?_
    refine lv_iconst (v := 2) hx hb dL_law_637 (by decide) ?_
    refine lv_iadd hx hb dL_law_638 ?_
    refine va_sld hx hb hX hbl hbA hS hv2 dL_law_639 ?_
    refine lw_topi ev2 ?_
    refine sp_calll (sp_runV (As := [.int v1, .int v2]) (rest := []) C (k_M_look l D r cj th st v1 v2) (cwV 2 hts (gV wG_i wm_607 wm_608 wm_609 wm_378 wm_610) rfl rfl rfl (by decide +kernel) ⟨Nat.le_of_ble_eq_true rfl, Nat.le_of_ble_eq_true rfl⟩) hK hP hD (List.range' 0 7) (by decide) (sp_first md_len) [0, 1, 2, 3, 4, 5] rfl 0 4 rfl rfl rfl rfl hl.1 rfl (Nat.le_of_ble_eq_true rfl) dL_law_640 hf1) hP hD hS hA (List.range' 0 7) (sp_first md_len) rfl (fun H locs hP hD hS => ?_)
    rw [sp_upd_first _ _ _ 7 md_len md_len] at hP hD
    rw [sp_fst eM] at hP hD
    rw [sp_snd eM]
    refine lv_lstore (lv' := [(6, .long 0), (5, .int 1), (4, .int i), (0, .ref b), (1, .ref (q 0)), (2, .ref (r 0)), (3, .ref o)]) hx hb dL_law_643 hl (by decide) rfl (fun ls hl => ?_)
    refine lv_aload_n hx hb dL_law_645 rfl (lv_at hl 5 rfl) ?_
    refine sp_calli (sp_runV (As := []) (rest := []) C (k_M_thrown l D r cj 1 st ) (cwV 0 hts (gV wG_i wm_611 wm_612 wm_613 wm_378 wm_614) rfl rfl rfl (by decide +kernel) ⟨Nat.le_of_ble_eq_true rfl, Nat.le_of_ble_eq_true rfl⟩) hK hP hD (List.range' 0 7) (by decide) (sp_first md_len) [0, 1, 2, 3, 4, 5] rfl 0 4 rfl rfl rfl rfl hl.1 rfl (Nat.le_of_ble_eq_true rfl) dL_law_646 hf1) hP hD hS hA (List.range' 0 7) (sp_first md_len) rfl (fun H locs hP hD hS => ?_)
    rw [sp_upd_first _ _ _ 7 md_len md_len] at hP hD
    refine lv_iload hx hb dL_law_649 (lv_at hl 1 rfl) ?_
    refine lv_icmp_eq (tgt := 656) hx hb dL_law_651 (by decide) (fun _ => ?_) (fun h9 => absurd rfl h9)
    refine lv_iload hx hb dL_law_656 (lv_at hl 1 rfl) ?_
    refine lv_if_ne (tgt := 672) hx hb dL_law_658 (by decide) (fun _ => ?_) (fun h9 => absurd h9 (by decide))
    refine lv_goto (tgt := 857) hx hb dL_law_672 (by decide) ?_
    exact J (sg) (x) (1) (st) (f) H locs ls hr hi hP hD hS (lv_sub hl [2, 3, 4, 5, 6] rfl)
  · have hn1 : ¬ f_X0_isNumber v1 = 0 := fun h => hg (Or.inl h)
    have hw : lk_ok v2 := Classical.byContradiction fun h => hg (Or.inr h)
    obtain ⟨w, ew⟩ : ∃ w, w = f_X0_look sg x.1 x.2.1 x.2.2.1 x.2.2.2.1 x.2.2.2.2 v1 v2 := ⟨_, rfl⟩
    have eM : f_M_look st v1 v2 = (0, w) := (ml_look (x1 := x.1) (x2 := x.2.1) (x3 := x.2.2.1) (x4 := x.2.2.2.1) (x5 := x.2.2.2.2) hr hn1 hw).trans (by rw [ew])
    refine sh_calli (sh_runS (n := 4) (As := [.ref (q 0), .int v1, .int v2, .ref o]) (rest := []) C (c_L_look l D q cA ad sg x o cO f v1 v2 hw hn1 w ew) (lw_hws hts kmL_look) List.mem_cons_self (hts _ wm_604) (hts _ wm_605) (hts _ wm_606) ⟨by decide +kernel, by decide +kernel⟩ (lw_nlen (by decide +kernel)) rfl rfl ⟨Nat.le_of_ble_eq_true rfl, Nat.le_of_ble_eq_true rfl⟩ hZ (fun z h9 => hS.2.1 z h9 (Nat.not_le.mpr h9)) hK hP hD (List.range' 7 26) (by decide) (sp_end md_len do_len) [6, 7] rfl rfl hl.1 rfl (Nat.le_of_ble_eq_true rfl) dL_law_622 hf0) hP hD hS hA (List.range' 7 26) (sp_end md_len do_len) rfl (fun H locs hP hD hS => ?_)
    rw [sp_upd_end _ _ _ 7 26 md_len do_len do_len] at hP hD
    refine lv_istore (lv' := [(5, .int 0), (4, .int i), (0, .ref b), (1, .ref (q 0)), (2, .ref (r 0)), (3, .ref o)]) hx hb dL_law_625 hl (by decide) rfl (fun ls hl => ?_)
    refine lv_aload_n hx hb dL_law_627 rfl (lv_at hl 4 rfl) ?_
    refine lv_aload_n hx hb dL_law_628 rfl (lv_at hl 2 rfl) ?_
    refine lv_iload hx hb dL_law_629 (lv_at hl 1 rfl) ?_
    refine lv_iconst (v := 1) hx hb dL_law_631 (by decide) ?_
    refine lv_iadd hx hb dL_law_632 ?_
    refine va_sld hx hb hX hbl hbA hS hv1 dL_law_633 ?_
    refine lw_topi ev1 ?_
    refine lv_aload_n hx hb dL_law_634 rfl (lv_at hl 2 rfl) ?_
    refine lv_iload hx hb dL_law_635 (lv_at hl 1 rfl) ?_
    refine lv_iconst (v := 2) hx hb dL_law_637 (by decide) ?_
    refine lv_iadd hx hb dL_law_638 ?_
    refine va_sld hx hb hX hbl hbA hS hv2 dL_law_639 ?_
    refine lw_topi ev2 ?_
    refine sp_calll (sp_runV (As := [.int v1, .int v2]) (rest := []) C (k_M_look l D r cj th st v1 v2) (cwV 2 hts (gV wG_i wm_607 wm_608 wm_609 wm_378 wm_610) rfl rfl rfl (by decide +kernel) ⟨Nat.le_of_ble_eq_true rfl, Nat.le_of_ble_eq_true rfl⟩) hK hP hD (List.range' 0 7) (by decide) (sp_first md_len) [0, 1, 2, 3, 4, 5] rfl 0 4 rfl rfl rfl rfl hl.1 rfl (Nat.le_of_ble_eq_true rfl) dL_law_640 hf0) hP hD hS hA (List.range' 0 7) (sp_first md_len) rfl (fun H locs hP hD hS => ?_)
    rw [sp_upd_first _ _ _ 7 md_len md_len] at hP hD
    rw [sp_fst eM] at hP hD
    rw [sp_snd eM]
    refine lv_lstore (lv' := [(6, .long w), (5, .int 0), (4, .int i), (0, .ref b), (1, .ref (q 0)), (2, .ref (r 0)), (3, .ref o)]) hx hb dL_law_643 hl (by decide) rfl (fun ls hl => ?_)
    refine lv_aload_n hx hb dL_law_645 rfl (lv_at hl 5 rfl) ?_
    refine sp_calli (sp_runV (As := []) (rest := []) C (k_M_thrown l D r cj 0 st ) (cwV 0 hts (gV wG_i wm_611 wm_612 wm_613 wm_378 wm_614) rfl rfl rfl (by decide +kernel) ⟨Nat.le_of_ble_eq_true rfl, Nat.le_of_ble_eq_true rfl⟩) hK hP hD (List.range' 0 7) (by decide) (sp_first md_len) [0, 1, 2, 3, 4, 5] rfl 0 4 rfl rfl rfl rfl hl.1 rfl (Nat.le_of_ble_eq_true rfl) dL_law_646 hf0) hP hD hS hA (List.range' 0 7) (sp_first md_len) rfl (fun H locs hP hD hS => ?_)
    rw [sp_upd_first _ _ _ 7 md_len md_len] at hP hD
    refine lv_iload hx hb dL_law_649 (lv_at hl 1 rfl) ?_
    refine lv_icmp_eq (tgt := 656) hx hb dL_law_651 (by decide) (fun _ => ?_) (fun h9 => absurd rfl h9)
    refine lv_iload hx hb dL_law_656 (lv_at hl 1 rfl) ?_
    refine lv_if_ne (tgt := 672) hx hb dL_law_658 (by decide) (fun h9 => absurd rfl h9) (fun _ => ?_)
    refine lv_aload_n hx hb dL_law_661 rfl (lv_at hl 6 rfl) ?_
    refine lv_iconst (v := 0) hx hb dL_law_662 (by decide) ?_
    refine va_lald hx hb hK hP 32 7 lo_at rfl (vp_in_iff.mpr (by decide)) dL_law_663 ?_
    refine lw_topl (y := w) (vp_upd_self _ _ _).symm ?_
    refine lv_lload hx hb dL_law_664 (lv_at hl 0 rfl) ?_
    refine W.lcmp hx hb dL_law_666 ?_
    refine lv_if_eq (tgt := 672) hx hb dL_law_667 (by decide) (fun _ => ?_) (fun h9 => absurd ((lg_cmp_eq _ _).mpr rfl) h9)
    refine lv_goto (tgt := 857) hx hb dL_law_672 (by decide) ?_
    refine W.widen (k := cells + 1) (n := slots + 6) (Nat.le_add_right _ _) (Nat.le_add_right _ _) ?_
    exact J (sg) (x) (0) (st) (vp_updL f (0 : Int32).toNatClampNeg w) H locs ls hr hi hP hD hS (lv_sub hl [2, 3, 4, 5, 6] rfl)
set_option maxHeartbeats 4000000 in
set_option maxRecDepth 100000 in
theorem lw_c7 (p : Program) (l : Launch) (e : Env) (s : State) (m : MethodId) (below : List Frame) (meth : Method) (c : Code) (b : Nat) (D : va_G) (q : Nat → Nat) (cA : ClassId) (ad : Nat → Nat) (r : Nat → Nat) (cj : Nat → ClassId) (o : Nat) (cO : ClassId) {L : Nat} {xs : Nat → Int32} (F : lw_F p l s m meth c b L xs D cA cj cO) {i : Int32} (hv : lw_in i L) {cells slots : Nat} (hf1 : cells + 1 ≤ room_1.cells ∧ slots + 6 ≤ room_1.slots) (J : lw_J p l e s m below meth c b D q cA ad r cj o cO i 857 (cells + 1) (slots + 6)) : lw_J p l e s m below meth c b D q cA ad r cj o cO i 675 cells slots := by
  obtain ⟨C, hX, hbl, hK, hZ, hl0⟩ := F
  obtain ⟨hv0, hv1, hv2, hv3, hv4, hv5, hv6⟩ := hv
  have hf0 : cells + 0 ≤ room_1.cells ∧ slots + 0 ≤ room_1.slots := ⟨Nat.le_trans (Nat.le_add_right cells 1) hf1.1, Nat.le_trans (Nat.le_add_right slots 6) hf1.2⟩
  have hA : ∀ z : Nat, s.heap.size ≤ z → (fun z : Nat => s.heap.size ≤ z) z := fun _ h => h
  have hbA : ¬ (fun z : Nat => s.heap.size ≤ z) b := Nat.not_le.mpr hbl
  have hx := C.1
  have hb := C.2.1
  have hown := C.2.2.2.2.1
  have hts := C.2.2.2.2.2.1
  intro sg x th st f H locs ls hr hi hP hD hS hl
  refine lv_aload_n hx hb dL_law_675 rfl (lv_at hl 2 rfl) ?_
  refine lv_aload_n hx hb dL_law_676 rfl (lv_at hl 1 rfl) ?_
  refine lv_iload hx hb dL_law_677 (lv_at hl 0 rfl) ?_
  refine lv_iconst (v := 1) hx hb dL_law_679 (by decide) ?_
  refine lv_iadd hx hb dL_law_680 ?_
  refine va_sld hx hb hX hbl hbA hS hv1 dL_law_681 ?_
  refine lv_topi (fun v1 ev1 => ?_)
  refine lv_aload_n hx hb dL_law_682 rfl (lv_at hl 1 rfl) ?_
  refine lv_iload hx hb dL_law_683 (lv_at hl 0 rfl) ?_
  refine lv_iconst (v := 2) hx hb dL_law_685 (by decide) ?_
  refine lv_iadd hx hb dL_law_686 ?_
  refine va_sld hx hb hX hbl hbA hS hv2 dL_law_687 ?_
  refine lv_topi (fun v2 ev2 => ?_)
  refine lv_i2l (v := v2.toInt64) hx hb dL_law_688 rfl ?_
  refine lv_bipush (v := 32) hx hb dL_law_689 (by decide) ?_
  refine lv_lshl (v := v2.toInt64 <<< ((32 : Int32).toInt64 &&& 63)) hx hb dL_law_691 rfl ?_
  refine lv_aload_n hx hb dL_law_692 rfl (lv_at hl 1 rfl) ?_
  refine lv_iload hx hb dL_law_693 (lv_at hl 0 rfl) ?_
  refine lv_iconst (v := 3) hx hb dL_law_695 (by decide) ?_
  refine lv_iadd hx hb dL_law_696 ?_
  refine va_sld hx hb hX hbl hbA hS hv3 dL_law_697 ?_
  refine lv_topi (fun v3 ev3 => ?_)
  refine lv_i2l (v := v3.toInt64) hx hb dL_law_698 rfl ?_
  refine lv_ldc2 (v := 4294967295) hx hb hown (hts _ wm_555) dL_law_699 ?_
  refine lv_land hx hb dL_law_702 ?_
  refine lv_lor hx hb dL_law_703 ?_
  refine lv_topl (fun w2 ew2 => ?_)
  refine lv_aload_n hx hb dL_law_704 rfl (lv_at hl 4 rfl) ?_
  by_cases hg : f_X0_isNumber v1 = 0
  · refine sh_calli (sh_runS (n := 4) (As := [.ref (q 0), .int v1, .long w2, .ref o]) (rest := []) C (c_L_has_x l hl0 D q cA ad sg x o cO f v1 w2 hg) (lw_hws hts kmL_has) List.mem_cons_self (hts _ wm_615) (hts _ wm_616) (hts _ wm_606) ⟨by decide +kernel, by decide +kernel⟩ (lw_nlen (by decide +kernel)) rfl rfl ⟨Nat.le_of_ble_eq_true rfl, Nat.le_of_ble_eq_true rfl⟩ hZ (fun z h9 => hS.2.1 z h9 (Nat.not_le.mpr h9)) hK hP hD (List.range' 7 26) (by decide) (sp_end md_len do_len) [6, 7] rfl rfl hl.1 rfl (Nat.le_of_ble_eq_true rfl) dL_law_705 hf1) hP hD hS hA (List.range' 7 26) (sp_end md_len do_len) rfl (fun H locs hP hD hS => ?_)
    rw [sp_upd_end _ _ _ 7 26 md_len do_len do_len] at hP hD
    have eM : f_M_has st v1 w2 = (1, 0) := ml_has_x hg
    refine lv_istore (lv' := [(5, .int 1), (4, .int i), (0, .ref b), (1, .ref (q 0)), (2, .ref (r 0)), (3, .ref o)]) hx hb dL_law_708 hl (by decide) rfl (fun ls hl => ?_)
    refine lv_aload_n hx hb dL_law_710 rfl (lv_at hl 4 rfl) ?_
    refine lv_aload_n hx hb dL_law_711 rfl (lv_at hl 2 rfl) ?_
    refine lv_iload hx hb dL_law_712 (lv_at hl 1 rfl) ?_
    refine lv_iconst (v := 1) hx hb dL_law_714 (by decide) ?_
    refine lv_iadd hx hb dL_law_715 ?_
    refine va_sld hx hb hX hbl hbA hS hv1 dL_law_716 ?_
    refine lw_topi ev1 ?_
    refine lv_aload_n hx hb dL_law_717 rfl (lv_at hl 2 rfl) ?_
    refine lv_iload hx hb dL_law_718 (lv_at hl 1 rfl) ?_
    refine lv_iconst (v := 2) hx hb dL_law_720 (by decide) ?_
    refine lv_iadd hx hb dL_law_721 ?_
    refine va_sld hx hb hX hbl hbA hS hv2 dL_law_722 ?_
    refine lw_topi ev2 ?_
    refine lv_i2l (v := v2.toInt64) hx hb dL_law_723 rfl ?_
    refine lv_bipush (v := 32) hx hb dL_law_724 (by decide) ?_
    refine lv_lshl (v := v2.toInt64 <<< ((32 : Int32).toInt64 &&& 63)) hx hb dL_law_726 rfl ?_
    refine lv_aload_n hx hb dL_law_727 rfl (lv_at hl 2 rfl) ?_
    refine lv_iload hx hb dL_law_728 (lv_at hl 1 rfl) ?_
    refine lv_iconst (v := 3) hx hb dL_law_730 (by decide) ?_
    refine lv_iadd hx hb dL_law_731 ?_
    refine va_sld hx hb hX hbl hbA hS hv3 dL_law_732 ?_
    refine lw_topi ev3 ?_
    refine lv_i2l (v := v3.toInt64) hx hb dL_law_733 rfl ?_
    refine lv_ldc2 (v := 4294967295) hx hb hown (hts _ wm_555) dL_law_734 ?_
    refine lv_land hx hb dL_law_737 ?_
    refine lv_lor hx hb dL_law_738 ?_
    refine lw_topl ew2 ?_
    refine sp_callz (sp_runV (As := [.int v1, .long w2]) (rest := []) C (k_M_has l D r cj th st v1 w2) (cwV 2 hts (gV wG_i wm_617 wm_618 wm_619 wm_378 wm_620) rfl rfl rfl (by decide +kernel) ⟨Nat.le_of_ble_eq_true rfl, Nat.le_of_ble_eq_true rfl⟩) hK hP hD (List.range' 0 7) (by decide) (sp_first md_len) [0, 1, 2, 3, 4, 5] rfl 0 4 rfl rfl rfl rfl hl.1 rfl (Nat.le_of_ble_eq_true rfl) dL_law_739 hf1) hP hD hS hA (List.range' 0 7) (sp_first md_len) rfl (fun H locs z2 hP hD hS => ?_)
    rw [sp_upd_first _ _ _ 7 md_len md_len] at hP hD
    rw [sp_fst eM] at hP hD
    rw [sp_snd eM]
    refine lv_istore (lv' := [(6, .int 0), (5, .int 1), (4, .int i), (0, .ref b), (1, .ref (q 0)), (2, .ref (r 0)), (3, .ref o)]) hx hb dL_law_742 hl (by decide) rfl (fun ls hl => ?_)
    refine lv_aload_n hx hb dL_law_744 rfl (lv_at hl 5 rfl) ?_
    refine sp_calli (sp_runV (As := []) (rest := []) C (k_M_thrown l D r cj 1 st ) (cwV 0 hts (gV wG_i wm_611 wm_612 wm_613 wm_378 wm_614) rfl rfl rfl (by decide +kernel) ⟨Nat.le_of_ble_eq_true rfl, Nat.le_of_ble_eq_true rfl⟩) hK hP hD (List.range' 0 7) (by decide) (sp_first md_len) [0, 1, 2, 3, 4, 5] rfl 0 4 rfl rfl rfl rfl hl.1 rfl (Nat.le_of_ble_eq_true rfl) dL_law_745 hf1) hP hD hS hA (List.range' 0 7) (sp_first md_len) rfl (fun H locs hP hD hS => ?_)
    rw [sp_upd_first _ _ _ 7 md_len md_len] at hP hD
    refine lv_iload hx hb dL_law_748 (lv_at hl 1 rfl) ?_
    refine lv_icmp_eq (tgt := 755) hx hb dL_law_750 (by decide) (fun _ => ?_) (fun h9 => absurd rfl h9)
    refine lv_iload hx hb dL_law_755 (lv_at hl 1 rfl) ?_
    refine lv_if_ne (tgt := 779) hx hb dL_law_757 (by decide) (fun _ => ?_) (fun h9 => absurd h9 (by decide))
    refine lv_goto (tgt := 857) hx hb dL_law_779 (by decide) ?_
    exact J (sg) (x) (1) (st) (f) H locs ls hr hi hP hD hS (lv_sub hl [2, 3, 4, 5, 6] rfl)
  · have hn1 : ¬ f_X0_isNumber v1 = 0 := hg
    obtain ⟨w, ew⟩ : ∃ w, w = f_X0_has sg x.1 x.2.1 x.2.2.1 x.2.2.2.1 x.2.2.2.2 v1 w2 := ⟨_, rfl⟩
    have eM : f_M_has st v1 w2 = (0, w) := (ml_has (x1 := x.1) (x2 := x.2.1) (x3 := x.2.2.1) (x4 := x.2.2.2.1) (x5 := x.2.2.2.2) hr hi hn1 w2).trans (by rw [ew])
    by_cases hz : w = 0
    · refine sh_calli (sh_runS (n := 4) (As := [.ref (q 0), .int v1, .long w2, .ref o]) (rest := []) C (c_L_has l D q cA ad sg x o cO f v1 w2 hn1 0 (by rw [← ew, if_pos hz])) (lw_hws hts kmL_has) List.mem_cons_self (hts _ wm_615) (hts _ wm_616) (hts _ wm_606) ⟨by decide +kernel, by decide +kernel⟩ (lw_nlen (by decide +kernel)) rfl rfl ⟨Nat.le_of_ble_eq_true rfl, Nat.le_of_ble_eq_true rfl⟩ hZ (fun z h9 => hS.2.1 z h9 (Nat.not_le.mpr h9)) hK hP hD (List.range' 7 26) (by decide) (sp_end md_len do_len) [6, 7] rfl rfl hl.1 rfl (Nat.le_of_ble_eq_true rfl) dL_law_705 hf0) hP hD hS hA (List.range' 7 26) (sp_end md_len do_len) rfl (fun H locs hP hD hS => ?_)
      rw [sp_upd_end _ _ _ 7 26 md_len do_len do_len] at hP hD
      refine lv_istore (lv' := [(5, .int 0), (4, .int i), (0, .ref b), (1, .ref (q 0)), (2, .ref (r 0)), (3, .ref o)]) hx hb dL_law_708 hl (by decide) rfl (fun ls hl => ?_)
      refine lv_aload_n hx hb dL_law_710 rfl (lv_at hl 4 rfl) ?_
      refine lv_aload_n hx hb dL_law_711 rfl (lv_at hl 2 rfl) ?_
      refine lv_iload hx hb dL_law_712 (lv_at hl 1 rfl) ?_
      refine lv_iconst (v := 1) hx hb dL_law_714 (by decide) ?_
      refine lv_iadd hx hb dL_law_715 ?_
      refine va_sld hx hb hX hbl hbA hS hv1 dL_law_716 ?_
      refine lw_topi ev1 ?_
      refine lv_aload_n hx hb dL_law_717 rfl (lv_at hl 2 rfl) ?_
      refine lv_iload hx hb dL_law_718 (lv_at hl 1 rfl) ?_
      refine lv_iconst (v := 2) hx hb dL_law_720 (by decide) ?_
      refine lv_iadd hx hb dL_law_721 ?_
      refine va_sld hx hb hX hbl hbA hS hv2 dL_law_722 ?_
      refine lw_topi ev2 ?_
      refine lv_i2l (v := v2.toInt64) hx hb dL_law_723 rfl ?_
      refine lv_bipush (v := 32) hx hb dL_law_724 (by decide) ?_
      refine lv_lshl (v := v2.toInt64 <<< ((32 : Int32).toInt64 &&& 63)) hx hb dL_law_726 rfl ?_
      refine lv_aload_n hx hb dL_law_727 rfl (lv_at hl 2 rfl) ?_
      refine lv_iload hx hb dL_law_728 (lv_at hl 1 rfl) ?_
      refine lv_iconst (v := 3) hx hb dL_law_730 (by decide) ?_
      refine lv_iadd hx hb dL_law_731 ?_
      refine va_sld hx hb hX hbl hbA hS hv3 dL_law_732 ?_
      refine lw_topi ev3 ?_
      refine lv_i2l (v := v3.toInt64) hx hb dL_law_733 rfl ?_
      refine lv_ldc2 (v := 4294967295) hx hb hown (hts _ wm_555) dL_law_734 ?_
      refine lv_land hx hb dL_law_737 ?_
      refine lv_lor hx hb dL_law_738 ?_
      refine lw_topl ew2 ?_
      refine sp_callz (sp_runV (As := [.int v1, .long w2]) (rest := []) C (k_M_has l D r cj th st v1 w2) (cwV 2 hts (gV wG_i wm_617 wm_618 wm_619 wm_378 wm_620) rfl rfl rfl (by decide +kernel) ⟨Nat.le_of_ble_eq_true rfl, Nat.le_of_ble_eq_true rfl⟩) hK hP hD (List.range' 0 7) (by decide) (sp_first md_len) [0, 1, 2, 3, 4, 5] rfl 0 4 rfl rfl rfl rfl hl.1 rfl (Nat.le_of_ble_eq_true rfl) dL_law_739 hf0) hP hD hS hA (List.range' 0 7) (sp_first md_len) rfl (fun H locs z2 hP hD hS => ?_)
      rw [sp_upd_first _ _ _ 7 md_len md_len] at hP hD
      rw [sp_fst eM] at hP hD
      rw [sp_snd eM]
      refine lv_istore (lv' := [(6, .int w), (5, .int 0), (4, .int i), (0, .ref b), (1, .ref (q 0)), (2, .ref (r 0)), (3, .ref o)]) hx hb dL_law_742 hl (by decide) rfl (fun ls hl => ?_)
      refine lv_aload_n hx hb dL_law_744 rfl (lv_at hl 5 rfl) ?_
      refine sp_calli (sp_runV (As := []) (rest := []) C (k_M_thrown l D r cj 0 st ) (cwV 0 hts (gV wG_i wm_611 wm_612 wm_613 wm_378 wm_614) rfl rfl rfl (by decide +kernel) ⟨Nat.le_of_ble_eq_true rfl, Nat.le_of_ble_eq_true rfl⟩) hK hP hD (List.range' 0 7) (by decide) (sp_first md_len) [0, 1, 2, 3, 4, 5] rfl 0 4 rfl rfl rfl rfl hl.1 rfl (Nat.le_of_ble_eq_true rfl) dL_law_745 hf0) hP hD hS hA (List.range' 0 7) (sp_first md_len) rfl (fun H locs hP hD hS => ?_)
      rw [sp_upd_first _ _ _ 7 md_len md_len] at hP hD
      refine lv_iload hx hb dL_law_748 (lv_at hl 1 rfl) ?_
      refine lv_icmp_eq (tgt := 755) hx hb dL_law_750 (by decide) (fun _ => ?_) (fun h9 => absurd rfl h9)
      refine lv_iload hx hb dL_law_755 (lv_at hl 1 rfl) ?_
      refine lv_if_ne (tgt := 779) hx hb dL_law_757 (by decide) (fun h9 => absurd rfl h9) (fun _ => ?_)
      refine lv_aload_n hx hb dL_law_760 rfl (lv_at hl 6 rfl) ?_
      refine lv_iconst (v := 0) hx hb dL_law_761 (by decide) ?_
      refine va_lald hx hb hK hP 32 7 lo_at rfl (vp_in_iff.mpr (by decide)) dL_law_762 ?_
      refine lw_topl (y := 0) (vp_upd_self _ _ _).symm ?_
      refine lv_iload hx hb dL_law_763 (lv_at hl 0 rfl) ?_
      refine lv_if_eq (tgt := 772) hx hb dL_law_765 (by decide) (fun _ => ?_) (fun h9 => absurd hz h9)
      refine lv_lconst (v := 0) hx hb dL_law_772 (by decide) ?_
      refine W.lcmp hx hb dL_law_773 ?_
      refine lv_if_eq (tgt := 779) hx hb dL_law_774 (by decide) (fun _ => ?_) (fun h9 => absurd ((lg_cmp_eq _ _).mpr rfl) h9)
      refine lv_goto (tgt := 857) hx hb dL_law_779 (by decide) ?_
      refine W.widen (k := cells + 1) (n := slots + 6) (Nat.le_add_right _ _) (Nat.le_add_right _ _) ?_
      exact J (sg) (x) (0) (st) (vp_updL f (0 : Int32).toNatClampNeg 0) H locs ls hr hi hP hD hS (lv_sub hl [2, 3, 4, 5, 6] rfl)
    · refine sh_calli (sh_runS (n := 4) (As := [.ref (q 0), .int v1, .long w2, .ref o]) (rest := []) C (c_L_has l D q cA ad sg x o cO f v1 w2 hn1 1 (by rw [← ew, if_neg hz])) (lw_hws hts kmL_has) List.mem_cons_self (hts _ wm_615) (hts _ wm_616) (hts _ wm_606) ⟨by decide +kernel, by decide +kernel⟩ (lw_nlen (by decide +kernel)) rfl rfl ⟨Nat.le_of_ble_eq_true rfl, Nat.le_of_ble_eq_true rfl⟩ hZ (fun z h9 => hS.2.1 z h9 (Nat.not_le.mpr h9)) hK hP hD (List.range' 7 26) (by decide) (sp_end md_len do_len) [6, 7] rfl rfl hl.1 rfl (Nat.le_of_ble_eq_true rfl) dL_law_705 hf0) hP hD hS hA (List.range' 7 26) (sp_end md_len do_len) rfl (fun H locs hP hD hS => ?_)
      rw [sp_upd_end _ _ _ 7 26 md_len do_len do_len] at hP hD
      refine lv_istore (lv' := [(5, .int 0), (4, .int i), (0, .ref b), (1, .ref (q 0)), (2, .ref (r 0)), (3, .ref o)]) hx hb dL_law_708 hl (by decide) rfl (fun ls hl => ?_)
      refine lv_aload_n hx hb dL_law_710 rfl (lv_at hl 4 rfl) ?_
      refine lv_aload_n hx hb dL_law_711 rfl (lv_at hl 2 rfl) ?_
      refine lv_iload hx hb dL_law_712 (lv_at hl 1 rfl) ?_
      refine lv_iconst (v := 1) hx hb dL_law_714 (by decide) ?_
      refine lv_iadd hx hb dL_law_715 ?_
      refine va_sld hx hb hX hbl hbA hS hv1 dL_law_716 ?_
      refine lw_topi ev1 ?_
      refine lv_aload_n hx hb dL_law_717 rfl (lv_at hl 2 rfl) ?_
      refine lv_iload hx hb dL_law_718 (lv_at hl 1 rfl) ?_
      refine lv_iconst (v := 2) hx hb dL_law_720 (by decide) ?_
      refine lv_iadd hx hb dL_law_721 ?_
      refine va_sld hx hb hX hbl hbA hS hv2 dL_law_722 ?_
      refine lw_topi ev2 ?_
      refine lv_i2l (v := v2.toInt64) hx hb dL_law_723 rfl ?_
      refine lv_bipush (v := 32) hx hb dL_law_724 (by decide) ?_
      refine lv_lshl (v := v2.toInt64 <<< ((32 : Int32).toInt64 &&& 63)) hx hb dL_law_726 rfl ?_
      refine lv_aload_n hx hb dL_law_727 rfl (lv_at hl 2 rfl) ?_
      refine lv_iload hx hb dL_law_728 (lv_at hl 1 rfl) ?_
      refine lv_iconst (v := 3) hx hb dL_law_730 (by decide) ?_
      refine lv_iadd hx hb dL_law_731 ?_
      refine va_sld hx hb hX hbl hbA hS hv3 dL_law_732 ?_
      refine lw_topi ev3 ?_
      refine lv_i2l (v := v3.toInt64) hx hb dL_law_733 rfl ?_
      refine lv_ldc2 (v := 4294967295) hx hb hown (hts _ wm_555) dL_law_734 ?_
      refine lv_land hx hb dL_law_737 ?_
      refine lv_lor hx hb dL_law_738 ?_
      refine lw_topl ew2 ?_
      refine sp_callz (sp_runV (As := [.int v1, .long w2]) (rest := []) C (k_M_has l D r cj th st v1 w2) (cwV 2 hts (gV wG_i wm_617 wm_618 wm_619 wm_378 wm_620) rfl rfl rfl (by decide +kernel) ⟨Nat.le_of_ble_eq_true rfl, Nat.le_of_ble_eq_true rfl⟩) hK hP hD (List.range' 0 7) (by decide) (sp_first md_len) [0, 1, 2, 3, 4, 5] rfl 0 4 rfl rfl rfl rfl hl.1 rfl (Nat.le_of_ble_eq_true rfl) dL_law_739 hf0) hP hD hS hA (List.range' 0 7) (sp_first md_len) rfl (fun H locs z2 hP hD hS => ?_)
      rw [sp_upd_first _ _ _ 7 md_len md_len] at hP hD
      rw [sp_fst eM] at hP hD
      rw [sp_snd eM]
      refine lv_istore (lv' := [(6, .int w), (5, .int 0), (4, .int i), (0, .ref b), (1, .ref (q 0)), (2, .ref (r 0)), (3, .ref o)]) hx hb dL_law_742 hl (by decide) rfl (fun ls hl => ?_)
      refine lv_aload_n hx hb dL_law_744 rfl (lv_at hl 5 rfl) ?_
      refine sp_calli (sp_runV (As := []) (rest := []) C (k_M_thrown l D r cj 0 st ) (cwV 0 hts (gV wG_i wm_611 wm_612 wm_613 wm_378 wm_614) rfl rfl rfl (by decide +kernel) ⟨Nat.le_of_ble_eq_true rfl, Nat.le_of_ble_eq_true rfl⟩) hK hP hD (List.range' 0 7) (by decide) (sp_first md_len) [0, 1, 2, 3, 4, 5] rfl 0 4 rfl rfl rfl rfl hl.1 rfl (Nat.le_of_ble_eq_true rfl) dL_law_745 hf0) hP hD hS hA (List.range' 0 7) (sp_first md_len) rfl (fun H locs hP hD hS => ?_)
      rw [sp_upd_first _ _ _ 7 md_len md_len] at hP hD
      refine lv_iload hx hb dL_law_748 (lv_at hl 1 rfl) ?_
      refine lv_icmp_eq (tgt := 755) hx hb dL_law_750 (by decide) (fun _ => ?_) (fun h9 => absurd rfl h9)
      refine lv_iload hx hb dL_law_755 (lv_at hl 1 rfl) ?_
      refine lv_if_ne (tgt := 779) hx hb dL_law_757 (by decide) (fun h9 => absurd rfl h9) (fun _ => ?_)
      refine lv_aload_n hx hb dL_law_760 rfl (lv_at hl 6 rfl) ?_
      refine lv_iconst (v := 0) hx hb dL_law_761 (by decide) ?_
      refine va_lald hx hb hK hP 32 7 lo_at rfl (vp_in_iff.mpr (by decide)) dL_law_762 ?_
      refine lw_topl (y := 1) (vp_upd_self _ _ _).symm ?_
      refine lv_iload hx hb dL_law_763 (lv_at hl 0 rfl) ?_
      refine lv_if_eq (tgt := 772) hx hb dL_law_765 (by decide) (fun h9 => absurd h9 hz) (fun _ => ?_)
      refine lv_lconst (v := 1) hx hb dL_law_768 (by decide) ?_
      refine lv_goto (tgt := 773) hx hb dL_law_769 (by decide) ?_
      refine W.lcmp hx hb dL_law_773 ?_
      refine lv_if_eq (tgt := 779) hx hb dL_law_774 (by decide) (fun _ => ?_) (fun h9 => absurd ((lg_cmp_eq _ _).mpr rfl) h9)
      refine lv_goto (tgt := 857) hx hb dL_law_779 (by decide) ?_
      refine W.widen (k := cells + 1) (n := slots + 6) (Nat.le_add_right _ _) (Nat.le_add_right _ _) ?_
      exact J (sg) (x) (0) (st) (vp_updL f (0 : Int32).toNatClampNeg 1) H locs ls hr hi hP hD hS (lv_sub hl [2, 3, 4, 5, 6] rfl)
set_option maxHeartbeats 4000000 in
set_option maxRecDepth 100000 in
theorem lw_c8 (p : Program) (l : Launch) (e : Env) (s : State) (m : MethodId) (below : List Frame) (meth : Method) (c : Code) (b : Nat) (D : va_G) (q : Nat → Nat) (cA : ClassId) (ad : Nat → Nat) (r : Nat → Nat) (cj : Nat → ClassId) (o : Nat) (cO : ClassId) {L : Nat} {xs : Nat → Int32} (F : lw_F p l s m meth c b L xs D cA cj cO) {i : Int32} (hv : lw_in i L) {cells slots : Nat} (hf1 : cells + 1 ≤ room_1.cells ∧ slots + 6 ≤ room_1.slots) (J : lw_J p l e s m below meth c b D q cA ad r cj o cO i 857 (cells + 1) (slots + 6)) : lw_J p l e s m below meth c b D q cA ad r cj o cO i 782 cells slots := by
  obtain ⟨C, hX, hbl, hK, hZ, hl0⟩ := F
  obtain ⟨hv0, hv1, hv2, hv3, hv4, hv5, hv6⟩ := hv
  have hf0 : cells + 0 ≤ room_1.cells ∧ slots + 0 ≤ room_1.slots := ⟨Nat.le_trans (Nat.le_add_right cells 1) hf1.1, Nat.le_trans (Nat.le_add_right slots 6) hf1.2⟩
  have hA : ∀ z : Nat, s.heap.size ≤ z → (fun z : Nat => s.heap.size ≤ z) z := fun _ h => h
  have hbA : ¬ (fun z : Nat => s.heap.size ≤ z) b := Nat.not_le.mpr hbl
  have hx := C.1
  have hb := C.2.1
  have hown := C.2.2.2.2.1
  have hts := C.2.2.2.2.2.1
  intro sg x th st f H locs ls hr hi hP hD hS hl
  refine lv_aload_n hx hb dL_law_782 rfl (lv_at hl 2 rfl) ?_
  refine lv_aload_n hx hb dL_law_783 rfl (lv_at hl 1 rfl) ?_
  refine lv_iload hx hb dL_law_784 (lv_at hl 0 rfl) ?_
  refine lv_iconst (v := 1) hx hb dL_law_786 (by decide) ?_
  refine lv_iadd hx hb dL_law_787 ?_
  refine va_sld hx hb hX hbl hbA hS hv1 dL_law_788 ?_
  refine lv_topi (fun v1 ev1 => ?_)
  refine lv_aload_n hx hb dL_law_789 rfl (lv_at hl 1 rfl) ?_
  refine lv_iload hx hb dL_law_790 (lv_at hl 0 rfl) ?_
  refine lv_iconst (v := 2) hx hb dL_law_792 (by decide) ?_
  refine lv_iadd hx hb dL_law_793 ?_
  refine va_sld hx hb hX hbl hbA hS hv2 dL_law_794 ?_
  refine lv_topi (fun v2 ev2 => ?_)
  refine lv_aload_n hx hb dL_law_795 rfl (lv_at hl 4 rfl) ?_
  by_cases hg : f_X0_isNumber v1 = 0 ∨ f_X0_isNumber v2 = 0
  · refine sh_calli (sh_runS (n := 4) (As := [.ref (q 0), .int v1, .int v2, .ref o]) (rest := []) C (c_L_covers_x l hl0 D q cA ad sg x o cO f v1 v2 hg) (lw_hws hts kmL_covers) List.mem_cons_self (hts _ wm_621) (hts _ wm_622) (hts _ wm_606) ⟨by decide +kernel, by decide +kernel⟩ (lw_nlen (by decide +kernel)) rfl rfl ⟨Nat.le_of_ble_eq_true rfl, Nat.le_of_ble_eq_true rfl⟩ hZ (fun z h9 => hS.2.1 z h9 (Nat.not_le.mpr h9)) hK hP hD (List.range' 7 26) (by decide) (sp_end md_len do_len) [6, 7] rfl rfl hl.1 rfl (Nat.le_of_ble_eq_true rfl) dL_law_796 hf1) hP hD hS hA (List.range' 7 26) (sp_end md_len do_len) rfl (fun H locs hP hD hS => ?_)
    rw [sp_upd_end _ _ _ 7 26 md_len do_len do_len] at hP hD
    have eM : f_M_covers st v1 v2 = (1, 0) := ml_covers_x hg
    refine lv_istore (lv' := [(5, .int 1), (4, .int i), (0, .ref b), (1, .ref (q 0)), (2, .ref (r 0)), (3, .ref o)]) hx hb dL_law_799 hl (by decide) rfl (fun ls hl => ?_)
    refine lv_aload_n hx hb dL_law_801 rfl (lv_at hl 4 rfl) ?_
    refine lv_aload_n hx hb dL_law_802 rfl (lv_at hl 2 rfl) ?_
    refine lv_iload hx hb dL_law_803 (lv_at hl 1 rfl) ?_
    refine lv_iconst (v := 1) hx hb dL_law_805 (by decide) ?_
    refine lv_iadd hx hb dL_law_806 ?_
    refine va_sld hx hb hX hbl hbA hS hv1 dL_law_807 ?_
    refine lw_topi ev1 ?_
    refine lv_aload_n hx hb dL_law_808 rfl (lv_at hl 2 rfl) ?_
    refine lv_iload hx hb dL_law_809 (lv_at hl 1 rfl) ?_
    refine lv_iconst (v := 2) hx hb dL_law_811 (by decide) ?_
    refine lv_iadd hx hb dL_law_812 ?_
    refine va_sld hx hb hX hbl hbA hS hv2 dL_law_813 ?_
    refine lw_topi ev2 ?_
    refine sp_callz (sp_runV (As := [.int v1, .int v2]) (rest := []) C (k_M_covers l D r cj th st v1 v2) (cwV 2 hts (gV wG_i wm_623 wm_624 wm_625 wm_378 wm_626) rfl rfl rfl (by decide +kernel) ⟨Nat.le_of_ble_eq_true rfl, Nat.le_of_ble_eq_true rfl⟩) hK hP hD (List.range' 0 7) (by decide) (sp_first md_len) [0, 1, 2, 3, 4, 5] rfl 0 4 rfl rfl rfl rfl hl.1 rfl (Nat.le_of_ble_eq_true rfl) dL_law_814 hf1) hP hD hS hA (List.range' 0 7) (sp_first md_len) rfl (fun H locs z2 hP hD hS => ?_)
    rw [sp_upd_first _ _ _ 7 md_len md_len] at hP hD
    rw [sp_fst eM] at hP hD
    rw [sp_snd eM]
    refine lv_istore (lv' := [(6, .int 0), (5, .int 1), (4, .int i), (0, .ref b), (1, .ref (q 0)), (2, .ref (r 0)), (3, .ref o)]) hx hb dL_law_817 hl (by decide) rfl (fun ls hl => ?_)
    refine lv_aload_n hx hb dL_law_819 rfl (lv_at hl 5 rfl) ?_
    refine sp_calli (sp_runV (As := []) (rest := []) C (k_M_thrown l D r cj 1 st ) (cwV 0 hts (gV wG_i wm_611 wm_612 wm_613 wm_378 wm_614) rfl rfl rfl (by decide +kernel) ⟨Nat.le_of_ble_eq_true rfl, Nat.le_of_ble_eq_true rfl⟩) hK hP hD (List.range' 0 7) (by decide) (sp_first md_len) [0, 1, 2, 3, 4, 5] rfl 0 4 rfl rfl rfl rfl hl.1 rfl (Nat.le_of_ble_eq_true rfl) dL_law_820 hf1) hP hD hS hA (List.range' 0 7) (sp_first md_len) rfl (fun H locs hP hD hS => ?_)
    rw [sp_upd_first _ _ _ 7 md_len md_len] at hP hD
    refine lv_iload hx hb dL_law_823 (lv_at hl 1 rfl) ?_
    refine lv_icmp_eq (tgt := 830) hx hb dL_law_825 (by decide) (fun _ => ?_) (fun h9 => absurd rfl h9)
    refine lv_iload hx hb dL_law_830 (lv_at hl 1 rfl) ?_
    refine lv_if_ne (tgt := 854) hx hb dL_law_832 (by decide) (fun _ => ?_) (fun h9 => absurd h9 (by decide))
    refine lv_goto (tgt := 857) hx hb dL_law_854 (by decide) ?_
    exact J (sg) (x) (1) (st) (f) H locs ls hr hi hP hD hS (lv_sub hl [2, 3, 4, 5, 6] rfl)
  · have hn1 : ¬ f_X0_isNumber v1 = 0 := fun h => hg (Or.inl h)
    have hn2 : ¬ f_X0_isNumber v2 = 0 := fun h => hg (Or.inr h)
    obtain ⟨w, ew⟩ : ∃ w, w = f_X0_covers sg x.1 x.2.1 x.2.2.1 x.2.2.2.1 x.2.2.2.2 v1 v2 := ⟨_, rfl⟩
    have eM : f_M_covers st v1 v2 = (0, w) := (ml_covers (x1 := x.1) (x2 := x.2.1) (x3 := x.2.2.1) (x4 := x.2.2.2.1) (x5 := x.2.2.2.2) hr hi hn1 hn2).trans (by rw [ew])
    by_cases hz : w = 0
    · refine sh_calli (sh_runS (n := 4) (As := [.ref (q 0), .int v1, .int v2, .ref o]) (rest := []) C (c_L_covers l D q cA ad sg x o cO f v1 v2 hn1 hn2 0 (by rw [← ew, if_pos hz])) (lw_hws hts kmL_covers) List.mem_cons_self (hts _ wm_621) (hts _ wm_622) (hts _ wm_606) ⟨by decide +kernel, by decide +kernel⟩ (lw_nlen (by decide +kernel)) rfl rfl ⟨Nat.le_of_ble_eq_true rfl, Nat.le_of_ble_eq_true rfl⟩ hZ (fun z h9 => hS.2.1 z h9 (Nat.not_le.mpr h9)) hK hP hD (List.range' 7 26) (by decide) (sp_end md_len do_len) [6, 7] rfl rfl hl.1 rfl (Nat.le_of_ble_eq_true rfl) dL_law_796 hf0) hP hD hS hA (List.range' 7 26) (sp_end md_len do_len) rfl (fun H locs hP hD hS => ?_)
      rw [sp_upd_end _ _ _ 7 26 md_len do_len do_len] at hP hD
      refine lv_istore (lv' := [(5, .int 0), (4, .int i), (0, .ref b), (1, .ref (q 0)), (2, .ref (r 0)), (3, .ref o)]) hx hb dL_law_799 hl (by decide) rfl (fun ls hl => ?_)
      refine lv_aload_n hx hb dL_law_801 rfl (lv_at hl 4 rfl) ?_
      refine lv_aload_n hx hb dL_law_802 rfl (lv_at hl 2 rfl) ?_
      refine lv_iload hx hb dL_law_803 (lv_at hl 1 rfl) ?_
      refine lv_iconst (v := 1) hx hb dL_law_805 (by decide) ?_
      refine lv_iadd hx hb dL_law_806 ?_
      refine va_sld hx hb hX hbl hbA hS hv1 dL_law_807 ?_
      refine lw_topi ev1 ?_
      refine lv_aload_n hx hb dL_law_808 rfl (lv_at hl 2 rfl) ?_
      refine lv_iload hx hb dL_law_809 (lv_at hl 1 rfl) ?_
      refine lv_iconst (v := 2) hx hb dL_law_811 (by decide) ?_
      refine lv_iadd hx hb dL_law_812 ?_
      refine va_sld hx hb hX hbl hbA hS hv2 dL_law_813 ?_
      refine lw_topi ev2 ?_
      refine sp_callz (sp_runV (As := [.int v1, .int v2]) (rest := []) C (k_M_covers l D r cj th st v1 v2) (cwV 2 hts (gV wG_i wm_623 wm_624 wm_625 wm_378 wm_626) rfl rfl rfl (by decide +kernel) ⟨Nat.le_of_ble_eq_true rfl, Nat.le_of_ble_eq_true rfl⟩) hK hP hD (List.range' 0 7) (by decide) (sp_first md_len) [0, 1, 2, 3, 4, 5] rfl 0 4 rfl rfl rfl rfl hl.1 rfl (Nat.le_of_ble_eq_true rfl) dL_law_814 hf0) hP hD hS hA (List.range' 0 7) (sp_first md_len) rfl (fun H locs z2 hP hD hS => ?_)
      rw [sp_upd_first _ _ _ 7 md_len md_len] at hP hD
      rw [sp_fst eM] at hP hD
      rw [sp_snd eM]
      refine lv_istore (lv' := [(6, .int w), (5, .int 0), (4, .int i), (0, .ref b), (1, .ref (q 0)), (2, .ref (r 0)), (3, .ref o)]) hx hb dL_law_817 hl (by decide) rfl (fun ls hl => ?_)
      refine lv_aload_n hx hb dL_law_819 rfl (lv_at hl 5 rfl) ?_
      refine sp_calli (sp_runV (As := []) (rest := []) C (k_M_thrown l D r cj 0 st ) (cwV 0 hts (gV wG_i wm_611 wm_612 wm_613 wm_378 wm_614) rfl rfl rfl (by decide +kernel) ⟨Nat.le_of_ble_eq_true rfl, Nat.le_of_ble_eq_true rfl⟩) hK hP hD (List.range' 0 7) (by decide) (sp_first md_len) [0, 1, 2, 3, 4, 5] rfl 0 4 rfl rfl rfl rfl hl.1 rfl (Nat.le_of_ble_eq_true rfl) dL_law_820 hf0) hP hD hS hA (List.range' 0 7) (sp_first md_len) rfl (fun H locs hP hD hS => ?_)
      rw [sp_upd_first _ _ _ 7 md_len md_len] at hP hD
      refine lv_iload hx hb dL_law_823 (lv_at hl 1 rfl) ?_
      refine lv_icmp_eq (tgt := 830) hx hb dL_law_825 (by decide) (fun _ => ?_) (fun h9 => absurd rfl h9)
      refine lv_iload hx hb dL_law_830 (lv_at hl 1 rfl) ?_
      refine lv_if_ne (tgt := 854) hx hb dL_law_832 (by decide) (fun h9 => absurd rfl h9) (fun _ => ?_)
      refine lv_aload_n hx hb dL_law_835 rfl (lv_at hl 6 rfl) ?_
      refine lv_iconst (v := 0) hx hb dL_law_836 (by decide) ?_
      refine va_lald hx hb hK hP 32 7 lo_at rfl (vp_in_iff.mpr (by decide)) dL_law_837 ?_
      refine lw_topl (y := 0) (vp_upd_self _ _ _).symm ?_
      refine lv_iload hx hb dL_law_838 (lv_at hl 0 rfl) ?_
      refine lv_if_eq (tgt := 847) hx hb dL_law_840 (by decide) (fun _ => ?_) (fun h9 => absurd hz h9)
      refine lv_lconst (v := 0) hx hb dL_law_847 (by decide) ?_
      refine W.lcmp hx hb dL_law_848 ?_
      refine lv_if_eq (tgt := 854) hx hb dL_law_849 (by decide) (fun _ => ?_) (fun h9 => absurd ((lg_cmp_eq _ _).mpr rfl) h9)
      refine lv_goto (tgt := 857) hx hb dL_law_854 (by decide) ?_
      refine W.widen (k := cells + 1) (n := slots + 6) (Nat.le_add_right _ _) (Nat.le_add_right _ _) ?_
      exact J (sg) (x) (0) (st) (vp_updL f (0 : Int32).toNatClampNeg 0) H locs ls hr hi hP hD hS (lv_sub hl [2, 3, 4, 5, 6] rfl)
    · refine sh_calli (sh_runS (n := 4) (As := [.ref (q 0), .int v1, .int v2, .ref o]) (rest := []) C (c_L_covers l D q cA ad sg x o cO f v1 v2 hn1 hn2 1 (by rw [← ew, if_neg hz])) (lw_hws hts kmL_covers) List.mem_cons_self (hts _ wm_621) (hts _ wm_622) (hts _ wm_606) ⟨by decide +kernel, by decide +kernel⟩ (lw_nlen (by decide +kernel)) rfl rfl ⟨Nat.le_of_ble_eq_true rfl, Nat.le_of_ble_eq_true rfl⟩ hZ (fun z h9 => hS.2.1 z h9 (Nat.not_le.mpr h9)) hK hP hD (List.range' 7 26) (by decide) (sp_end md_len do_len) [6, 7] rfl rfl hl.1 rfl (Nat.le_of_ble_eq_true rfl) dL_law_796 hf0) hP hD hS hA (List.range' 7 26) (sp_end md_len do_len) rfl (fun H locs hP hD hS => ?_)
      rw [sp_upd_end _ _ _ 7 26 md_len do_len do_len] at hP hD
      refine lv_istore (lv' := [(5, .int 0), (4, .int i), (0, .ref b), (1, .ref (q 0)), (2, .ref (r 0)), (3, .ref o)]) hx hb dL_law_799 hl (by decide) rfl (fun ls hl => ?_)
      refine lv_aload_n hx hb dL_law_801 rfl (lv_at hl 4 rfl) ?_
      refine lv_aload_n hx hb dL_law_802 rfl (lv_at hl 2 rfl) ?_
      refine lv_iload hx hb dL_law_803 (lv_at hl 1 rfl) ?_
      refine lv_iconst (v := 1) hx hb dL_law_805 (by decide) ?_
      refine lv_iadd hx hb dL_law_806 ?_
      refine va_sld hx hb hX hbl hbA hS hv1 dL_law_807 ?_
      refine lw_topi ev1 ?_
      refine lv_aload_n hx hb dL_law_808 rfl (lv_at hl 2 rfl) ?_
      refine lv_iload hx hb dL_law_809 (lv_at hl 1 rfl) ?_
      refine lv_iconst (v := 2) hx hb dL_law_811 (by decide) ?_
      refine lv_iadd hx hb dL_law_812 ?_
      refine va_sld hx hb hX hbl hbA hS hv2 dL_law_813 ?_
      refine lw_topi ev2 ?_
      refine sp_callz (sp_runV (As := [.int v1, .int v2]) (rest := []) C (k_M_covers l D r cj th st v1 v2) (cwV 2 hts (gV wG_i wm_623 wm_624 wm_625 wm_378 wm_626) rfl rfl rfl (by decide +kernel) ⟨Nat.le_of_ble_eq_true rfl, Nat.le_of_ble_eq_true rfl⟩) hK hP hD (List.range' 0 7) (by decide) (sp_first md_len) [0, 1, 2, 3, 4, 5] rfl 0 4 rfl rfl rfl rfl hl.1 rfl (Nat.le_of_ble_eq_true rfl) dL_law_814 hf0) hP hD hS hA (List.range' 0 7) (sp_first md_len) rfl (fun H locs z2 hP hD hS => ?_)
      rw [sp_upd_first _ _ _ 7 md_len md_len] at hP hD
      rw [sp_fst eM] at hP hD
      rw [sp_snd eM]
      refine lv_istore (lv' := [(6, .int w), (5, .int 0), (4, .int i), (0, .ref b), (1, .ref (q 0)), (2, .ref (r 0)), (3, .ref o)]) hx hb dL_law_817 hl (by decide) rfl (fun ls hl => ?_)
      refine lv_aload_n hx hb dL_law_819 rfl (lv_at hl 5 rfl) ?_
      refine sp_calli (sp_runV (As := []) (rest := []) C (k_M_thrown l D r cj 0 st ) (cwV 0 hts (gV wG_i wm_611 wm_612 wm_613 wm_378 wm_614) rfl rfl rfl (by decide +kernel) ⟨Nat.le_of_ble_eq_true rfl, Nat.le_of_ble_eq_true rfl⟩) hK hP hD (List.range' 0 7) (by decide) (sp_first md_len) [0, 1, 2, 3, 4, 5] rfl 0 4 rfl rfl rfl rfl hl.1 rfl (Nat.le_of_ble_eq_true rfl) dL_law_820 hf0) hP hD hS hA (List.range' 0 7) (sp_first md_len) rfl (fun H locs hP hD hS => ?_)
      rw [sp_upd_first _ _ _ 7 md_len md_len] at hP hD
      refine lv_iload hx hb dL_law_823 (lv_at hl 1 rfl) ?_
      refine lv_icmp_eq (tgt := 830) hx hb dL_law_825 (by decide) (fun _ => ?_) (fun h9 => absurd rfl h9)
      refine lv_iload hx hb dL_law_830 (lv_at hl 1 rfl) ?_
      refine lv_if_ne (tgt := 854) hx hb dL_law_832 (by decide) (fun h9 => absurd rfl h9) (fun _ => ?_)
      refine lv_aload_n hx hb dL_law_835 rfl (lv_at hl 6 rfl) ?_
      refine lv_iconst (v := 0) hx hb dL_law_836 (by decide) ?_
      refine va_lald hx hb hK hP 32 7 lo_at rfl (vp_in_iff.mpr (by decide)) dL_law_837 ?_
      refine lw_topl (y := 1) (vp_upd_self _ _ _).symm ?_
      refine lv_iload hx hb dL_law_838 (lv_at hl 0 rfl) ?_
      refine lv_if_eq (tgt := 847) hx hb dL_law_840 (by decide) (fun h9 => absurd h9 hz) (fun _ => ?_)
      refine lv_lconst (v := 1) hx hb dL_law_843 (by decide) ?_
      refine lv_goto (tgt := 848) hx hb dL_law_844 (by decide) ?_
      refine W.lcmp hx hb dL_law_848 ?_
      refine lv_if_eq (tgt := 854) hx hb dL_law_849 (by decide) (fun _ => ?_) (fun h9 => absurd ((lg_cmp_eq _ _).mpr rfl) h9)
      refine lv_goto (tgt := 857) hx hb dL_law_854 (by decide) ?_
      refine W.widen (k := cells + 1) (n := slots + 6) (Nat.le_add_right _ _) (Nat.le_add_right _ _) ?_
      exact J (sg) (x) (0) (st) (vp_updL f (0 : Int32).toNatClampNeg 1) H locs ls hr hi hP hD hS (lv_sub hl [2, 3, 4, 5, 6] rfl)
