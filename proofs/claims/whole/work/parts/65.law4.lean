theorem lw_sub7 {L : Nat} (h : L ≤ 3584) : (Int32.ofNat L - 7).toInt = (L : Int) - 7 := by
  have e : (Int32.ofNat L).toInt = (L : Int) := nI_toInt (n := L) (by omega)
  rw [Int32.toInt_sub, e, show (7 : Int32).toInt = 7 by decide]
  exact Int.bmod_eq_of_le (by omega) (by omega)
theorem lw_nxt {L j : Nat} (h : L ≤ 3584) (hj : 7 * j ≤ L) (h9 : ¬ Int32.ofNat L - 7 < nI (7 * j)) : 7 * j + 7 ≤ L := by
  rw [Int32.lt_iff_toInt_lt, lw_sub7 h, nI_toInt (by omega)] at h9
  omega
theorem lw_ins {L j : Nat} (h : L ≤ 3584) (hj : 7 * j + 7 ≤ L) : lw_in (nI (7 * j)) L := by
  have k : ∀ t, t < 7 → vp_in (nI (7 * j) + nI t) L := fun t ht => by
    rw [nI_add]
    exact vp_in_nI (by omega) (by omega)
  exact ⟨vp_in_nI (by omega) (by omega), k 1 (by decide), k 2 (by decide), k 3 (by decide), k 4 (by decide), k 5 (by decide), k 6 (by decide)⟩
theorem lw_inc (j : Nat) : nI (7 * j) + Int32.ofInt 7 = nI (7 * (j + 1)) := by
  rw [show Int32.ofInt 7 = nI 7 by decide, nI_add]
  rfl
set_option maxHeartbeats 4000000 in
set_option maxRecDepth 100000 in
theorem law_loop (p : Program) (l : Launch) (e : Env) (s : State) (m : MethodId) (below : List Frame) (meth : Method) (c : Code) (b : Nat) (D : va_G) (q : Nat → Nat) (cA : ClassId) (ad : Nat → Nat) (r : Nat → Nat) (cj : Nat → ClassId) (o : Nat) (cO : ClassId) {L : Nat} {xs : Nat → Int32} (hL : L ≤ 3584) (F : lw_F p l s m meth c b L xs D cA cj cO) : ∀ (n j : Nat), 7 * j ≤ L → L + 1 ≤ 7 * j + n → lw_J p l e s m below meth c b D q cA ad r cj o cO (nI (7 * j)) 23 (33 + j) (272 + 6 * j) := by
  obtain ⟨C, hX, hbl, hK, hZ, hl0⟩ := id F
  have hbA : ¬ (fun z : Nat => s.heap.size ≤ z) b := Nat.not_le.mpr hbl
  have hx := C.1
  have hb := C.2.1
  intro n
  induction n with
  | zero =>
    intro j h1 h2
    exact absurd h2 (by omega)
  | succ n ih =>
    intro j hj hn sg x th st f H locs ls hr hi hP hD hS hl
    refine lv_iload hx hb dL_law_23 (lv_at hl 0 rfl) ?_
    refine lv_aload_n hx hb dL_law_25 rfl (lv_at hl 1 rfl) ?_
    refine va_slen hx hb hX hbl hbA hS dL_law_26 ?_
    refine lv_bipush (v := 7) hx hb dL_law_27 (by decide) ?_
    refine lv_isub hx hb dL_law_29 ?_
    refine lv_icmp_gt (tgt := 863) hx hb dL_law_30 (by decide) (fun h9 => ?_) (fun h9 => ?_)
    · refine lv_iconst (v := 1) hx hb dL_law_863 (by decide) ?_
      refine va_forget (fun q hq => hS.2.2 q hq) ?_
      refine W.widen (k := 645548) (n := 7159459) (by omega) (by omega) ?_
      exact lw_ret hx hb C.2.2.1 C.2.2.2.2.2.2.1 dL_law_864
    · have hlt := lw_nxt hL hj h9
      have hv := lw_ins hL hlt
      have hf1 : 33 + j + 1 ≤ room_1.cells ∧ 272 + 6 * j + 6 ≤ room_1.slots := ⟨by show 33 + j + 1 ≤ 645548; omega, by show 272 + 6 * j + 6 ≤ 7159459; omega⟩
      have J : lw_J p l e s m below meth c b D q cA ad r cj o cO (nI (7 * j)) 857 (33 + j + 1) (272 + 6 * j + 6) := by
        intro sg x th st f H locs ls hr hi hP hD hS hl
        refine lv_iinc (v := nI (7 * (j + 1))) (lv' := [(4, .int (nI (7 * (j + 1)))), (0, .ref b), (1, .ref (q 0)), (2, .ref (r 0)), (3, .ref o)]) hx hb dL_law_857 hl (k := 0) rfl (lw_inc j) (by decide) rfl (fun ls hl => ?_)
        refine lv_goto (tgt := 23) hx hb dL_law_860 (by decide) ?_
        have q9 := ih (j + 1) (by omega) (by omega) sg x th st f H locs ls hr hi hP hD hS hl
        rw [show 33 + (j + 1) = 33 + j + 1 by omega, show 272 + 6 * (j + 1) = 272 + 6 * j + 6 by omega] at q9
        exact q9
      refine lv_aload_n hx hb dL_law_33 rfl (lv_at hl 1 rfl) ?_
      refine lv_iload hx hb dL_law_34 (lv_at hl 0 rfl) ?_
      refine va_sld hx hb hX hbl hbA hS hv.1 dL_law_36 ?_
      refine lv_bipush (v := 15) hx hb dL_law_37 (by decide) ?_
      refine lv_iand hx hb dL_law_39 ?_
      refine lv_topi (fun v ev => ?_)
      by_cases c0 : v = 0
      · refine lv_tableIn (tgt := 92) hx hb dL_law_40 (by rw [c0]; decide) (by rw [c0]; decide) (by rw [c0]; rfl) (by decide) ?_
        exact lw_c0 p l e s m below meth c b D q cA ad r cj o cO F hv hf1 J sg x th st f H locs ls hr hi hP hD hS hl
      by_cases c1 : v = 1
      · refine lv_tableIn (tgt := 161) hx hb dL_law_40 (by rw [c1]; decide) (by rw [c1]; decide) (by rw [c1]; rfl) (by decide) ?_
        exact lw_c1 p l e s m below meth c b D q cA ad r cj o cO F hv hf1 J sg x th st f H locs ls hr hi hP hD hS hl
      by_cases c2 : v = 2
      · refine lv_tableIn (tgt := 186) hx hb dL_law_40 (by rw [c2]; decide) (by rw [c2]; decide) (by rw [c2]; rfl) (by decide) ?_
        exact lw_c2 p l e s m below meth c b D q cA ad r cj o cO F hv hf1 J sg x th st f H locs ls hr hi hP hD hS hl
      by_cases c3 : v = 3
      · refine lv_tableIn (tgt := 299) hx hb dL_law_40 (by rw [c3]; decide) (by rw [c3]; decide) (by rw [c3]; rfl) (by decide) ?_
        exact lw_c3 p l e s m below meth c b D q cA ad r cj o cO F hv hf1 J sg x th st f H locs ls hr hi hP hD hS hl
      by_cases c4 : v = 4
      · refine lv_tableIn (tgt := 442) hx hb dL_law_40 (by rw [c4]; decide) (by rw [c4]; decide) (by rw [c4]; rfl) (by decide) ?_
        exact lw_c4 p l e s m below meth c b D q cA ad r cj o cO F hv hf1 J sg x th st f H locs ls hr hi hP hD hS hl
      by_cases c5 : v = 5
      · refine lv_tableIn (tgt := 531) hx hb dL_law_40 (by rw [c5]; decide) (by rw [c5]; decide) (by rw [c5]; rfl) (by decide) ?_
        exact lw_c5 p l e s m below meth c b D q cA ad r cj o cO F hv hf1 J sg x th st f H locs ls hr hi hP hD hS hl
      by_cases c6 : v = 6
      · refine lv_tableIn (tgt := 608) hx hb dL_law_40 (by rw [c6]; decide) (by rw [c6]; decide) (by rw [c6]; rfl) (by decide) ?_
        exact lw_c6 p l e s m below meth c b D q cA ad r cj o cO F hv hf1 J sg x th st f H locs ls hr hi hP hD hS hl
      by_cases c7 : v = 7
      · refine lv_tableIn (tgt := 675) hx hb dL_law_40 (by rw [c7]; decide) (by rw [c7]; decide) (by rw [c7]; rfl) (by decide) ?_
        exact lw_c7 p l e s m below meth c b D q cA ad r cj o cO F hv hf1 J sg x th st f H locs ls hr hi hP hD hS hl
      by_cases c8 : v = 8
      · refine lv_tableIn (tgt := 782) hx hb dL_law_40 (by rw [c8]; decide) (by rw [c8]; decide) (by rw [c8]; rfl) (by decide) ?_
        exact lw_c8 p l e s m below meth c b D q cA ad r cj o cO F hv hf1 J sg x th st f H locs ls hr hi hP hD hS hl
      have e0 := lv_neT c0 (show (0 : Int32).toInt = 0 by decide)
      have e1 := lv_neT c1 (show (1 : Int32).toInt = 1 by decide)
      have e2 := lv_neT c2 (show (2 : Int32).toInt = 2 by decide)
      have e3 := lv_neT c3 (show (3 : Int32).toInt = 3 by decide)
      have e4 := lv_neT c4 (show (4 : Int32).toInt = 4 by decide)
      have e5 := lv_neT c5 (show (5 : Int32).toInt = 5 by decide)
      have e6 := lv_neT c6 (show (6 : Int32).toInt = 6 by decide)
      have e7 := lv_neT c7 (show (7 : Int32).toInt = 7 by decide)
      have e8 := lv_neT c8 (show (8 : Int32).toInt = 8 by decide)
      refine lv_tableOut (tgt := 857) hx hb dL_law_40 (by omega) (by decide) ?_
      refine W.widen (k := 33 + j + 1) (n := 272 + 6 * j + 6) (Nat.le_add_right _ _) (Nat.le_add_right _ _) ?_
      exact J sg x th st f H locs ls hr hi hP hD hS hl
