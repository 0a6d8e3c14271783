/-! bits, bounds, look, has, covers -/
theorem mn_le (c : Int64) : (-9223372036854775808 : Int64).toInt ≤ c.toInt ∧ c.toInt ≤ (9223372036854775807 : Int64).toInt := by
  have e1 : (-9223372036854775808 : Int64).toInt = -9223372036854775808 := by decide
  have e2 : (9223372036854775807 : Int64).toInt = 9223372036854775807 := by decide
  have b := uN_lt c
  rw [e1, e2, uN_int]
  split <;> omega
theorem un_m1 : uN (-1) = 18446744073709551615 := by decide
theorem mem_bits (v m : Int64) : x_mem (v &&& (m ^^^ (-1))) (v &&& (m ^^^ (-1)), m, 0, -1, -9223372036854775808, 9223372036854775807) := by
  refine mk_mem (fun i hi _ => rfl) (fun i hi hb => ?_) (Nat.zero_le _) ?_ (mn_le _).1 (mn_le _).2
  · rw [tb_and, tb_xor, tb_m1 i hi, hb]
    cases (uN v).testBit i <;> rfl
  · have := uN_lt (v &&& (m ^^^ (-1)))
    rw [un_m1]
    omega
theorem mem_un {l g : Int64} (h : uN l ≤ uN g) : x_mem l (0, -1, l, g, -9223372036854775808, 9223372036854775807) :=
  mk_mem (fun i hi hb => by rw [tb_m1 i hi] at hb; cases hb) (fun i _ _ => Nat.zero_testBit i) (Nat.le_refl _) h (mn_le _).1 (mn_le _).2
theorem mem_sg {l g : Int64} (h : l ≤ g) : x_mem l (0, -1, 0, -1, l, g) := by
  refine mk_mem (fun i hi hb => by rw [tb_m1 i hi] at hb; cases hb) (fun i _ _ => Nat.zero_testBit i) (Nat.zero_le _) ?_ (Int.le_refl _) ((Int64.le_iff_toInt_le).mp h)
  have := uN_lt l
  rw [un_m1]
  omega
section RD
variable {sg : Nat → Nm} {st : Md} {x1 x2 x3 x4 x5 : Nm}
theorem rel_up3 (hr : x_rel sg st) {i : Nat} {n1 n2 n : Nm} : x_rel (va_up (va_up (va_up sg i n1) i n2) i n) (md_set st i n) := by
  intro k hk
  by_cases c : k = i
  · rw [c, va_up_self, md_at_set]
  · rw [va_up_ne _ _ c, va_up_ne _ _ c, va_up_ne _ _ c, md_at_ne _ _ c]
    exact hr k hk
theorem an_tup (n : Nm) : f_X1_becomeAny n = (0, -1, 0, -1, -9223372036854775808, 9223372036854775807) := rfl
theorem ml_bits (hr : x_rel sg st) (p1 : Int32) (p2 p3 : Int64) : (f_M_bits st p1 p2 p3).2 = (f_X0_bits sg x1 x2 x3 x4 x5 p1 p2 p3).2 ∧ x_rel (f_X0_bits sg x1 x2 x3 x4 x5 p1 p2 p3).1 (f_M_bits st p1 p2 p3).1 := by
  by_cases c : f_X0_isNumber p1 = 0
  · have eX : f_X0_bits sg x1 x2 x3 x4 x5 p1 p2 p3 = (sg, 0) := if_pos c
    have eM : f_M_bits st p1 p2 p3 = (st, 0) := if_pos c
    rw [sp_fst eX, sp_snd eX, sp_fst eM, sp_snd eM]
    exact ⟨rfl, hr⟩
  · have eM : f_M_bits st p1 p2 p3 = f_M_settle (md_set st p1.toNatClampNeg (p2 &&& (p3 ^^^ (-1)), p3, 0, -1, -9223372036854775808, 9223372036854775807)) p1 := by
      refine (if_neg c).trans ?_
      rw [p_eta, md_12 (f_M_setAny st p1), ml_setAny st p1 nAN, md_set2]
      congr 2
      show (_, _, (md_set st p1.toNatClampNeg (f_X1_becomeAny nAN)).2.2.1 p1.toNatClampNeg, _, _, _) = _
      have e := md_at_set st p1.toNatClampNeg (f_X1_becomeAny nAN)
      rw [md_def, an_tup] at e
      have e3 := congrArg (fun n : Nm => n.2.2.1) e
      have e4 := congrArg (fun n : Nm => n.2.2.2.1) e
      have e5 := congrArg (fun n : Nm => n.2.2.2.2.1) e
      have e6 := congrArg (fun n : Nm => n.2.2.2.2.2) e
      dsimp only at e3 e4 e5 e6
      rw [an_tup, e3, e4, e5, e6]
    have eX : f_X0_bits sg x1 x2 x3 x4 x5 p1 p2 p3 = (va_up (va_up (va_up sg p1.toNatClampNeg (f_X1_becomeAny (sg p1.toNatClampNeg))) p1.toNatClampNeg (f_X1_setBits (va_up sg p1.toNatClampNeg (f_X1_becomeAny (sg p1.toNatClampNeg)) p1.toNatClampNeg) (p2 &&& (p3 ^^^ (-1))) p3)) p1.toNatClampNeg (f_X1_settle (va_up (va_up sg p1.toNatClampNeg (f_X1_becomeAny (sg p1.toNatClampNeg))) p1.toNatClampNeg (f_X1_setBits (va_up sg p1.toNatClampNeg (f_X1_becomeAny (sg p1.toNatClampNeg)) p1.toNatClampNeg) (p2 &&& (p3 ^^^ (-1))) p3) p1.toNatClampNeg)).1, 1) := if_neg c
    rw [va_up_self, va_up_self, an_tup, sb_eq] at eX
    have ms := mem_settle (mem_bits p2 p3)
    have eM2 := eM.trans (ml_settle _ p1)
    rw [md_at_set, md_set2] at eM2
    rw [sp_fst eX, sp_snd eX, sp_fst eM2, sp_snd eM2]
    exact ⟨ms.1, rel_up3 hr⟩
theorem ml_bounds (hr : x_rel sg st) (p1 : Int32) (p2 p3 : Int64) (p4 : Int32) : (f_M_bounds st p1 p2 p3 p4).2 = (f_X0_bounds sg x1 x2 x3 x4 x5 p1 p2 p3 p4).2 ∧ x_rel (f_X0_bounds sg x1 x2 x3 x4 x5 p1 p2 p3 p4).1 (f_M_bounds st p1 p2 p3 p4).1 := by
  have no : f_X0_bounds sg x1 x2 x3 x4 x5 p1 p2 p3 p4 = (sg, 0) → f_M_bounds st p1 p2 p3 p4 = (st, 0) → (f_M_bounds st p1 p2 p3 p4).2 = (f_X0_bounds sg x1 x2 x3 x4 x5 p1 p2 p3 p4).2 ∧ x_rel (f_X0_bounds sg x1 x2 x3 x4 x5 p1 p2 p3 p4).1 (f_M_bounds st p1 p2 p3 p4).1 := by
    intro eX eM
    rw [sp_fst eX, sp_snd eX, sp_fst eM, sp_snd eM]
    exact ⟨rfl, hr⟩
  by_cases c : f_X0_isNumber p1 = 0
  · exact no (if_pos c) (if_pos c)
  have e := md_at_set st p1.toNatClampNeg (f_X1_becomeAny nAN)
  rw [md_def, an_tup] at e
  have e1 := congrArg (fun n : Nm => n.1) e
  have e2 := congrArg (fun n : Nm => n.2.1) e
  have e3 := congrArg (fun n : Nm => n.2.2.1) e
  have e4 := congrArg (fun n : Nm => n.2.2.2.1) e
  have e5 := congrArg (fun n : Nm => n.2.2.2.2.1) e
  have e6 := congrArg (fun n : Nm => n.2.2.2.2.2) e
  dsimp only at e1 e2 e3 e4 e5 e6
  by_cases c4 : p4 = 0
  · by_cases cb : f_X0_isAbove p2 p3 = 0
    · have cb' : f_M_below p3 p2 = 0 := by rw [un_below]; exact cb
      have eM : f_M_bounds st p1 p2 p3 p4 = f_M_settle (md_set st p1.toNatClampNeg (0, -1, p2, p3, -9223372036854775808, 9223372036854775807)) p1 := by
        refine (if_neg c).trans ((if_pos c4).trans ((if_pos cb').trans ?_))
        rw [p_eta, md_34 (f_M_setAny st p1), ml_setAny st p1 nAN, md_set2, an_tup, e1, e2, e5, e6]
      have eX : f_X0_bounds sg x1 x2 x3 x4 x5 p1 p2 p3 p4 = (va_up (va_up (va_up sg p1.toNatClampNeg (f_X1_becomeAny (sg p1.toNatClampNeg))) p1.toNatClampNeg (f_X1_setUnsigned (va_up sg p1.toNatClampNeg (f_X1_becomeAny (sg p1.toNatClampNeg)) p1.toNatClampNeg) p2 p3)) p1.toNatClampNeg (f_X1_settle (va_up (va_up sg p1.toNatClampNeg (f_X1_becomeAny (sg p1.toNatClampNeg))) p1.toNatClampNeg (f_X1_setUnsigned (va_up sg p1.toNatClampNeg (f_X1_becomeAny (sg p1.toNatClampNeg)) p1.toNatClampNeg) p2 p3) p1.toNatClampNeg)).1, 1) := (if_neg c).trans ((if_pos c4).trans (if_pos cb))
      rw [va_up_self, va_up_self, an_tup, su_eq] at eX
      have ms := mem_settle (mem_un (un_a0.mp cb))
      have eM2 := eM.trans (ml_settle _ p1)
      rw [md_at_set, md_set2] at eM2
      rw [sp_fst eX, sp_snd eX, sp_fst eM2, sp_snd eM2]
      exact ⟨ms.1, rel_up3 hr⟩
    · exact no ((if_neg c).trans ((if_pos c4).trans (if_neg cb))) ((if_neg c).trans ((if_pos c4).trans (if_neg (by rw [un_below]; exact cb))))
  · by_cases cb : lg_cmp p2 p3 ≤ 0
    · have eM : f_M_bounds st p1 p2 p3 p4 = f_M_settle (md_set st p1.toNatClampNeg (0, -1, 0, -1, p2, p3)) p1 := by
        refine (if_neg c).trans ((if_neg c4).trans ((if_pos cb).trans ?_))
        rw [p_eta, md_56 (f_M_setAny st p1), ml_setAny st p1 nAN, md_set2, an_tup, e1, e2, e3, e4]
      have eX : f_X0_bounds sg x1 x2 x3 x4 x5 p1 p2 p3 p4 = (va_up (va_up (va_up sg p1.toNatClampNeg (f_X1_becomeAny (sg p1.toNatClampNeg))) p1.toNatClampNeg (f_X1_setSigned (va_up sg p1.toNatClampNeg (f_X1_becomeAny (sg p1.toNatClampNeg)) p1.toNatClampNeg) p2 p3)) p1.toNatClampNeg (f_X1_settle (va_up (va_up sg p1.toNatClampNeg (f_X1_becomeAny (sg p1.toNatClampNeg))) p1.toNatClampNeg (f_X1_setSigned (va_up sg p1.toNatClampNeg (f_X1_becomeAny (sg p1.toNatClampNeg)) p1.toNatClampNeg) p2 p3) p1.toNatClampNeg)).1, 1) := (if_neg c).trans ((if_neg c4).trans (if_pos cb))
      rw [va_up_self, va_up_self, an_tup, ss_eq] at eX
      have ms := mem_settle (mem_sg ((lg_cmp_le _ _).mp cb))
      have eM2 := eM.trans (ml_settle _ p1)
      rw [md_at_set, md_set2] at eM2
      rw [sp_fst eX, sp_snd eX, sp_fst eM2, sp_snd eM2]
      exact ⟨ms.1, rel_up3 hr⟩
    · exact no ((if_neg c).trans ((if_neg c4).trans (if_neg cb))) ((if_neg c).trans ((if_neg c4).trans (if_neg cb)))
end RD
def x_dis (n : Nm) : Prop := n.1 &&& n.2.1 = 0
theorem cl_eq {v m c : Int64} (h : v &&& m = 0) : c &&& (m ^^^ (-1)) = v ↔ (c ^^^ v) &&& (m ^^^ (-1)) = 0 := by
  have hb : ∀ i, ((uN v).testBit i && (uN m).testBit i) = false := by
    intro i
    rw [← tb_and, h]
    exact Nat.zero_testBit i
  constructor
  · intro q
    apply uN_ext
    intro i hi
    show _ = (0 : Nat).testBit i
    have t : (uN (c &&& (m ^^^ (-1)))).testBit i = (uN v).testBit i := by rw [q]
    rw [tb_and, tb_xor, tb_m1 i hi] at t
    rw [tb_and, tb_xor, tb_xor, tb_m1 i hi, Nat.zero_testBit]
    revert t
    cases (uN c).testBit i <;> cases (uN v).testBit i <;> cases (uN m).testBit i <;> decide
  · intro q
    apply uN_ext
    intro i hi
    have t : (uN ((c ^^^ v) &&& (m ^^^ (-1)))).testBit i = false := by
      rw [q]
      exact Nat.zero_testBit i
    have hb := hb i
    rw [tb_and, tb_xor, tb_xor, tb_m1 i hi] at t
    rw [tb_and, tb_xor, tb_m1 i hi]
    revert t hb
    cases (uN c).testBit i <;> cases (uN v).testBit i <;> cases (uN m).testBit i <;> decide
theorem lt_gt {x y : Int64} : lg_cmp x y < 0 ↔ 0 < lg_cmp y x := by rw [lg_cmp_lt, lg_cmp_gt]
section HAS
variable {sg : Nat → Nm} {st : Md} {x1 x2 x3 x4 x5 : Nm}
theorem ml_has (hr : x_rel sg st) (hd : ∀ k, k < 16 → x_dis (sg k)) {p1 : Int32} (c : ¬ f_X0_isNumber p1 = 0) (p2 : Int64) : f_M_has st p1 p2 = (0, f_X0_has sg x1 x2 x3 x4 x5 p1 p2) := by
  have hl := nb_lt c
  have hdis := hd _ hl
  have en := hr _ hl
  rw [en] at hdis
  have hX : f_X0_has sg x1 x2 x3 x4 x5 p1 p2 = f_X1_standsFor (md_at st p1.toNatClampNeg) p2 := by
    show f_X1_standsFor (sg p1.toNatClampNeg) p2 = _
    rw [en]
  have hv : st.1 p1.toNatClampNeg &&& st.2.1 p1.toNatClampNeg = 0 := hdis
  have hc : lg_cmp (p2 &&& (st.2.1 p1.toNatClampNeg ^^^ (-1))) (st.1 p1.toNatClampNeg) = 0 ↔ lg_cmp ((p2 ^^^ st.1 p1.toNatClampNeg) &&& (st.2.1 p1.toNatClampNeg ^^^ (-1))) 0 = 0 := by
    rw [lg_cmp_eq, lg_cmp_eq]
    exact cl_eq hv
  rw [hX]
  refine (if_neg c).trans ?_
  rw [un_below, un_below]
  by_cases d1 : lg_cmp ((p2 ^^^ st.1 p1.toNatClampNeg) &&& (st.2.1 p1.toNatClampNeg ^^^ (-1))) 0 = 0
  · rw [if_pos d1]
    by_cases d2 : f_X0_isAbove (st.2.2.1 p1.toNatClampNeg) p2 = 0
    · rw [if_pos d2]
      by_cases d3 : f_X0_isAbove p2 (st.2.2.2.1 p1.toNatClampNeg) = 0
      · rw [if_pos d3]
        by_cases d4 : 0 < lg_cmp (st.2.2.2.2.1 p1.toNatClampNeg) p2
        · rw [if_pos (lt_gt.mpr d4)]
          have e : f_X1_standsFor (md_at st p1.toNatClampNeg) p2 = 0 := (if_pos (hc.mpr d1)).trans ((if_pos d2).trans ((if_pos d3).trans (if_pos d4)))
          rw [e]
        · rw [if_neg (fun q => d4 (lt_gt.mp q))]
          by_cases d5 : 0 < lg_cmp p2 (st.2.2.2.2.2 p1.toNatClampNeg)
          · rw [if_pos d5]
            have e : f_X1_standsFor (md_at st p1.toNatClampNeg) p2 = 0 := (if_pos (hc.mpr d1)).trans ((if_pos d2).trans ((if_pos d3).trans ((if_neg d4).trans (if_pos d5))))
            rw [e]
          · rw [if_neg d5]
            have e : f_X1_standsFor (md_at st p1.toNatClampNeg) p2 = 1 := (if_pos (hc.mpr d1)).trans ((if_pos d2).trans ((if_pos d3).trans ((if_neg d4).trans (if_neg d5))))
            rw [e]
      · rw [if_neg d3]
        have e : f_X1_standsFor (md_at st p1.toNatClampNeg) p2 = 0 := (if_pos (hc.mpr d1)).trans ((if_pos d2).trans (if_neg d3))
        rw [e]
    · rw [if_neg d2]
      have e : f_X1_standsFor (md_at st p1.toNatClampNeg) p2 = 0 := (if_pos (hc.mpr d1)).trans (if_neg d2)
      rw [e]
  · rw [if_neg d1]
    have e : f_X1_standsFor (md_at st p1.toNatClampNeg) p2 = 0 := if_neg (fun q => d1 (hc.mp q))
    rw [e]
end HAS
