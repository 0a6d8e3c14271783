theorem un_lt0 (a : Int64) : a < 0 ↔ 9223372036854775808 ≤ uN a := by
  have h := uN_lt a
  have e0 : (0 : Int64).toInt = 0 := by decide
  rw [Int64.lt_iff_toInt_lt, uN_int, e0]
  split <;> omega
theorem un_bit63 {x : Nat} (h : x < 18446744073709551616) : x.testBit 63 = decide (9223372036854775808 ≤ x) := by
  rw [Nat.testBit_eq_decide_div_mod_eq]
  by_cases h1 : 9223372036854775808 ≤ x
  · have e : x / 2 ^ 63 = 1 := by omega
    simp [e, h1]
  · have e : x / 2 ^ 63 = 0 := by omega
    simp [e, h1]
theorem uN_xr (a b : Int64) : uN (a ^^^ b) = uN a ^^^ uN b := UInt64.toNat_xor _ _
theorem uN_an (a b : Int64) : uN (a &&& b) = uN a &&& uN b := UInt64.toNat_and _ _
theorem uN_rr (a b : Int64) : uN (a ||| b) = uN a ||| uN b := UInt64.toNat_or _ _
theorem un_bi {A B C : Prop} [Decidable A] [Decidable B] [Decidable C] (h : (decide A ^^ decide B) = decide C) : C ↔ ¬ (A ↔ B) := by
  by_cases h1 : A <;> by_cases h2 : B <;> by_cases h3 : C <;> simp_all
theorem un_sign (a b : Int64) : (a ^^^ b) < 0 ↔ ¬ (a < 0 ↔ b < 0) := by
  have h := un_bit63 (uN_lt (a ^^^ b))
  rw [uN_xr, Nat.testBit_xor, un_bit63 (uN_lt a), un_bit63 (uN_lt b), ← uN_xr] at h
  rw [un_lt0, un_lt0, un_lt0]
  exact un_bi h
section TUP
variable {a b c d e f p q : Int64}
theorem rl_eq : f_X1_raiseLeast (a, b, c, d, e, f) p = (a, b, f_M_greater c p, d, e, f) := by
  unfold f_X1_raiseLeast
  rw [un_greater]
  dsimp only
  split <;> rfl
theorem lt_eq : f_X1_lowerGreatest (a, b, c, d, e, f) p = (a, b, c, f_M_lesser d p, e, f) := by
  unfold f_X1_lowerGreatest
  rw [un_lesser]
  dsimp only
  split <;> rfl
theorem mo_eq : f_X1_mayBeOne (a, b, c, d, e, f) = a ||| b := rfl
theorem rs_eq : f_X1_raiseSignedLeast (a, b, c, d, e, f) p = (a, b, c, d, (if p < e then e else p), f) := rfl
theorem ls_eq : f_X1_lowerSignedGreatest (a, b, c, d, e, f) p = (a, b, c, d, e, (if p < f then p else f)) := rfl
theorem sb_eq : f_X1_setBits (a, b, c, d, e, f) p q = (p, q, c, d, e, f) := rfl
theorem su_eq : f_X1_setUnsigned (a, b, c, d, e, f) p q = (a, b, p, q, e, f) := rfl
theorem ss_eq : f_X1_setSigned (a, b, c, d, e, f) p q = (a, b, c, d, p, q) := rfl
theorem bb_eq : f_X1_boundByBits (a, b, c, d, e, f) = (a, b, f_M_greater c a, f_M_lesser d (a ||| b), e, f) := by
  unfold f_X1_boundByBits
  dsimp only
  rw [rl_eq, mo_eq, lt_eq]
theorem bu_neg (h : ¬ (e < 0 ↔ f < 0)) : f_X1_boundUnsignedBySigned (a, b, c, d, e, f) = (a, b, c, d, e, f) := by
  unfold f_X1_boundUnsignedBySigned
  dsimp only
  rw [if_pos ((lg_cmp_lt _ _).mpr ((un_sign _ _).mpr h))]
theorem bu_pos (h : e < 0 ↔ f < 0) : f_X1_boundUnsignedBySigned (a, b, c, d, e, f) = (a, b, f_M_greater c e, f_M_lesser d f, e, f) := by
  unfold f_X1_boundUnsignedBySigned
  dsimp only
  rw [if_neg (fun q => ((un_sign _ _).mp ((lg_cmp_lt _ _).mp q)) h), rl_eq]
  dsimp only
  rw [lt_eq]
theorem bs_neg (h : ¬ (c < 0 ↔ d < 0)) : f_X1_boundSignedByUnsigned (a, b, c, d, e, f) = (a, b, c, d, e, f) := by
  unfold f_X1_boundSignedByUnsigned
  dsimp only
  rw [if_pos ((lg_cmp_lt _ _).mpr ((un_sign _ _).mpr h))]
theorem bs_pos (h : c < 0 ↔ d < 0) : f_X1_boundSignedByUnsigned (a, b, c, d, e, f) = (a, b, c, d, (if c < e then e else c), (if d < f then d else f)) := by
  unfold f_X1_boundSignedByUnsigned
  dsimp only
  rw [if_neg (fun q => ((un_sign _ _).mp ((lg_cmp_lt _ _).mp q)) h), rs_eq]
  dsimp only
  rw [ls_eq]
end TUP
def fl_ok (n : Nm) : Int32 := if f_X1_isCrossed n = 0 then 1 else 0
theorem ml_leaf (S : Md) (i : Int32) : (if f_M_isEmpty S i = 0 then (S, (1 : Int32)) else (S, 0)) = (S, fl_ok (md_at S i.toNatClampNeg)) := by
  unfold fl_ok
  rw [ml_isEmpty]
  split <;> rfl
theorem md_def (st : Md) (i : Nat) : md_at st i = (st.1 i, st.2.1 i, st.2.2.1 i, st.2.2.2.1 i, st.2.2.2.2.1 i, st.2.2.2.2.2 i) := rfl
theorem md_34 (st : Md) (i : Nat) (x y : Int64) : (st.1, st.2.1, vp_updL st.2.2.1 i x, vp_updL st.2.2.2.1 i y, st.2.2.2.2.1, st.2.2.2.2.2) = md_set st i (st.1 i, st.2.1 i, x, y, st.2.2.2.2.1 i, st.2.2.2.2.2 i) := by
  unfold md_set
  simp only [vp_upd_id]
theorem md_56 (st : Md) (i : Nat) (x y : Int64) : (st.1, st.2.1, st.2.2.1, st.2.2.2.1, vp_updL st.2.2.2.2.1 i x, vp_updL st.2.2.2.2.2 i y) = md_set st i (st.1 i, st.2.1 i, st.2.2.1 i, st.2.2.2.1 i, x, y) := by
  unfold md_set
  simp only [vp_upd_id]
theorem md_12 (st : Md) (i : Nat) (x y : Int64) : (vp_updL st.1 i x, vp_updL st.2.1 i y, st.2.2.1, st.2.2.2.1, st.2.2.2.2.1, st.2.2.2.2.2) = md_set st i (x, y, st.2.2.1 i, st.2.2.2.1 i, st.2.2.2.2.1 i, st.2.2.2.2.2 i) := by
  unfold md_set
  simp only [vp_upd_id]
theorem md_self (st : Md) (i : Nat) : md_set st i (st.1 i, st.2.1 i, st.2.2.1 i, st.2.2.2.1 i, st.2.2.2.2.1 i, st.2.2.2.2.2 i) = st := md_set_id st i
theorem ml_byBits (st : Md) (i : Int32) : f_M_byBits st i = (md_set st i.toNatClampNeg (f_X1_boundByBits (md_at st i.toNatClampNeg)), fl_ok (f_X1_boundByBits (md_at st i.toNatClampNeg))) := by
  unfold f_M_byBits
  rw [ml_leaf, md_34, md_at_set, md_def, bb_eq]
theorem ge0_iff (a : Int64) : 0 ≤ lg_cmp a 0 ↔ ¬ a < 0 := by
  rw [lg_cmp_ge, Int64.le_iff_toInt_le, Int64.lt_iff_toInt_lt]
  omega
theorem ml_toUnsigned (st : Md) (i : Int32) : f_M_toUnsigned st i = (md_set st i.toNatClampNeg (f_X1_boundUnsignedBySigned (md_at st i.toNatClampNeg)), fl_ok (f_X1_boundUnsignedBySigned (md_at st i.toNatClampNeg))) := by
  unfold f_M_toUnsigned
  simp only [ml_leaf, ge0_iff]
  by_cases c1 : st.2.2.2.2.1 i.toNatClampNeg < 0 <;> by_cases c2 : st.2.2.2.2.2 i.toNatClampNeg < 0
  · rw [if_neg (not_not_intro c1), if_neg (not_not_intro c2), md_34, md_at_set, md_def st, bu_pos ⟨fun _ => c2, fun _ => c1⟩]
  · rw [if_neg (not_not_intro c1), if_pos c2, md_def st, bu_neg (fun q => c2 (q.mp c1)), md_self]
  · rw [if_pos c1, if_neg (not_not_intro c2), md_def st, bu_neg (fun q => c1 (q.mpr c2)), md_self]
  · rw [if_pos c1, if_pos c2, md_34, md_at_set, md_def st, bu_pos ⟨fun q => absurd q c1, fun q => absurd q c2⟩]
theorem ml_nlt {a b : Int64} (h : a ≤ b) : ¬ b < a := by
  rw [Int64.le_iff_toInt_le] at h
  rw [Int64.lt_iff_toInt_lt]
  omega
theorem ml_nle {a b : Int64} (h : ¬ a ≤ b) : b < a := by
  rw [Int64.le_iff_toInt_le] at h
  rw [Int64.lt_iff_toInt_lt]
  omega
theorem ml_anti {a b : Int64} (h : a ≤ b) (h2 : ¬ a < b) : a = b := by
  rw [Int64.le_iff_toInt_le] at h
  rw [Int64.lt_iff_toInt_lt] at h2
  exact Int64.toInt_inj.mp (by omega)
theorem ml_toSigned (st : Md) (i : Int32) : f_M_toSigned st i = (md_set st i.toNatClampNeg (f_X1_boundSignedByUnsigned (md_at st i.toNatClampNeg)), fl_ok (f_X1_boundSignedByUnsigned (md_at st i.toNatClampNeg))) := by
  unfold f_M_toSigned
  simp only [ml_leaf, ge0_iff]
  have pos : (st.2.2.1 i.toNatClampNeg < 0 ↔ st.2.2.2.1 i.toNatClampNeg < 0) → (if lg_cmp (st.2.2.2.2.1 i.toNatClampNeg) (st.2.2.1 i.toNatClampNeg) ≤ 0 then
      if 0 ≤ lg_cmp (st.2.2.2.2.2 i.toNatClampNeg) (st.2.2.2.1 i.toNatClampNeg) then
        (((st.1, st.2.1, st.2.2.1, st.2.2.2.1, vp_updL st.2.2.2.2.1 i.toNatClampNeg (st.2.2.1 i.toNatClampNeg), vp_updL st.2.2.2.2.2 i.toNatClampNeg (st.2.2.2.1 i.toNatClampNeg)) : Md), fl_ok (md_at (st.1, st.2.1, st.2.2.1, st.2.2.2.1, vp_updL st.2.2.2.2.1 i.toNatClampNeg (st.2.2.1 i.toNatClampNeg), vp_updL st.2.2.2.2.2 i.toNatClampNeg (st.2.2.2.1 i.toNatClampNeg)) i.toNatClampNeg))
      else ((st.1, st.2.1, st.2.2.1, st.2.2.2.1, vp_updL st.2.2.2.2.1 i.toNatClampNeg (st.2.2.1 i.toNatClampNeg), vp_updL st.2.2.2.2.2 i.toNatClampNeg (st.2.2.2.2.2 i.toNatClampNeg)), fl_ok (md_at (st.1, st.2.1, st.2.2.1, st.2.2.2.1, vp_updL st.2.2.2.2.1 i.toNatClampNeg (st.2.2.1 i.toNatClampNeg), vp_updL st.2.2.2.2.2 i.toNatClampNeg (st.2.2.2.2.2 i.toNatClampNeg)) i.toNatClampNeg))
    else if 0 ≤ lg_cmp (st.2.2.2.2.2 i.toNatClampNeg) (st.2.2.2.1 i.toNatClampNeg) then
        ((st.1, st.2.1, st.2.2.1, st.2.2.2.1, vp_updL st.2.2.2.2.1 i.toNatClampNeg (st.2.2.2.2.1 i.toNatClampNeg), vp_updL st.2.2.2.2.2 i.toNatClampNeg (st.2.2.2.1 i.toNatClampNeg)), fl_ok (md_at (st.1, st.2.1, st.2.2.1, st.2.2.2.1, vp_updL st.2.2.2.2.1 i.toNatClampNeg (st.2.2.2.2.1 i.toNatClampNeg), vp_updL st.2.2.2.2.2 i.toNatClampNeg (st.2.2.2.1 i.toNatClampNeg)) i.toNatClampNeg))
      else ((st.1, st.2.1, st.2.2.1, st.2.2.2.1, vp_updL st.2.2.2.2.1 i.toNatClampNeg (st.2.2.2.2.1 i.toNatClampNeg), vp_updL st.2.2.2.2.2 i.toNatClampNeg (st.2.2.2.2.2 i.toNatClampNeg)), fl_ok (md_at (st.1, st.2.1, st.2.2.1, st.2.2.2.1, vp_updL st.2.2.2.2.1 i.toNatClampNeg (st.2.2.2.2.1 i.toNatClampNeg), vp_updL st.2.2.2.2.2 i.toNatClampNeg (st.2.2.2.2.2 i.toNatClampNeg)) i.toNatClampNeg))) = (md_set st i.toNatClampNeg (f_X1_boundSignedByUnsigned (md_at st i.toNatClampNeg)), fl_ok (f_X1_boundSignedByUnsigned (md_at st i.toNatClampNeg))) := by
    intro h
    rw [md_def st, bs_pos h]
    simp only [lg_cmp_ge, lg_cmp_le, md_56, md_at_set]
    by_cases c3 : st.2.2.2.2.1 i.toNatClampNeg ≤ st.2.2.1 i.toNatClampNeg <;> by_cases c4 : st.2.2.2.1 i.toNatClampNeg ≤ st.2.2.2.2.2 i.toNatClampNeg
    · rw [if_pos c3, if_pos c4, if_neg (ml_nlt c3)]
      by_cases c5 : st.2.2.2.1 i.toNatClampNeg < st.2.2.2.2.2 i.toNatClampNeg
      · rw [if_pos c5]
      · rw [if_neg c5, ml_anti c4 c5]
    · rw [if_pos c3, if_neg c4, if_neg (ml_nlt c3), if_neg (fun q => c4 (by rw [Int64.lt_iff_toInt_lt] at q; rw [Int64.le_iff_toInt_le]; omega))]
    · rw [if_neg c3, if_pos c4, if_pos (ml_nle c3)]
      by_cases c5 : st.2.2.2.1 i.toNatClampNeg < st.2.2.2.2.2 i.toNatClampNeg
      · rw [if_pos c5]
      · rw [if_neg c5, ml_anti c4 c5]
    · rw [if_neg c3, if_neg c4, if_pos (ml_nle c3), if_neg (fun q => c4 (by rw [Int64.lt_iff_toInt_lt] at q; rw [Int64.le_iff_toInt_le]; omega))]
  by_cases c1 : st.2.2.1 i.toNatClampNeg < 0 <;> by_cases c2 : st.2.2.2.1 i.toNatClampNeg < 0
  · rw [if_neg (not_not_intro c1), if_neg (not_not_intro c2)]
    exact pos ⟨fun _ => c2, fun _ => c1⟩
  · rw [if_neg (not_not_intro c1), if_pos c2, md_def st, bs_neg (fun q => c2 (q.mp c1)), md_self]
  · rw [if_pos c1, if_neg (not_not_intro c2), md_def st, bs_neg (fun q => c1 (q.mpr c2)), md_self]
  · rw [if_pos c1, if_pos c2]
    exact pos ⟨fun q => absurd q c1, fun q => absurd q c2⟩
