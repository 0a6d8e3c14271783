theorem i16 : (16 : Int32).toNatClampNeg = 16 := by decide
theorem i17 : (17 : Int32).toNatClampNeg = 17 := by decide
theorem i18 : (18 : Int32).toNatClampNeg = 18 := by decide
section TUPS
variable {st : Md} {i : Nat} {a b c d e f : Int64}
theorem md_1234 : (vp_updL st.1 i a, vp_updL st.2.1 i b, vp_updL st.2.2.1 i c, vp_updL st.2.2.2.1 i d, st.2.2.2.2.1, st.2.2.2.2.2) = md_set st i (a, b, c, d, st.2.2.2.2.1 i, st.2.2.2.2.2 i) := by
  unfold md_set
  simp only [vp_upd_id]
theorem md_1256 : (vp_updL st.1 i a, vp_updL st.2.1 i b, st.2.2.1, st.2.2.2.1, vp_updL st.2.2.2.2.1 i e, vp_updL st.2.2.2.2.2 i f) = md_set st i (a, b, st.2.2.1 i, st.2.2.2.1 i, e, f) := by
  unfold md_set
  simp only [vp_upd_id]
theorem md_4 : (st.1, st.2.1, st.2.2.1, vp_updL st.2.2.2.1 i d, st.2.2.2.2.1, st.2.2.2.2.2) = md_set st i (st.1 i, st.2.1 i, st.2.2.1 i, d, st.2.2.2.2.1 i, st.2.2.2.2.2 i) := by
  unfold md_set
  simp only [vp_upd_id]
theorem md_124 : (vp_updL st.1 i a, vp_updL st.2.1 i b, st.2.2.1, vp_updL st.2.2.2.1 i d, st.2.2.2.2.1, st.2.2.2.2.2) = md_set st i (a, b, st.2.2.1 i, d, st.2.2.2.2.1 i, st.2.2.2.2.2 i) := by
  unfold md_set
  simp only [vp_upd_id]
theorem md_123 : (vp_updL st.1 i a, vp_updL st.2.1 i b, vp_updL st.2.2.1 i c, st.2.2.2.1, st.2.2.2.2.1, st.2.2.2.2.2) = md_set st i (a, b, c, st.2.2.2.1 i, st.2.2.2.2.1 i, st.2.2.2.2.2 i) := by
  unfold md_set
  simp only [vp_upd_id]
theorem md_2 : (st.1, vp_updL st.2.1 i b, st.2.2.1, st.2.2.2.1, st.2.2.2.2.1, st.2.2.2.2.2) = md_set st i (st.1 i, b, st.2.2.1 i, st.2.2.2.1 i, st.2.2.2.2.1 i, st.2.2.2.2.2 i) := by
  unfold md_set
  simp only [vp_upd_id]
theorem md_234 : (st.1, vp_updL st.2.1 i b, vp_updL st.2.2.1 i c, vp_updL st.2.2.2.1 i d, st.2.2.2.2.1, st.2.2.2.2.2) = md_set st i (st.1 i, b, c, d, st.2.2.2.2.1 i, st.2.2.2.2.2 i) := by
  unfold md_set
  simp only [vp_upd_id]
end TUPS
theorem lt_nge {x y : Int64} : lg_cmp x y < 0 ↔ ¬ 0 ≤ lg_cmp x y := by
  rw [lg_cmp_lt, lg_cmp_ge, Int64.lt_iff_toInt_lt, Int64.le_iff_toInt_le]
  omega
theorem ml_add (st : Md) : f_M_add st = md_set st 18 (f_X2_add (md_at st 16) (md_at st 17) (md_at st 18)) := by
  unfold f_M_add f_X2_add f_X2_sumOverflows
  simp only [i16, i17, i18, un_below, md_def, sb_eq, su_eq, ss_eq, lt_nge, md_12, md_1234, md_1256, md_all]
  by_cases c1 : f_X0_isAbove (st.2.2.2.1 16) (st.2.2.2.1 16 + st.2.2.2.1 17) = 0 <;>
  by_cases c2 : 0 ≤ lg_cmp ((st.2.2.2.2.1 16 ^^^ (st.2.2.2.2.1 16 + st.2.2.2.2.1 17)) &&& (st.2.2.2.2.1 17 ^^^ (st.2.2.2.2.1 16 + st.2.2.2.2.1 17))) 0 <;>
  by_cases c3 : 0 ≤ lg_cmp ((st.2.2.2.2.2 16 ^^^ (st.2.2.2.2.2 16 + st.2.2.2.2.2 17)) &&& (st.2.2.2.2.2 17 ^^^ (st.2.2.2.2.2 16 + st.2.2.2.2.2 17))) 0 <;>
  simp only [c1, c2, c3, not_true_eq_false, not_false_eq_true, if_true, if_false, g_e10]
theorem ml_subtract (st : Md) : f_M_subtract st = md_set st 18 (f_X2_subtract (md_at st 16) (md_at st 17) (md_at st 18)) := by
  unfold f_M_subtract f_X2_subtract f_X2_differenceOverflows
  simp only [i16, i17, i18, vp_upd_ne _ _ (show (17 : Nat) ≠ 18 by decide), vp_upd_ne _ _ (show (16 : Nat) ≠ 18 by decide), un_below, md_def, sb_eq, su_eq, ss_eq, lt_nge, md_12, md_1234, md_1256, md_all]
  by_cases c1 : f_X0_isAbove (st.2.2.2.1 17) (st.2.2.1 16) = 0 <;>
  by_cases c2 : 0 ≤ lg_cmp ((st.2.2.2.2.1 16 ^^^ st.2.2.2.2.2 17) &&& (st.2.2.2.2.1 16 ^^^ (st.2.2.2.2.1 16 - st.2.2.2.2.2 17))) 0 <;>
  by_cases c3 : 0 ≤ lg_cmp ((st.2.2.2.2.2 16 ^^^ st.2.2.2.2.1 17) &&& (st.2.2.2.2.2 16 ^^^ (st.2.2.2.2.2 16 - st.2.2.2.2.1 17))) 0 <;>
  simp only [c1, c2, c3, not_true_eq_false, not_false_eq_true, if_true, if_false, g_e10]
theorem ml_rest (st : Md) (h : st.2.2.1 18 = 0) : f_M_rest st = md_set st 18 (f_X2_rest (md_at st 16) (md_at st 17) (md_at st 18)) := by
  unfold f_M_rest f_X2_rest
  simp only [ml_isExact, ml_copy, i16, i17, i18, un_below, ml_become, md_4]
  simp only [md_def, su_eq, h]
  by_cases c1 : f_X1_isExact (st.1 17, st.2.1 17, st.2.2.1 17, st.2.2.2.1 17, st.2.2.2.2.1 17, st.2.2.2.2.2 17) = 0 <;>
  by_cases c2 : lg_cmp (st.1 17) 0 = 0 <;>
  by_cases c3 : f_X0_isAbove (st.1 17) (st.2.2.2.1 16) = 0 <;>
  simp only [c1, c2, c3, if_true, if_false]
theorem ml_and (st : Md) (h : st.2.2.1 18 = 0) : f_M_logic st 5 = md_set st 18 (f_X2_and (md_at st 16) (md_at st 17) (md_at st 18)) := by
  unfold f_M_logic f_X2_and f_X0_unsignedMin
  simp only [i16, i17, i18, if_true, vp_upd_self, vp_upd_ne _ _ (show (16 : Nat) ≠ 18 by decide), vp_upd_ne _ _ (show (17 : Nat) ≠ 18 by decide), md_124, un_lesser]
  simp only [md_def, mo_eq, sb_eq, su_eq, h]
  rfl
theorem ml_or (st : Md) (h : st.2.2.2.1 18 = -1) : f_M_logic st 6 = md_set st 18 (f_X2_or (md_at st 16) (md_at st 17) (md_at st 18)) := by
  unfold f_M_logic f_X2_or f_X0_unsignedMax
  simp only [i16, i17, i18, if_true, if_false, show ¬ (6 : Int32) = 5 by decide, vp_upd_self, md_123, un_greater]
  simp only [md_def, sb_eq, su_eq, h]
  by_cases c1 : f_X0_isAbove (st.2.2.1 17) (st.2.2.1 16) = 0 <;> by_cases c2 : f_X0_isAbove (st.2.2.1 16) (st.2.2.1 17) = 0 <;> simp only [c1, c2, if_true, if_false]
  · rw [un_a0] at c1 c2
    rw [uN_inj (show uN (st.2.2.1 16) = uN (st.2.2.1 17) by omega)]
  · rw [un_a0] at c1 c2
    omega
theorem ml_xor (st : Md) {op : Int32} (h5 : ¬ op = 5) (h6 : ¬ op = 6) : f_M_logic st op = md_set st 18 (f_X2_xor (md_at st 16) (md_at st 17) (md_at st 18)) := by
  unfold f_M_logic f_X2_xor
  simp only [i16, i17, i18, if_false, h5, h6, vp_upd_self, md_12]
  simp only [md_def, sb_eq]
