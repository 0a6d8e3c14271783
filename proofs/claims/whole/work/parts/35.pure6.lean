theorem md_all (st : Md) (i : Nat) (a b c d e f : Int64) : (vp_updL st.1 i a, vp_updL st.2.1 i b, vp_updL st.2.2.1 i c, vp_updL st.2.2.2.1 i d, vp_updL st.2.2.2.2.1 i e, vp_updL st.2.2.2.2.2 i f) = md_set st i (a, b, c, d, e, f) := rfl
theorem low_set : f_X1_settle (0, 4294967295, 0, 4294967295, 0, 4294967295) = ((0, 4294967295, 0, 4294967295, 0, 4294967295), 1) := by decide +kernel
theorem zero_set : f_X1_settle (0, -1, 0, 0, -9223372036854775808, 9223372036854775807) = ((0, 0, 0, 0, 0, 0), 1) := by decide +kernel
theorem nw_eq (a b c d e f : Int64) : f_X1_narrow (a, b, c, d, e, f) = if f_X0_isAbove d 4294967295 = 0 then (a, b, c, d, e, f) else if lg_cmp ((c.toUInt64 >>> ((32 : Int32).toInt64.toUInt64 &&& Int64.toUInt64 63)).toInt64) ((d.toUInt64 >>> ((32 : Int32).toInt64.toUInt64 &&& Int64.toUInt64 63)).toInt64) = 0 then
    (if (f_X1_settle (a &&& 4294967295, b &&& 4294967295, c &&& 4294967295, d &&& 4294967295, 0, 4294967295)).2 = 0 then (0, 4294967295, 0, 4294967295, 0, 4294967295) else (f_X1_settle (a &&& 4294967295, b &&& 4294967295, c &&& 4294967295, d &&& 4294967295, 0, 4294967295)).1)
    else if (f_X1_settle (a &&& 4294967295, b &&& 4294967295, 0, 4294967295, 0, 4294967295)).2 = 0 then (0, 4294967295, 0, 4294967295, 0, 4294967295) else (f_X1_settle (a &&& 4294967295, b &&& 4294967295, 0, 4294967295, 0, 4294967295)).1 := rfl
theorem ml_narrow (st : Md) (i : Int32) : f_M_narrow st i = md_set st i.toNatClampNeg (f_X1_narrow (md_at st i.toNatClampNeg)) := by
  unfold f_M_narrow
  simp only [md_all, ml_settle, md_at_set, md_set2, low_set, un_below]
  rw [md_def st, nw_eq]
  by_cases c1 : f_X0_isAbove (st.2.2.2.1 i.toNatClampNeg) 4294967295 = 0
  · rw [if_pos c1, if_pos c1, md_self]
  · rw [if_neg c1, if_neg c1]
    by_cases c2 : lg_cmp (((st.2.2.1 i.toNatClampNeg).toUInt64 >>> ((32 : Int32).toInt64.toUInt64 &&& Int64.toUInt64 63)).toInt64) (((st.2.2.2.1 i.toNatClampNeg).toUInt64 >>> ((32 : Int32).toInt64.toUInt64 &&& Int64.toUInt64 63)).toInt64) = 0
    · rw [if_pos c2, if_pos c2]
      by_cases c3 : (f_X1_settle (st.1 i.toNatClampNeg &&& 4294967295, st.2.1 i.toNatClampNeg &&& 4294967295, st.2.2.1 i.toNatClampNeg &&& 4294967295, st.2.2.2.1 i.toNatClampNeg &&& 4294967295, 0, 4294967295)).2 = 0
      · simp only [if_pos c3, g_e10, if_false]
      · simp only [if_neg c3]
    · rw [if_neg c2, if_neg c2]
      by_cases c3 : (f_X1_settle (st.1 i.toNatClampNeg &&& 4294967295, st.2.1 i.toNatClampNeg &&& 4294967295, 0, 4294967295, 0, 4294967295)).2 = 0
      · simp only [if_pos c3, g_e10, if_false]
      · simp only [if_neg c3]
