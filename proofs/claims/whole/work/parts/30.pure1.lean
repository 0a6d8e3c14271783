/-! unsigned comparison, the two ways -/
theorem un_xm (x : Int64) : x + (-9223372036854775808) = x ^^^ (-9223372036854775808) := by
  apply uN_inj
  rw [uN_xor, uN_add]
  rfl
theorem un_above (a b : Int64) : f_X0_isAbove a b = if uN a ≤ uN b then 0 else 1 := by
  unfold f_X0_isAbove
  simp only [lg_cmp_le, uN_le]
theorem un_below (a b : Int64) : f_M_below a b = f_X0_isAbove b a := by
  unfold f_M_below f_X0_isAbove
  rw [un_xm, un_xm]
  simp only [lg_cmp_ge, lg_cmp_le]
theorem un_a0 {a b : Int64} : f_X0_isAbove a b = 0 ↔ uN a ≤ uN b := by
  rw [un_above]
  by_cases h : uN a ≤ uN b
  · simp [h]
  · simp [h]
theorem un_is (i : Int32) : f_M_is i = f_X0_isNumber i := rfl
theorem un_greater (a b : Int64) : f_M_greater a b = if f_X0_isAbove b a = 0 then a else b := by
  unfold f_M_greater
  rw [un_below]
theorem un_lesser (a b : Int64) : f_M_lesser a b = if f_X0_isAbove a b = 0 then a else b := by
  unfold f_M_lesser
  rw [un_below]
  by_cases h1 : f_X0_isAbove a b = 0
  · rw [if_pos h1]
    by_cases h2 : f_X0_isAbove b a = 0
    · rw [if_pos h2]
      rw [un_a0] at h1 h2
      exact uN_inj (by omega)
    · rw [if_neg h2]
  · rw [if_neg h1]
    by_cases h2 : f_X0_isAbove b a = 0
    · rw [if_pos h2]
    · rw [un_a0] at h1 h2
      omega
/-! the reference's numbers -/
def md_at (st : Md) (k : Nat) : Nm := (st.1 k, st.2.1 k, st.2.2.1 k, st.2.2.2.1 k, st.2.2.2.2.1 k, st.2.2.2.2.2 k)
def md_set (st : Md) (i : Nat) (n : Nm) : Md := (vp_updL st.1 i n.1, vp_updL st.2.1 i n.2.1, vp_updL st.2.2.1 i n.2.2.1, vp_updL st.2.2.2.1 i n.2.2.2.1, vp_updL st.2.2.2.2.1 i n.2.2.2.2.1, vp_updL st.2.2.2.2.2 i n.2.2.2.2.2)
theorem vp_upd_self (f : Nat → Int64) (i : Nat) (x : Int64) : vp_updL f i x i = x := by
  unfold vp_updL
  simp
theorem vp_upd_ne (f : Nat → Int64) {i k : Nat} (x : Int64) (h : k ≠ i) : vp_updL f i x k = f k := by
  unfold vp_updL
  simp [h]
theorem vp_upd_id (f : Nat → Int64) (i : Nat) : vp_updL f i (f i) = f := by
  funext k
  by_cases h : k = i
  · rw [h, vp_upd_self]
  · rw [vp_upd_ne _ _ h]
theorem vp_upd2 (f : Nat → Int64) (i : Nat) (x y : Int64) : vp_updL (vp_updL f i x) i y = vp_updL f i y := by
  funext k
  by_cases h : k = i
  · rw [h, vp_upd_self, vp_upd_self]
  · rw [vp_upd_ne _ _ h, vp_upd_ne _ _ h, vp_upd_ne _ _ h]
theorem md_at_set (st : Md) (i : Nat) (n : Nm) : md_at (md_set st i n) i = n := by
  unfold md_at md_set
  simp only [vp_upd_self]
theorem md_at_ne (st : Md) {i k : Nat} (n : Nm) (h : k ≠ i) : md_at (md_set st i n) k = md_at st k := by
  unfold md_at md_set
  simp only [vp_upd_ne _ _ h]
theorem md_set_id (st : Md) (i : Nat) : md_set st i (md_at st i) = st := by
  unfold md_at md_set
  simp only [vp_upd_id]
theorem md_set2 (st : Md) (i : Nat) (n n' : Nm) : md_set (md_set st i n) i n' = md_set st i n' := by
  unfold md_set
  simp only [vp_upd2]
/-- the class's number that the reference's method makes of its i-th -/
theorem md_1 (st : Md) (i : Nat) (v : Int64) : (vp_updL st.1 i v, st.2.1, st.2.2.1, st.2.2.2.1, st.2.2.2.2.1, st.2.2.2.2.2) = md_set st i (v, (md_at st i).2.1, (md_at st i).2.2.1, (md_at st i).2.2.2.1, (md_at st i).2.2.2.2.1, (md_at st i).2.2.2.2.2) := by
  unfold md_at md_set
  simp only [vp_upd_id]
theorem ml_copy (st : Md) (a b : Int32) : f_M_copy st a b = md_set st b.toNatClampNeg (md_at st a.toNatClampNeg) := rfl
theorem ml_setAny (st : Md) (i : Int32) (n : Nm) : f_M_setAny st i = md_set st i.toNatClampNeg (f_X1_becomeAny n) := rfl
theorem ml_setExact (st : Md) (i : Int32) (c : Int64) (n : Nm) : f_M_setExact st i c = md_set st i.toNatClampNeg (f_X1_becomeExact n c) := rfl
theorem ml_isExact (st : Md) (i : Int32) : f_M_isExact st i = f_X1_isExact (md_at st i.toNatClampNeg) := rfl
theorem ml_become (n m : Nm) : f_X1_become n m = m := rfl
theorem ml_isEmpty (st : Md) (i : Int32) : f_M_isEmpty st i = f_X1_isCrossed (md_at st i.toNatClampNeg) := by
  unfold f_M_isEmpty f_X1_isCrossed
  rw [un_below]
  rfl
