theorem ob_eq (n : Nm) : f_X3_isOneBit n = if f_X1_isExact n = 0 then 0 else if f_M_isOne n.1 = 0 then 0 else 1 := by
  unfold f_X3_isOneBit
  by_cases c : f_X1_isExact n = 0
  · rw [if_pos c, if_pos c]
  · rw [if_neg c, if_neg c]
    by_cases c2 : f_M_isOne n.1 = 0
    · rw [if_pos c2, if_neg (fun q => (ml_isOne _).mp q c2)]
    · rw [if_neg c2, if_pos ((ml_isOne _).mpr c2)]
theorem ob_0 {n : Nm} (h : f_X1_isExact n = 0) : f_X3_isOneBit n = 0 := by rw [ob_eq, if_pos h]
theorem ob_1 {n : Nm} (h : ¬ f_X1_isExact n = 0) (h2 : f_M_isOne n.1 = 0) : f_X3_isOneBit n = 0 := by rw [ob_eq, if_neg h, if_pos h2]
theorem ob_2 {n : Nm} (h : ¬ f_X1_isExact n = 0) (h2 : ¬ f_M_isOne n.1 = 0) : ¬ f_X3_isOneBit n = 0 := by rw [ob_eq, if_neg h, if_neg h2]; exact g_e10
theorem lo_eq (a b c d e f p : Int64) : f_X1_learnOnes (a, b, c, d, e, f) p = (a ||| p, b &&& (p ^^^ (-1)), c, d, e, f) := rfl
section MEET
variable {st : Md}
theorem me_x : md_at (vp_updL st.1 16 (st.1 16 ||| st.1 17), vp_updL st.2.1 16 (st.2.1 16 &&& (st.1 17 ^^^ (-1))), st.2.2.1, st.2.2.2.1, st.2.2.2.2.1, st.2.2.2.2.2) 16 = f_X1_learnOnes (md_at st 16) (md_at st 17).1 ∧ md_at (vp_updL st.1 16 (st.1 16 ||| st.1 17), vp_updL st.2.1 16 (st.2.1 16 &&& (st.1 17 ^^^ (-1))), st.2.2.1, st.2.2.2.1, st.2.2.2.2.1, st.2.2.2.2.2) 17 = md_at st 17 ∧ ∀ k, k ≠ 16 → k ≠ 17 → md_at (vp_updL st.1 16 (st.1 16 ||| st.1 17), vp_updL st.2.1 16 (st.2.1 16 &&& (st.1 17 ^^^ (-1))), st.2.2.1, st.2.2.2.1, st.2.2.2.2.1, st.2.2.2.2.2) k = md_at st k := by
  rw [md_12]
  refine ⟨?_, md_at_ne _ _ (by decide), fun k h1 _ => md_at_ne _ _ h1⟩
  rw [md_at_set]
  rfl
theorem me_y : md_at (vp_updL st.1 17 (st.1 17 ||| st.1 16), vp_updL st.2.1 17 (st.2.1 17 &&& (st.1 16 ^^^ (-1))), st.2.2.1, st.2.2.2.1, st.2.2.2.2.1, st.2.2.2.2.2) 16 = md_at st 16 ∧ md_at (vp_updL st.1 17 (st.1 17 ||| st.1 16), vp_updL st.2.1 17 (st.2.1 17 &&& (st.1 16 ^^^ (-1))), st.2.2.1, st.2.2.2.1, st.2.2.2.2.1, st.2.2.2.2.2) 17 = f_X1_learnOnes (md_at st 17) (md_at st 16).1 ∧ ∀ k, k ≠ 16 → k ≠ 17 → md_at (vp_updL st.1 17 (st.1 17 ||| st.1 16), vp_updL st.2.1 17 (st.2.1 17 &&& (st.1 16 ^^^ (-1))), st.2.2.1, st.2.2.2.1, st.2.2.2.2.1, st.2.2.2.2.2) k = md_at st k := by
  rw [md_12]
  refine ⟨md_at_ne _ _ (by decide), ?_, fun k _ h2 => md_at_ne _ _ h2⟩
  rw [md_at_set]
  rfl
end MEET
theorem ml_meets (st : Md) : tl2 st 16 17 (f_M_meets st) (f_X3_meet (md_at st 16) (md_at st 17)) := by
  have x16 : f_M_isExact st 16 = f_X1_isExact (md_at st 16) := by rw [ml_isExact, i16]
  have x17 : f_M_isExact st 17 = f_X1_isExact (md_at st 17) := by rw [ml_isExact, i17]
  unfold f_M_meets
  rw [x16, x17]
  simp only [i16, i17, vp_upd_ne _ _ (show (17 : Nat) ≠ 16 by decide)]
  by_cases c : lg_cmp ((st.1 16 ||| st.2.1 16) &&& (st.1 17 ||| st.2.1 17)) 0 = 0
  · rw [if_pos c]
    exact tl_no rfl (if_pos c)
  rw [if_neg c]
  obtain ⟨a1, a2, a3⟩ := me_x (st := st)
  obtain ⟨b1, b2, b3⟩ := me_y (st := st)
  by_cases c0 : f_X1_isExact (md_at st 16) = 0
  · rw [if_pos c0]
    by_cases c1 : f_X1_isExact (md_at st 17) = 0
    · rw [if_pos c1]
      exact tl_yes rfl ((if_neg c).trans ((if_pos (ob_0 c1)).trans (if_pos (ob_0 c0)))) rfl rfl (fun k _ _ => rfl)
    · rw [if_neg c1]
      by_cases o1 : f_M_isOne (st.1 17) = 0
      · rw [if_pos o1]
        exact tl_yes rfl ((if_neg c).trans ((if_pos (ob_1 c1 o1)).trans (if_pos (ob_0 c0)))) rfl rfl (fun k _ _ => rfl)
      · rw [if_neg o1]
        exact tl_yes rfl ((if_neg c).trans ((if_neg (ob_2 c1 o1)).trans (if_pos (ob_0 c0)))) a1 a2 a3
  · rw [if_neg c0]
    by_cases o0 : f_M_isOne (st.1 16) = 0
    · rw [if_pos o0]
      by_cases c1 : f_X1_isExact (md_at st 17) = 0
      · rw [if_pos c1]
        exact tl_yes rfl ((if_neg c).trans ((if_pos (ob_0 c1)).trans (if_pos (ob_1 c0 o0)))) rfl rfl (fun k _ _ => rfl)
      · rw [if_neg c1]
        by_cases o1 : f_M_isOne (st.1 17) = 0
        · rw [if_pos o1]
          exact tl_yes rfl ((if_neg c).trans ((if_pos (ob_1 c1 o1)).trans (if_pos (ob_1 c0 o0)))) rfl rfl (fun k _ _ => rfl)
        · rw [if_neg o1]
          exact tl_yes rfl ((if_neg c).trans ((if_neg (ob_2 c1 o1)).trans (if_pos (ob_1 c0 o0)))) a1 a2 a3
    · rw [if_neg o0]
      by_cases c1 : f_X1_isExact (md_at st 17) = 0
      · rw [if_pos c1]
        exact tl_yes rfl ((if_neg c).trans ((if_pos (ob_0 c1)).trans (if_neg (ob_2 c0 o0)))) b1 b2 b3
      · rw [if_neg c1]
        by_cases o1 : f_M_isOne (st.1 17) = 0
        · rw [if_pos o1]
          exact tl_yes rfl ((if_neg c).trans ((if_pos (ob_1 c1 o1)).trans (if_neg (ob_2 c0 o0)))) b1 b2 b3
        · rw [if_neg o1]
          refine tl_yes rfl ((if_neg c).trans ((if_neg (ob_2 c1 o1)).trans (if_neg (ob_2 c0 o0)))) ?_ ?_ (fun k h1 h2 => ?_)
          · rw [md_def st 16, lo_eq]
            unfold md_at
            simp only [vp_upd_ne _ _ (show (16 : Nat) ≠ 17 by decide), vp_upd_self]
          · rw [md_def st 17, lo_eq]
            unfold md_at
            simp only [vp_upd_ne _ _ (show (17 : Nat) ≠ 16 by decide), vp_upd_self]
          · unfold md_at
            simp only [vp_upd_ne _ _ h1, vp_upd_ne _ _ h2]
/-! then both settle -/
def m_tl (P : Md × Int32) : Md × Int32 := if P.2 = 0 then (P.1, 0) else if (f_M_settle P.1 16).2 = 0 then ((f_M_settle P.1 16).1, 0) else if (f_M_settle (f_M_settle P.1 16).1 17).2 = 0 then ((f_M_settle (f_M_settle P.1 16).1 17).1, 0) else ((f_M_settle (f_M_settle P.1 16).1 17).1, 1)
def x_tl (R : Nm × Nm × Int32) : Nm × Nm × Int32 := if R.2.2 = 0 then (R.1, R.2.1, 0) else if (f_X1_settle R.1).2 = 0 then ((f_X1_settle R.1).1, R.2.1, 0) else if (f_X1_settle R.2.1).2 = 0 then ((f_X1_settle R.1).1, (f_X1_settle R.2.1).1, 0) else ((f_X1_settle R.1).1, (f_X1_settle R.2.1).1, 1)
theorem le_eq (n0 n1 : Nm) (r : Int32) : f_X3_learn n0 n1 r = x_tl (f_X3_apply n0 n1 r) := rfl
theorem tl_fin {st : Md} {P : Md × Int32} {R : Nm × Nm × Int32} (h : tl2 st 16 17 P R) : tl2 st 16 17 (m_tl P) (x_tl R) := by
  obtain ⟨h1, h2, h3⟩ := h
  unfold m_tl x_tl
  by_cases c : R.2.2 = 0
  · rw [if_pos (h1.trans c), if_pos c]
    exact ⟨rfl, Or.inl rfl, h3⟩
  · rw [if_neg (fun q => c (h1.symm.trans q)), if_neg c]
    obtain ⟨e1, e2⟩ := h2.resolve_left c
    have s1 : f_M_settle P.1 16 = (md_set P.1 16 (f_X1_settle R.1).1, (f_X1_settle R.1).2) := by rw [ml_settle, i16, e1]
    have s2 : f_M_settle (f_M_settle P.1 16).1 17 = (md_set (md_set P.1 16 (f_X1_settle R.1).1) 17 (f_X1_settle R.2.1).1, (f_X1_settle R.2.1).2) := by rw [sp_fst s1, ml_settle, i17, md_at_ne _ _ (show (17 : Nat) ≠ 16 by decide), e2]
    have k1 : ∀ k, k ≠ 16 → k ≠ 17 → md_at (md_set P.1 16 (f_X1_settle R.1).1) k = md_at st k := fun k q1 q2 => (md_at_ne _ _ q1).trans (h3 k q1 q2)
    have k2 : ∀ k, k ≠ 16 → k ≠ 17 → md_at (md_set (md_set P.1 16 (f_X1_settle R.1).1) 17 (f_X1_settle R.2.1).1) k = md_at st k := fun k q1 q2 => (md_at_ne _ _ q2).trans (k1 k q1 q2)
    rw [sp_fst s2, sp_snd s2, sp_fst s1, sp_snd s1]
    by_cases d1 : (f_X1_settle R.1).2 = 0
    · rw [if_pos d1, if_pos d1]
      exact ⟨rfl, Or.inl rfl, k1⟩
    · rw [if_neg d1, if_neg d1]
      by_cases d2 : (f_X1_settle R.2.1).2 = 0
      · rw [if_pos d2, if_pos d2]
        exact ⟨rfl, Or.inl rfl, k2⟩
      · rw [if_neg d2, if_neg d2]
        refine ⟨rfl, Or.inr ⟨?_, ?_⟩, k2⟩
        · show md_at _ 16 = _
          rw [md_at_ne _ _ (show (16 : Nat) ≠ 17 by decide), md_at_set]
        · show md_at _ 17 = _
          rw [md_at_set]
theorem tl_swap {st : Md} {P : Md × Int32} {R : Nm × Nm × Int32} (h : tl2 st 17 16 P R) : tl2 st 16 17 P (R.2.1, R.1, R.2.2) := ⟨h.1, h.2.1.imp (fun q => q) (fun q => ⟨q.2, q.1⟩), fun k h1 h2 => h.2.2 k h2 h1⟩
theorem tl_eta {st : Md} {P : Md × Int32} {R : Nm × Nm × Int32} (h : tl2 st 16 17 P R) : tl2 st 16 17 P (R.1, R.2.1, R.2.2) := h
theorem te_0 (st : Md) : tl2 st 16 17 (f_M_tells st 0) (f_X3_learn (md_at st 16) (md_at st 17) 0) := by
  have e1 : f_M_tells st 0 = m_tl (f_M_same st) := (if_pos rfl).trans (rfl)
  have ea : f_X3_apply (md_at st 16) (md_at st 17) 0 = ((f_X3_same (md_at st 16) (md_at st 17)).1, (f_X3_same (md_at st 16) (md_at st 17)).2.1, (f_X3_same (md_at st 16) (md_at st 17)).2.2) := (if_pos rfl).trans (rfl)
  have h : tl2 st 16 17 (f_M_same st) (f_X3_same (md_at st 16) (md_at st 17)) := by
    exact ml_same st
  rw [e1, le_eq, ea]
  exact tl_fin (tl_eta h)
theorem te_1 (st : Md) : tl2 st 16 17 (f_M_tells st 1) (f_X3_learn (md_at st 16) (md_at st 17) 1) := by
  have e1 : f_M_tells st 1 = m_tl (f_M_orders st 16 17 1 0) := (if_neg (show ¬ (1 : Int32) = 0 by decide)).trans ((if_pos rfl).trans (rfl))
  have ea : f_X3_apply (md_at st 16) (md_at st 17) 1 = ((f_X3_above (md_at st 16) (md_at st 17)).1, (f_X3_above (md_at st 16) (md_at st 17)).2.1, (f_X3_above (md_at st 16) (md_at st 17)).2.2) := (if_neg (show ¬ (1 : Int32) = 0 by decide)).trans ((if_pos rfl).trans (rfl))
  have h : tl2 st 16 17 (f_M_orders st 16 17 1 0) (f_X3_above (md_at st 16) (md_at st 17)) := by
    have q := or_10 st (i := 16) (j := 17) (by decide)
    rw [i16, i17] at q
    exact q
  rw [e1, le_eq, ea]
  exact tl_fin (tl_eta h)
theorem te_2 (st : Md) : tl2 st 16 17 (f_M_tells st 2) (f_X3_learn (md_at st 16) (md_at st 17) 2) := by
  have e1 : f_M_tells st 2 = m_tl (f_M_orders st 16 17 0 0) := (if_neg (show ¬ (2 : Int32) = 0 by decide)).trans ((if_neg (show ¬ (2 : Int32) = 1 by decide)).trans ((if_pos rfl).trans (rfl)))
  have ea : f_X3_apply (md_at st 16) (md_at st 17) 2 = ((f_X3_notBelow (md_at st 16) (md_at st 17)).1, (f_X3_notBelow (md_at st 16) (md_at st 17)).2.1, (f_X3_notBelow (md_at st 16) (md_at st 17)).2.2) := (if_neg (show ¬ (2 : Int32) = 0 by decide)).trans ((if_neg (show ¬ (2 : Int32) = 1 by decide)).trans ((if_pos rfl).trans (rfl)))
  have h : tl2 st 16 17 (f_M_orders st 16 17 0 0) (f_X3_notBelow (md_at st 16) (md_at st 17)) := by
    have q := or_00 st (i := 16) (j := 17) (by decide)
    rw [i16, i17] at q
    exact q
  rw [e1, le_eq, ea]
  exact tl_fin (tl_eta h)
theorem te_3 (st : Md) : tl2 st 16 17 (f_M_tells st 3) (f_X3_learn (md_at st 16) (md_at st 17) 3) := by
  have e1 : f_M_tells st 3 = m_tl (f_M_meets st) := (if_neg (show ¬ (3 : Int32) = 0 by decide)).trans ((if_neg (show ¬ (3 : Int32) = 1 by decide)).trans ((if_neg (show ¬ (3 : Int32) = 2 by decide)).trans ((if_pos rfl).trans (rfl))))
  have ea : f_X3_apply (md_at st 16) (md_at st 17) 3 = ((f_X3_meet (md_at st 16) (md_at st 17)).1, (f_X3_meet (md_at st 16) (md_at st 17)).2.1, (f_X3_meet (md_at st 16) (md_at st 17)).2.2) := (if_neg (show ¬ (3 : Int32) = 0 by decide)).trans ((if_neg (show ¬ (3 : Int32) = 1 by decide)).trans ((if_neg (show ¬ (3 : Int32) = 2 by decide)).trans ((if_pos rfl).trans (rfl))))
  have h : tl2 st 16 17 (f_M_meets st) (f_X3_meet (md_at st 16) (md_at st 17)) := by
    exact ml_meets st
  rw [e1, le_eq, ea]
  exact tl_fin (tl_eta h)
theorem te_4 (st : Md) : tl2 st 16 17 (f_M_tells st 4) (f_X3_learn (md_at st 16) (md_at st 17) 4) := by
  have e1 : f_M_tells st 4 = m_tl (f_M_notSame st) := (if_neg (show ¬ (4 : Int32) = 0 by decide)).trans ((if_neg (show ¬ (4 : Int32) = 1 by decide)).trans ((if_neg (show ¬ (4 : Int32) = 2 by decide)).trans ((if_neg (show ¬ (4 : Int32) = 3 by decide)).trans ((if_pos rfl).trans (rfl)))))
  have ea : f_X3_apply (md_at st 16) (md_at st 17) 4 = ((f_X3_notSame (md_at st 16) (md_at st 17)).1, (f_X3_notSame (md_at st 16) (md_at st 17)).2.1, (f_X3_notSame (md_at st 16) (md_at st 17)).2.2) := (if_neg (show ¬ (4 : Int32) = 0 by decide)).trans ((if_neg (show ¬ (4 : Int32) = 1 by decide)).trans ((if_neg (show ¬ (4 : Int32) = 2 by decide)).trans ((if_neg (show ¬ (4 : Int32) = 3 by decide)).trans ((if_pos rfl).trans (rfl)))))
  have h : tl2 st 16 17 (f_M_notSame st) (f_X3_notSame (md_at st 16) (md_at st 17)) := by
    exact ml_notSame st
  rw [e1, le_eq, ea]
  exact tl_fin (tl_eta h)
theorem te_5 (st : Md) : tl2 st 16 17 (f_M_tells st 5) (f_X3_learn (md_at st 16) (md_at st 17) 5) := by
  have e1 : f_M_tells st 5 = m_tl (f_M_orders st 16 17 1 1) := (if_neg (show ¬ (5 : Int32) = 0 by decide)).trans ((if_neg (show ¬ (5 : Int32) = 1 by decide)).trans ((if_neg (show ¬ (5 : Int32) = 2 by decide)).trans ((if_neg (show ¬ (5 : Int32) = 3 by decide)).trans ((if_neg (show ¬ (5 : Int32) = 4 by decide)).trans ((if_pos rfl).trans (rfl))))))
  have ea : f_X3_apply (md_at st 16) (md_at st 17) 5 = ((f_X3_greater (md_at st 16) (md_at st 17)).1, (f_X3_greater (md_at st 16) (md_at st 17)).2.1, (f_X3_greater (md_at st 16) (md_at st 17)).2.2) := (if_neg (show ¬ (5 : Int32) = 0 by decide)).trans ((if_neg (show ¬ (5 : Int32) = 1 by decide)).trans ((if_neg (show ¬ (5 : Int32) = 2 by decide)).trans ((if_neg (show ¬ (5 : Int32) = 3 by decide)).trans ((if_neg (show ¬ (5 : Int32) = 4 by decide)).trans ((if_pos rfl).trans (rfl))))))
  have h : tl2 st 16 17 (f_M_orders st 16 17 1 1) (f_X3_greater (md_at st 16) (md_at st 17)) := by
    have q := or_11 st (i := 16) (j := 17) (by decide)
    rw [i16, i17] at q
    exact q
  rw [e1, le_eq, ea]
  exact tl_fin (tl_eta h)
theorem te_6 (st : Md) : tl2 st 16 17 (f_M_tells st 6) (f_X3_learn (md_at st 16) (md_at st 17) 6) := by
  have e1 : f_M_tells st 6 = m_tl (f_M_orders st 16 17 0 1) := (if_neg (show ¬ (6 : Int32) = 0 by decide)).trans ((if_neg (show ¬ (6 : Int32) = 1 by decide)).trans ((if_neg (show ¬ (6 : Int32) = 2 by decide)).trans ((if_neg (show ¬ (6 : Int32) = 3 by decide)).trans ((if_neg (show ¬ (6 : Int32) = 4 by decide)).trans ((if_neg (show ¬ (6 : Int32) = 5 by decide)).trans ((if_pos rfl).trans (rfl)))))))
  have ea : f_X3_apply (md_at st 16) (md_at st 17) 6 = ((f_X3_notLess (md_at st 16) (md_at st 17)).1, (f_X3_notLess (md_at st 16) (md_at st 17)).2.1, (f_X3_notLess (md_at st 16) (md_at st 17)).2.2) := (if_neg (show ¬ (6 : Int32) = 0 by decide)).trans ((if_neg (show ¬ (6 : Int32) = 1 by decide)).trans ((if_neg (show ¬ (6 : Int32) = 2 by decide)).trans ((if_neg (show ¬ (6 : Int32) = 3 by decide)).trans ((if_neg (show ¬ (6 : Int32) = 4 by decide)).trans ((if_neg (show ¬ (6 : Int32) = 5 by decide)).trans ((if_pos rfl).trans (rfl)))))))
  have h : tl2 st 16 17 (f_M_orders st 16 17 0 1) (f_X3_notLess (md_at st 16) (md_at st 17)) := by
    have q := or_01 st (i := 16) (j := 17) (by decide)
    rw [i16, i17] at q
    exact q
  rw [e1, le_eq, ea]
  exact tl_fin (tl_eta h)
theorem te_7 (st : Md) : tl2 st 16 17 (f_M_tells st 7) (f_X3_learn (md_at st 16) (md_at st 17) 7) := by
  have e1 : f_M_tells st 7 = m_tl (f_M_orders st 17 16 1 0) := (if_neg (show ¬ (7 : Int32) = 0 by decide)).trans ((if_neg (show ¬ (7 : Int32) = 1 by decide)).trans ((if_neg (show ¬ (7 : Int32) = 2 by decide)).trans ((if_neg (show ¬ (7 : Int32) = 3 by decide)).trans ((if_neg (show ¬ (7 : Int32) = 4 by decide)).trans ((if_neg (show ¬ (7 : Int32) = 5 by decide)).trans ((if_neg (show ¬ (7 : Int32) = 6 by decide)).trans ((if_pos rfl).trans (rfl))))))))
  have ea : f_X3_apply (md_at st 16) (md_at st 17) 7 = ((f_X3_above (md_at st 17) (md_at st 16)).2.1, (f_X3_above (md_at st 17) (md_at st 16)).1, (f_X3_above (md_at st 17) (md_at st 16)).2.2) := (if_neg (show ¬ (7 : Int32) = 0 by decide)).trans ((if_neg (show ¬ (7 : Int32) = 1 by decide)).trans ((if_neg (show ¬ (7 : Int32) = 2 by decide)).trans ((if_neg (show ¬ (7 : Int32) = 3 by decide)).trans ((if_neg (show ¬ (7 : Int32) = 4 by decide)).trans ((if_neg (show ¬ (7 : Int32) = 5 by decide)).trans ((if_neg (show ¬ (7 : Int32) = 6 by decide)).trans ((if_pos rfl).trans (rfl))))))))
  have h : tl2 st 17 16 (f_M_orders st 17 16 1 0) (f_X3_above (md_at st 17) (md_at st 16)) := by
    have q := or_10 st (i := 17) (j := 16) (by decide)
    rw [i16, i17] at q
    exact q
  rw [e1, le_eq, ea]
  exact tl_fin (tl_swap h)
theorem te_8 (st : Md) : tl2 st 16 17 (f_M_tells st 8) (f_X3_learn (md_at st 16) (md_at st 17) 8) := by
  have e1 : f_M_tells st 8 = m_tl (f_M_orders st 17 16 0 0) := (if_neg (show ¬ (8 : Int32) = 0 by decide)).trans ((if_neg (show ¬ (8 : Int32) = 1 by decide)).trans ((if_neg (show ¬ (8 : Int32) = 2 by decide)).trans ((if_neg (show ¬ (8 : Int32) = 3 by decide)).trans ((if_neg (show ¬ (8 : Int32) = 4 by decide)).trans ((if_neg (show ¬ (8 : Int32) = 5 by decide)).trans ((if_neg (show ¬ (8 : Int32) = 6 by decide)).trans ((if_neg (show ¬ (8 : Int32) = 7 by decide)).trans ((if_pos rfl).trans (rfl)))))))))
  have ea : f_X3_apply (md_at st 16) (md_at st 17) 8 = ((f_X3_notBelow (md_at st 17) (md_at st 16)).2.1, (f_X3_notBelow (md_at st 17) (md_at st 16)).1, (f_X3_notBelow (md_at st 17) (md_at st 16)).2.2) := (if_neg (show ¬ (8 : Int32) = 0 by decide)).trans ((if_neg (show ¬ (8 : Int32) = 1 by decide)).trans ((if_neg (show ¬ (8 : Int32) = 2 by decide)).trans ((if_neg (show ¬ (8 : Int32) = 3 by decide)).trans ((if_neg (show ¬ (8 : Int32) = 4 by decide)).trans ((if_neg (show ¬ (8 : Int32) = 5 by decide)).trans ((if_neg (show ¬ (8 : Int32) = 6 by decide)).trans ((if_neg (show ¬ (8 : Int32) = 7 by decide)).trans ((if_pos rfl).trans (rfl)))))))))
  have h : tl2 st 17 16 (f_M_orders st 17 16 0 0) (f_X3_notBelow (md_at st 17) (md_at st 16)) := by
    have q := or_00 st (i := 17) (j := 16) (by decide)
    rw [i16, i17] at q
    exact q
  rw [e1, le_eq, ea]
  exact tl_fin (tl_swap h)
theorem te_9 (st : Md) : tl2 st 16 17 (f_M_tells st 9) (f_X3_learn (md_at st 16) (md_at st 17) 9) := by
  have e1 : f_M_tells st 9 = m_tl (f_M_orders st 17 16 1 1) := (if_neg (show ¬ (9 : Int32) = 0 by decide)).trans ((if_neg (show ¬ (9 : Int32) = 1 by decide)).trans ((if_neg (show ¬ (9 : Int32) = 2 by decide)).trans ((if_neg (show ¬ (9 : Int32) = 3 by decide)).trans ((if_neg (show ¬ (9 : Int32) = 4 by decide)).trans ((if_neg (show ¬ (9 : Int32) = 5 by decide)).trans ((if_neg (show ¬ (9 : Int32) = 6 by decide)).trans ((if_neg (show ¬ (9 : Int32) = 7 by decide)).trans ((if_neg (show ¬ (9 : Int32) = 8 by decide)).trans ((if_pos rfl).trans (rfl))))))))))
  have ea : f_X3_apply (md_at st 16) (md_at st 17) 9 = ((f_X3_greater (md_at st 17) (md_at st 16)).2.1, (f_X3_greater (md_at st 17) (md_at st 16)).1, (f_X3_greater (md_at st 17) (md_at st 16)).2.2) := (if_neg (show ¬ (9 : Int32) = 0 by decide)).trans ((if_neg (show ¬ (9 : Int32) = 1 by decide)).trans ((if_neg (show ¬ (9 : Int32) = 2 by decide)).trans ((if_neg (show ¬ (9 : Int32) = 3 by decide)).trans ((if_neg (show ¬ (9 : Int32) = 4 by decide)).trans ((if_neg (show ¬ (9 : Int32) = 5 by decide)).trans ((if_neg (show ¬ (9 : Int32) = 6 by decide)).trans ((if_neg (show ¬ (9 : Int32) = 7 by decide)).trans ((if_neg (show ¬ (9 : Int32) = 8 by decide)).trans ((if_pos rfl).trans (rfl))))))))))
  have h : tl2 st 17 16 (f_M_orders st 17 16 1 1) (f_X3_greater (md_at st 17) (md_at st 16)) := by
    have q := or_11 st (i := 17) (j := 16) (by decide)
    rw [i16, i17] at q
    exact q
  rw [e1, le_eq, ea]
  exact tl_fin (tl_swap h)
theorem te_10 (st : Md) : tl2 st 16 17 (f_M_tells st 10) (f_X3_learn (md_at st 16) (md_at st 17) 10) := by
  have e1 : f_M_tells st 10 = m_tl (f_M_orders st 17 16 0 1) := (if_neg (show ¬ (10 : Int32) = 0 by decide)).trans ((if_neg (show ¬ (10 : Int32) = 1 by decide)).trans ((if_neg (show ¬ (10 : Int32) = 2 by decide)).trans ((if_neg (show ¬ (10 : Int32) = 3 by decide)).trans ((if_neg (show ¬ (10 : Int32) = 4 by decide)).trans ((if_neg (show ¬ (10 : Int32) = 5 by decide)).trans ((if_neg (show ¬ (10 : Int32) = 6 by decide)).trans ((if_neg (show ¬ (10 : Int32) = 7 by decide)).trans ((if_neg (show ¬ (10 : Int32) = 8 by decide)).trans ((if_neg (show ¬ (10 : Int32) = 9 by decide)).trans ((if_pos rfl).trans (rfl)))))))))))
  have ea : f_X3_apply (md_at st 16) (md_at st 17) 10 = ((f_X3_notLess (md_at st 17) (md_at st 16)).2.1, (f_X3_notLess (md_at st 17) (md_at st 16)).1, (f_X3_notLess (md_at st 17) (md_at st 16)).2.2) := (if_neg (show ¬ (10 : Int32) = 0 by decide)).trans ((if_neg (show ¬ (10 : Int32) = 1 by decide)).trans ((if_neg (show ¬ (10 : Int32) = 2 by decide)).trans ((if_neg (show ¬ (10 : Int32) = 3 by decide)).trans ((if_neg (show ¬ (10 : Int32) = 4 by decide)).trans ((if_neg (show ¬ (10 : Int32) = 5 by decide)).trans ((if_neg (show ¬ (10 : Int32) = 6 by decide)).trans ((if_neg (show ¬ (10 : Int32) = 7 by decide)).trans ((if_neg (show ¬ (10 : Int32) = 8 by decide)).trans ((if_neg (show ¬ (10 : Int32) = 9 by decide)).trans ((if_pos rfl).trans (rfl)))))))))))
  have h : tl2 st 17 16 (f_M_orders st 17 16 0 1) (f_X3_notLess (md_at st 17) (md_at st 16)) := by
    have q := or_01 st (i := 17) (j := 16) (by decide)
    rw [i16, i17] at q
    exact q
  rw [e1, le_eq, ea]
  exact tl_fin (tl_swap h)
theorem te_11 (st : Md) : tl2 st 16 17 (f_M_tells st 11) (f_X3_learn (md_at st 16) (md_at st 17) 11) := by
  have e1 : f_M_tells st 11 = m_tl (f_M_misses st) := (if_neg (show ¬ (11 : Int32) = 0 by decide)).trans ((if_neg (show ¬ (11 : Int32) = 1 by decide)).trans ((if_neg (show ¬ (11 : Int32) = 2 by decide)).trans ((if_neg (show ¬ (11 : Int32) = 3 by decide)).trans ((if_neg (show ¬ (11 : Int32) = 4 by decide)).trans ((if_neg (show ¬ (11 : Int32) = 5 by decide)).trans ((if_neg (show ¬ (11 : Int32) = 6 by decide)).trans ((if_neg (show ¬ (11 : Int32) = 7 by decide)).trans ((if_neg (show ¬ (11 : Int32) = 8 by decide)).trans ((if_neg (show ¬ (11 : Int32) = 9 by decide)).trans ((if_neg (show ¬ (11 : Int32) = 10 by decide)).trans (rfl)))))))))))
  have ea : f_X3_apply (md_at st 16) (md_at st 17) 11 = ((f_X3_notMeet (md_at st 16) (md_at st 17)).1, (f_X3_notMeet (md_at st 16) (md_at st 17)).2.1, (f_X3_notMeet (md_at st 16) (md_at st 17)).2.2) := (if_neg (show ¬ (11 : Int32) = 0 by decide)).trans ((if_neg (show ¬ (11 : Int32) = 1 by decide)).trans ((if_neg (show ¬ (11 : Int32) = 2 by decide)).trans ((if_neg (show ¬ (11 : Int32) = 3 by decide)).trans ((if_neg (show ¬ (11 : Int32) = 4 by decide)).trans ((if_neg (show ¬ (11 : Int32) = 5 by decide)).trans ((if_neg (show ¬ (11 : Int32) = 6 by decide)).trans ((if_neg (show ¬ (11 : Int32) = 7 by decide)).trans ((if_neg (show ¬ (11 : Int32) = 8 by decide)).trans ((if_neg (show ¬ (11 : Int32) = 9 by decide)).trans ((if_neg (show ¬ (11 : Int32) = 10 by decide)).trans ((if_pos rfl).trans (rfl))))))))))))
  have h : tl2 st 16 17 (f_M_misses st) (f_X3_notMeet (md_at st 16) (md_at st 17)) := by
    exact ml_misses st
  rw [e1, le_eq, ea]
  exact tl_fin (tl_eta h)
theorem op_12 {op : Int32} (h0 : ¬ op < 0) (h1 : op ≤ 11) : op = 0 ∨ op = 1 ∨ op = 2 ∨ op = 3 ∨ op = 4 ∨ op = 5 ∨ op = 6 ∨ op = 7 ∨ op = 8 ∨ op = 9 ∨ op = 10 ∨ op = 11 := by
  obtain ⟨j, hj, rfl⟩ := nI_of2 (M := 11) (n := 11) (by decide) h0 h1
  have q : ∀ j, j ≤ 11 → (nI j = 0 ∨ nI j = 1 ∨ nI j = 2 ∨ nI j = 3 ∨ nI j = 4 ∨ nI j = 5 ∨ nI j = 6 ∨ nI j = 7 ∨ nI j = 8 ∨ nI j = 9 ∨ nI j = 10 ∨ nI j = 11) := by decide +kernel
  exact q j hj
theorem ml_tells (st : Md) {r : Int32} (h0 : ¬ r < 0) (h1 : r ≤ 11) : tl2 st 16 17 (f_M_tells st r) (f_X3_learn (md_at st 16) (md_at st 17) r) := by
  rcases op_12 h0 h1 with rfl | rfl | rfl | rfl | rfl | rfl | rfl | rfl | rfl | rfl | rfl | rfl
  · exact te_0 st
  · exact te_1 st
  · exact te_2 st
  · exact te_3 st
  · exact te_4 st
  · exact te_5 st
  · exact te_6 st
  · exact te_7 st
  · exact te_8 st
  · exact te_9 st
  · exact te_10 st
  · exact te_11 st
