def x_wo (n : Nm) (p : Int64) : Nm := (n.1, n.2.1, (if lg_cmp n.2.2.1 p = 0 then n.2.2.1 + 1 else n.2.2.1), (if lg_cmp n.2.2.2.1 p = 0 then n.2.2.2.1 - 1 else n.2.2.2.1), (if lg_cmp n.2.2.2.2.1 p = 0 then n.2.2.2.2.1 + 1 else n.2.2.2.2.1), (if lg_cmp n.2.2.2.2.2 p = 0 then n.2.2.2.2.2 - 1 else n.2.2.2.2.2))
theorem wo_eq (a b c d e f p : Int64) : x_wo (a, b, c, d, e, f) p = (a, b, (if lg_cmp c p = 0 then c + 1 else c), (if lg_cmp d p = 0 then d - 1 else d), (if lg_cmp e p = 0 then e + 1 else e), (if lg_cmp f p = 0 then f - 1 else f)) := rfl
theorem ex_eq (a b c d e f p : Int64) : f_X1_exclude (a, b, c, d, e, f) p = if f_X1_isExactly (a, b, c, d, e, f) p = 0 then (x_wo (a, b, c, d, e, f) p, 1) else ((a, b, c, d, e, f), 0) := by
  rw [wo_eq]
  unfold f_X1_exclude
  dsimp only
  by_cases c1 : lg_cmp c p = 0 <;> by_cases c2 : lg_cmp d p = 0 <;> by_cases c3 : lg_cmp e p = 0 <;> by_cases c4 : lg_cmp f p = 0 <;> simp only [c1, c2, c3, c4, if_true, if_false]
theorem md_3456 {st : Md} {i : Nat} {c d e f : Int64} : (st.1, st.2.1, vp_updL st.2.2.1 i c, vp_updL st.2.2.2.1 i d, vp_updL st.2.2.2.2.1 i e, vp_updL st.2.2.2.2.2 i f) = md_set st i (st.1 i, st.2.1 i, c, d, e, f) := by
  unfold md_set
  simp only [vp_upd_id]
theorem ml_without (st : Md) (i : Int32) (p : Int64) : f_M_without st i p = md_set st i.toNatClampNeg (x_wo (md_at st i.toNatClampNeg) p) := by
  rw [md_def, wo_eq]
  unfold f_M_without
  simp only [md_3456]
  by_cases c1 : lg_cmp (st.2.2.1 i.toNatClampNeg) p = 0 <;> by_cases c2 : lg_cmp (st.2.2.2.1 i.toNatClampNeg) p = 0 <;> by_cases c3 : lg_cmp (st.2.2.2.2.1 i.toNatClampNeg) p = 0 <;> by_cases c4 : lg_cmp (st.2.2.2.2.2 i.toNatClampNeg) p = 0 <;> simp only [c1, c2, c3, c4, if_true, if_false]
theorem xl_no {n : Nm} {p : Int64} (h : ¬ f_X1_isExactly n p = 0) : f_X1_exclude n p = (n, 0) := by
  have := ex_eq n.1 n.2.1 n.2.2.1 n.2.2.2.1 n.2.2.2.2.1 n.2.2.2.2.2 p
  exact this.trans (if_neg h)
theorem xl_yes {n : Nm} {p : Int64} (h : f_X1_isExactly n p = 0) : f_X1_exclude n p = (x_wo n p, 1) := by
  have := ex_eq n.1 n.2.1 n.2.2.1 n.2.2.2.1 n.2.2.2.2.1 n.2.2.2.2.2 p
  exact this.trans (if_pos h)
theorem ie_no {n : Nm} {p : Int64} (h : f_X1_isExact n = 0) : f_X1_isExactly n p = 0 := by
  unfold f_X1_isExact at h
  unfold f_X1_isExactly
  split at h
  · exact absurd h g_e10
  · rename_i c
    rw [if_neg c]
theorem ie_eq {n : Nm} {p : Int64} (h : ¬ f_X1_isExact n = 0) : f_X1_isExactly n p = if lg_cmp n.1 p = 0 then 1 else 0 := by
  unfold f_X1_isExact at h
  unfold f_X1_isExactly
  split at h
  · rename_i c
    rw [if_pos c]
  · exact absurd rfl h
theorem lc_sym {x y : Int64} (h : ¬ lg_cmp x y = 0) : ¬ lg_cmp y x = 0 := fun q => h ((lg_cmp_eq _ _).mpr ((lg_cmp_eq _ _).mp q).symm)
theorem ml_notSame (st : Md) : tl2 st 16 17 (f_M_notSame st) (f_X3_notSame (md_at st 16) (md_at st 17)) := by
  have hm : ∀ {P : Md × Int32}, f_M_notSame st = P → f_M_notSame st = P := fun h => h
  have x16 : f_M_isExact st 16 = f_X1_isExact (md_at st 16) := by rw [ml_isExact, i16]
  have x17 : f_M_isExact st 17 = f_X1_isExact (md_at st 17) := by rw [ml_isExact, i17]
  unfold f_M_notSame
  rw [x16, x17]
  simp only [i16, i17, ml_without]
  by_cases c0 : f_X1_isExact (md_at st 16) = 0 <;> by_cases c1 : f_X1_isExact (md_at st 17) = 0
  · rw [if_pos c0, if_pos c1]
    exact tl_yes rfl ((if_pos c1).trans (if_pos c0)) rfl rfl (fun k _ _ => rfl)
  · rw [if_pos c0, if_neg c1]
    have e := xl_yes (n := md_at st 16) (p := (md_at st 17).1) (ie_no c0)
    have eX : f_X3_notSame (md_at st 16) (md_at st 17) = ((f_X1_exclude (md_at st 16) (md_at st 17).1).1, md_at st 17, 1) := (if_neg c1).trans ((if_neg (by rw [sp_snd e]; exact g_e10)).trans (if_pos c0))
    rw [sp_fst e] at eX
    exact tl_yes rfl eX (md_at_set _ _ _) (md_at_ne _ _ (by decide)) (fun k h1 _ => md_at_ne _ _ h1)
  · rw [if_neg c0, if_pos c1]
    have e := xl_yes (n := md_at st 17) (p := (md_at st 16).1) (ie_no c1)
    have eX : f_X3_notSame (md_at st 16) (md_at st 17) = (md_at st 16, (f_X1_exclude (md_at st 17) (md_at st 16).1).1, 1) := (if_pos c1).trans ((if_neg c0).trans (if_neg (by rw [sp_snd e]; exact g_e10)))
    rw [sp_fst e] at eX
    exact tl_yes rfl eX (md_at_ne _ _ (by decide)) (md_at_set _ _ _) (fun k _ h2 => md_at_ne _ _ h2)
  · rw [if_neg c0, if_neg c1]
    by_cases c2 : lg_cmp (st.1 16) (st.1 17) = 0
    · rw [if_pos c2]
      have e := xl_no (n := md_at st 16) (p := (md_at st 17).1) (by rw [ie_eq c0, if_pos (show lg_cmp (md_at st 16).1 (md_at st 17).1 = 0 from c2)]; exact g_e10)
      exact tl_no rfl ((if_neg c1).trans (if_pos (sp_snd e)))
    · rw [if_neg c2]
      have e := xl_yes (n := md_at st 16) (p := (md_at st 17).1) (by rw [ie_eq c0, if_neg (show ¬ lg_cmp (md_at st 16).1 (md_at st 17).1 = 0 from c2)])
      have e' := xl_yes (n := md_at st 17) (p := (md_at st 16).1) (by rw [ie_eq c1, if_neg (show ¬ lg_cmp (md_at st 17).1 (md_at st 16).1 = 0 from lc_sym c2)])
      have eX : f_X3_notSame (md_at st 16) (md_at st 17) = ((f_X1_exclude (md_at st 16) (md_at st 17).1).1, (f_X1_exclude (md_at st 17) (md_at st 16).1).1, 1) := (if_neg c1).trans ((if_neg (by rw [sp_snd e]; exact g_e10)).trans ((if_neg c0).trans (if_neg (by rw [sp_snd e']; exact g_e10))))
      rw [sp_fst e, sp_fst e'] at eX
      refine tl_yes rfl eX ?_ ?_ (fun k h1 h2 => ?_)
      · rw [md_at_ne _ _ (show (16 : Nat) ≠ 17 by decide), md_at_set]
        rfl
      · rw [md_at_set, md_at_ne _ _ (show (17 : Nat) ≠ 16 by decide)]
        rfl
      · rw [md_at_ne _ _ h2, md_at_ne _ _ h1]
/-! notMeet -/
theorem and_clear {a z : Int64} (h : a &&& z = 0) : a &&& (z ^^^ (-1)) = a := by
  apply uN_ext
  intro i hi
  have hb : ((uN a).testBit i && (uN z).testBit i) = false := by
    rw [← tb_and, h]
    exact Nat.zero_testBit i
  rw [tb_and, tb_xor, tb_m1 i hi]
  revert hb
  cases (uN a).testBit i <;> cases (uN z).testBit i <;> decide
theorem and_cm (a b : Int64) : a &&& b = b &&& a := by
  apply uN_ext
  intro i hi
  rw [tb_and, tb_and, Bool.and_comm]
theorem lz_eq {a b c d e f z : Int64} (h : a &&& z = 0) : f_X1_learnZeros (a, b, c, d, e, f) z = (a, b &&& (z ^^^ (-1)), c, d, e, f) := by
  unfold f_X1_learnZeros
  dsimp only
  rw [sb_eq, and_clear h]
theorem ml_misses (st : Md) : tl2 st 16 17 (f_M_misses st) (f_X3_notMeet (md_at st 16) (md_at st 17)) := by
  have x16 : f_M_isExact st 16 = f_X1_isExact (md_at st 16) := by rw [ml_isExact, i16]
  have x17 : f_M_isExact st 17 = f_X1_isExact (md_at st 17) := by rw [ml_isExact, i17]
  unfold f_M_misses
  rw [x16, x17]
  simp only [i16, i17, vp_upd_ne _ _ (show (17 : Nat) ≠ 16 by decide)]
  by_cases c : lg_cmp (st.1 16 &&& st.1 17) 0 = 0
  case neg =>
    rw [if_neg c]
    exact tl_no rfl (if_neg c)
  rw [if_pos c]
  have hz : st.1 16 &&& st.1 17 = 0 := (lg_cmp_eq _ _).mp c
  have hz' : st.1 17 &&& st.1 16 = 0 := by rw [and_cm]; exact hz
  have z16 : f_X1_learnZeros (md_at st 16) (md_at st 17).1 = (st.1 16, st.2.1 16 &&& (st.1 17 ^^^ (-1)), st.2.2.1 16, st.2.2.2.1 16, st.2.2.2.2.1 16, st.2.2.2.2.2 16) := lz_eq hz
  have z17 : f_X1_learnZeros (md_at st 17) (md_at st 16).1 = (st.1 17, st.2.1 17 &&& (st.1 16 ^^^ (-1)), st.2.2.1 17, st.2.2.2.1 17, st.2.2.2.2.1 17, st.2.2.2.2.2 17) := lz_eq hz'
  by_cases c0 : f_X1_isExact (md_at st 16) = 0 <;> by_cases c1 : f_X1_isExact (md_at st 17) = 0
  · rw [if_pos c1, if_pos c0]
    exact tl_yes rfl ((if_pos c).trans ((if_pos c1).trans (if_pos c0))) rfl rfl (fun k _ _ => rfl)
  · rw [if_neg c1, if_pos c0, md_2]
    have eX : f_X3_notMeet (md_at st 16) (md_at st 17) = (f_X1_learnZeros (md_at st 16) (md_at st 17).1, md_at st 17, 1) := (if_pos c).trans ((if_neg c1).trans (if_pos c0))
    rw [z16] at eX
    exact tl_yes rfl eX (md_at_set _ _ _) (md_at_ne _ _ (by decide)) (fun k h1 _ => md_at_ne _ _ h1)
  · rw [if_pos c1, if_neg c0, md_2]
    have eX : f_X3_notMeet (md_at st 16) (md_at st 17) = (md_at st 16, f_X1_learnZeros (md_at st 17) (md_at st 16).1, 1) := (if_pos c).trans ((if_pos c1).trans (if_neg c0))
    rw [z17] at eX
    exact tl_yes rfl eX (md_at_ne _ _ (by decide)) (md_at_set _ _ _) (fun k _ h2 => md_at_ne _ _ h2)
  · rw [if_neg c1, if_neg c0]
    have eX : f_X3_notMeet (md_at st 16) (md_at st 17) = (f_X1_learnZeros (md_at st 16) (md_at st 17).1, f_X1_learnZeros (md_at st 17) (md_at st 16).1, 1) := (if_pos c).trans ((if_neg c1).trans (if_neg c0))
    rw [z16, z17] at eX
    refine tl_yes rfl eX ?_ ?_ (fun k h1 h2 => ?_)
    · unfold md_at
      simp only [vp_upd_ne _ _ (show (16 : Nat) ≠ 17 by decide), vp_upd_self]
    · unfold md_at
      simp only [vp_upd_self]
    · unfold md_at
      simp only [vp_upd_ne _ _ h1, vp_upd_ne _ _ h2]
