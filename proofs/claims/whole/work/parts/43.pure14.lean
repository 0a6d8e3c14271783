/-! what a relation tells -/
def tl2 (st : Md) (i j : Nat) (p : Md × Int32) (r : Nm × Nm × Int32) : Prop := p.2 = r.2.2 ∧ (r.2.2 = 0 ∨ (md_at p.1 i = r.1 ∧ md_at p.1 j = r.2.1)) ∧ ∀ k, k ≠ i → k ≠ j → md_at p.1 k = md_at st k
theorem tl_no {st : Md} {i j : Nat} {p : Md × Int32} {r : Nm × Nm × Int32} {a b : Nm} (hp : p = (st, 0)) (hr : r = (a, b, 0)) : tl2 st i j p r := by
  subst hp
  subst hr
  exact ⟨rfl, Or.inl rfl, fun k _ _ => rfl⟩
theorem tl_yes {st S : Md} {i j : Nat} {p : Md × Int32} {r : Nm × Nm × Int32} {a b : Nm} (hp : p = (S, 1)) (hr : r = (a, b, 1)) (h1 : md_at S i = a) (h2 : md_at S j = b) (hk : ∀ k, k ≠ i → k ≠ j → md_at S k = md_at st k) : tl2 st i j p r := by
  subst hp
  subst hr
  exact ⟨rfl, Or.inr ⟨h1, h2⟩, hk⟩
section CLS
variable {a b c d e f a' b' c' d' e' f' : Int64}
theorem ab_eq (h1 : ¬ lg_cmp c' (-1) = 0) (h2 : ¬ lg_cmp d 0 = 0) : f_X3_above (a, b, c, d, e, f) (a', b', c', d', e', f') = ((a, b, f_M_greater c (c' + 1), d, e, f), (a', b', c', f_M_lesser d' (d - 1), e', f'), 1) := by
  unfold f_X3_above
  dsimp only
  rw [if_neg h1, if_neg h2, rl_eq]
  dsimp only
  rw [lt_eq]
theorem nb_eq : f_X3_notBelow (a, b, c, d, e, f) (a', b', c', d', e', f') = ((a, b, f_M_greater c c', d, e, f), (a', b', c', f_M_lesser d' d, e', f'), 1) := by
  unfold f_X3_notBelow
  dsimp only
  rw [rl_eq]
  dsimp only
  rw [lt_eq]
theorem gr_eq (h1 : ¬ lg_cmp e' 9223372036854775807 = 0) (h2 : ¬ lg_cmp f (-9223372036854775808) = 0) : f_X3_greater (a, b, c, d, e, f) (a', b', c', d', e', f') = ((a, b, c, d, (if e' + 1 < e then e else e' + 1), f), (a', b', c', d', e', (if f - 1 < f' then f - 1 else f')), 1) := by
  unfold f_X3_greater
  dsimp only
  rw [if_neg h1, if_neg h2, rs_eq]
  dsimp only
  rw [ls_eq]
theorem nl_eq : f_X3_notLess (a, b, c, d, e, f) (a', b', c', d', e', f') = ((a, b, c, d, (if e' < e then e else e'), f), (a', b', c', d', e', (if f < f' then f else f')), 1) := by
  unfold f_X3_notLess
  dsimp only
  rw [rs_eq]
  dsimp only
  rw [ls_eq]
theorem mx_eq {x y : Int64} : (if lg_cmp x y ≤ 0 then y else x) = if y < x then x else y := by
  by_cases h : lg_cmp x y ≤ 0
  · rw [if_pos h, if_neg (ml_nlt ((lg_cmp_le _ _).mp h))]
  · rw [if_neg h, if_pos (ml_nle (fun q => h ((lg_cmp_le _ _).mpr q)))]
theorem mn_eq {x y : Int64} : (if 0 ≤ lg_cmp x y then y else x) = if y < x then y else x := by
  by_cases h : 0 ≤ lg_cmp x y
  · rw [if_pos h]
    by_cases h2 : y < x
    · rw [if_pos h2]
    · rw [if_neg h2, ml_anti ((lg_cmp_ge _ _).mp h) h2]
  · rw [if_neg h, if_neg (fun q => h ((lg_cmp_ge _ _).mpr (by rw [Int64.lt_iff_toInt_lt] at q; rw [Int64.le_iff_toInt_le]; omega)))]
end CLS
theorem up34 (st : Md) {i j : Nat} (h : i ≠ j) (x y : Int64) : md_at (st.1, st.2.1, vp_updL st.2.2.1 i x, vp_updL st.2.2.2.1 j y, st.2.2.2.2.1, st.2.2.2.2.2) i = (st.1 i, st.2.1 i, x, st.2.2.2.1 i, st.2.2.2.2.1 i, st.2.2.2.2.2 i) ∧ md_at (st.1, st.2.1, vp_updL st.2.2.1 i x, vp_updL st.2.2.2.1 j y, st.2.2.2.2.1, st.2.2.2.2.2) j = (st.1 j, st.2.1 j, st.2.2.1 j, y, st.2.2.2.2.1 j, st.2.2.2.2.2 j) ∧ ∀ k, k ≠ i → k ≠ j → md_at (st.1, st.2.1, vp_updL st.2.2.1 i x, vp_updL st.2.2.2.1 j y, st.2.2.2.2.1, st.2.2.2.2.2) k = md_at st k := by
  unfold md_at
  refine ⟨?_, ?_, fun k h1 h2 => ?_⟩
  · simp only [vp_upd_self, vp_upd_ne _ _ h]
  · simp only [vp_upd_self, vp_upd_ne _ _ (Ne.symm h)]
  · simp only [vp_upd_ne _ _ h1, vp_upd_ne _ _ h2]
theorem up56 (st : Md) {i j : Nat} (h : i ≠ j) (x y : Int64) : md_at (st.1, st.2.1, st.2.2.1, st.2.2.2.1, vp_updL st.2.2.2.2.1 i x, vp_updL st.2.2.2.2.2 j y) i = (st.1 i, st.2.1 i, st.2.2.1 i, st.2.2.2.1 i, x, st.2.2.2.2.2 i) ∧ md_at (st.1, st.2.1, st.2.2.1, st.2.2.2.1, vp_updL st.2.2.2.2.1 i x, vp_updL st.2.2.2.2.2 j y) j = (st.1 j, st.2.1 j, st.2.2.1 j, st.2.2.2.1 j, st.2.2.2.2.1 j, y) ∧ ∀ k, k ≠ i → k ≠ j → md_at (st.1, st.2.1, st.2.2.1, st.2.2.2.1, vp_updL st.2.2.2.2.1 i x, vp_updL st.2.2.2.2.2 j y) k = md_at st k := by
  unfold md_at
  refine ⟨?_, ?_, fun k h1 h2 => ?_⟩
  · simp only [vp_upd_self, vp_upd_ne _ _ h]
  · simp only [vp_upd_self, vp_upd_ne _ _ (Ne.symm h)]
  · simp only [vp_upd_ne _ _ h1, vp_upd_ne _ _ h2]
theorem up56_ite (st : Md) {i j : Nat} {P Q : Prop} [Decidable P] [Decidable Q] (x y : Int64) : (if P then (if Q then (((st.1, st.2.1, st.2.2.1, st.2.2.2.1, vp_updL st.2.2.2.2.1 i x, vp_updL st.2.2.2.2.2 j y) : Md), (1 : Int32)) else ((st.1, st.2.1, st.2.2.1, st.2.2.2.1, vp_updL st.2.2.2.2.1 i x, vp_updL st.2.2.2.2.2 j (st.2.2.2.2.2 j)), 1))
    else if Q then ((st.1, st.2.1, st.2.2.1, st.2.2.2.1, vp_updL st.2.2.2.2.1 i (st.2.2.2.2.1 i), vp_updL st.2.2.2.2.2 j y), 1) else ((st.1, st.2.1, st.2.2.1, st.2.2.2.1, vp_updL st.2.2.2.2.1 i (st.2.2.2.2.1 i), vp_updL st.2.2.2.2.2 j (st.2.2.2.2.2 j)), 1))
    = ((st.1, st.2.1, st.2.2.1, st.2.2.2.1, vp_updL st.2.2.2.2.1 i (if P then x else st.2.2.2.2.1 i), vp_updL st.2.2.2.2.2 j (if Q then y else st.2.2.2.2.2 j)), 1) := by
  by_cases p : P <;> by_cases q : Q <;> simp only [p, q, if_true, if_false]
section ORD
variable (st : Md) {i j : Int32}
theorem or_10 (h : i.toNatClampNeg ≠ j.toNatClampNeg) : tl2 st i.toNatClampNeg j.toNatClampNeg (f_M_orders st i j 1 0) (f_X3_above (md_at st i.toNatClampNeg) (md_at st j.toNatClampNeg)) := by
  by_cases c1 : lg_cmp (st.2.2.1 j.toNatClampNeg) (-1) = 0
  · exact tl_no (((if_neg g_e10).trans ((if_pos rfl).trans (if_pos c1)))) (if_pos c1)
  · by_cases c2 : lg_cmp (st.2.2.2.1 i.toNatClampNeg) 0 = 0
    · exact tl_no (((if_neg g_e10).trans ((if_pos rfl).trans ((if_neg c1).trans (if_pos c2))))) ((if_neg c1).trans (if_pos c2))
    · obtain ⟨u1, u2, u3⟩ := up34 st h (f_M_greater (st.2.2.1 i.toNatClampNeg) (st.2.2.1 j.toNatClampNeg + 1)) (f_M_lesser (st.2.2.2.1 j.toNatClampNeg) (st.2.2.2.1 i.toNatClampNeg - 1))
      exact tl_yes (((if_neg g_e10).trans ((if_pos rfl).trans ((if_neg c1).trans (if_neg c2))))) (ab_eq c1 c2) u1 u2 u3
theorem or_00 (h : i.toNatClampNeg ≠ j.toNatClampNeg) : tl2 st i.toNatClampNeg j.toNatClampNeg (f_M_orders st i j 0 0) (f_X3_notBelow (md_at st i.toNatClampNeg) (md_at st j.toNatClampNeg)) := by
  obtain ⟨u1, u2, u3⟩ := up34 st h (f_M_greater (st.2.2.1 i.toNatClampNeg) (st.2.2.1 j.toNatClampNeg)) (f_M_lesser (st.2.2.2.1 j.toNatClampNeg) (st.2.2.2.1 i.toNatClampNeg))
  refine tl_yes (S := (st.1, st.2.1, vp_updL st.2.2.1 i.toNatClampNeg (f_M_greater (st.2.2.1 i.toNatClampNeg) (st.2.2.1 j.toNatClampNeg)), vp_updL st.2.2.2.1 j.toNatClampNeg (f_M_lesser (st.2.2.2.1 j.toNatClampNeg) (st.2.2.2.1 i.toNatClampNeg)), st.2.2.2.2.1, st.2.2.2.2.2)) ?_ nb_eq u1 u2 u3
  have e : f_M_orders st i j 0 0 = ((st.1, st.2.1, vp_updL st.2.2.1 i.toNatClampNeg (f_M_greater (st.2.2.1 i.toNatClampNeg) (st.2.2.1 j.toNatClampNeg + 0)), vp_updL st.2.2.2.1 j.toNatClampNeg (f_M_lesser (st.2.2.2.1 j.toNatClampNeg) (st.2.2.2.1 i.toNatClampNeg - 0)), st.2.2.2.2.1, st.2.2.2.2.2), 1) := (if_pos rfl).trans (if_pos rfl)
  rw [e, Int64.add_zero, Int64.sub_zero]
theorem or_11 (h : i.toNatClampNeg ≠ j.toNatClampNeg) : tl2 st i.toNatClampNeg j.toNatClampNeg (f_M_orders st i j 1 1) (f_X3_greater (md_at st i.toNatClampNeg) (md_at st j.toNatClampNeg)) := by
  by_cases c1 : lg_cmp (st.2.2.2.2.1 j.toNatClampNeg) 9223372036854775807 = 0
  · exact tl_no (((if_neg g_e10).trans ((if_neg g_e10).trans (if_pos c1)))) (if_pos c1)
  · by_cases c2 : lg_cmp (st.2.2.2.2.2 i.toNatClampNeg) (-9223372036854775808) = 0
    · exact tl_no (((if_neg g_e10).trans ((if_neg g_e10).trans ((if_neg c1).trans (if_pos c2))))) ((if_neg c1).trans (if_pos c2))
    · have e := up56_ite st (i := i.toNatClampNeg) (j := j.toNatClampNeg) (P := lg_cmp (st.2.2.2.2.1 i.toNatClampNeg) (st.2.2.2.2.1 j.toNatClampNeg + 1) ≤ 0) (Q := 0 ≤ lg_cmp (st.2.2.2.2.2 j.toNatClampNeg) (st.2.2.2.2.2 i.toNatClampNeg - 1)) (st.2.2.2.2.1 j.toNatClampNeg + 1) (st.2.2.2.2.2 i.toNatClampNeg - 1)
      rw [mx_eq, mn_eq] at e
      obtain ⟨u1, u2, u3⟩ := up56 st h (if st.2.2.2.2.1 j.toNatClampNeg + 1 < st.2.2.2.2.1 i.toNatClampNeg then st.2.2.2.2.1 i.toNatClampNeg else st.2.2.2.2.1 j.toNatClampNeg + 1) (if st.2.2.2.2.2 i.toNatClampNeg - 1 < st.2.2.2.2.2 j.toNatClampNeg then st.2.2.2.2.2 i.toNatClampNeg - 1 else st.2.2.2.2.2 j.toNatClampNeg)
      exact tl_yes (((if_neg g_e10).trans ((if_neg g_e10).trans ((if_neg c1).trans ((if_neg c2).trans e))))) (gr_eq c1 c2) u1 u2 u3
theorem or_01 (h : i.toNatClampNeg ≠ j.toNatClampNeg) : tl2 st i.toNatClampNeg j.toNatClampNeg (f_M_orders st i j 0 1) (f_X3_notLess (md_at st i.toNatClampNeg) (md_at st j.toNatClampNeg)) := by
  have e := up56_ite st (i := i.toNatClampNeg) (j := j.toNatClampNeg) (P := lg_cmp (st.2.2.2.2.1 i.toNatClampNeg) (st.2.2.2.2.1 j.toNatClampNeg + 0) ≤ 0) (Q := 0 ≤ lg_cmp (st.2.2.2.2.2 j.toNatClampNeg) (st.2.2.2.2.2 i.toNatClampNeg - 0)) (st.2.2.2.2.1 j.toNatClampNeg + 0) (st.2.2.2.2.2 i.toNatClampNeg - 0)
  have e0 : f_M_orders st i j 0 1 = _ := ((if_pos rfl).trans ((if_neg g_e10).trans e))
  rw [mx_eq, mn_eq, Int64.add_zero, Int64.sub_zero] at e0
  obtain ⟨u1, u2, u3⟩ := up56 st h (if st.2.2.2.2.1 j.toNatClampNeg < st.2.2.2.2.1 i.toNatClampNeg then st.2.2.2.2.1 i.toNatClampNeg else st.2.2.2.2.1 j.toNatClampNeg) (if st.2.2.2.2.2 i.toNatClampNeg < st.2.2.2.2.2 j.toNatClampNeg then st.2.2.2.2.2 i.toNatClampNeg else st.2.2.2.2.2 j.toNatClampNeg)
  exact tl_yes e0 nl_eq u1 u2 u3
end ORD
theorem tb_m1 : ∀ i, i < 64 → (uN (-1)).testBit i = true := by decide +kernel
theorem tb_xor (a b : Int64) (i : Nat) : (uN (a ^^^ b)).testBit i = ((uN a).testBit i ^^ (uN b).testBit i) := by rw [uN_xr, Nat.testBit_xor]
theorem not_or' (a b : Int64) : (a ||| b) ^^^ (-1) = (a ^^^ (-1)) &&& (b ^^^ (-1)) := by
  apply uN_ext
  intro i hi
  rw [tb_xor, tb_or, tb_and, tb_xor, tb_xor, tb_m1 i hi]
  cases (uN a).testBit i <;> cases (uN b).testBit i <;> rfl
theorem and_asc (a b c : Int64) : (a &&& b) &&& c = a &&& (b &&& c) := by
  apply uN_ext
  intro i hi
  rw [tb_and, tb_and, tb_and, tb_and, Bool.and_assoc]
theorem ml_same (st : Md) : tl2 st 16 17 (f_M_same st) (f_X3_same (md_at st 16) (md_at st 17)) := by
  have hc : ((st.1 16 ^^^ st.1 17) &&& (st.2.1 16 ^^^ (-1))) &&& (st.2.1 17 ^^^ (-1)) = (st.1 16 ^^^ st.1 17) &&& ((st.2.1 16 ||| st.2.1 17) ^^^ (-1)) := by
    rw [not_or', and_asc]
  unfold f_M_same
  simp only [i16, i17, md_all, ml_copy, md_at_set]
  rw [hc]
  by_cases c : lg_cmp ((st.1 16 ^^^ st.1 17) &&& ((st.2.1 16 ||| st.2.1 17) ^^^ (-1))) 0 = 0
  · rw [if_pos c]
    have eX : f_X3_same (md_at st 16) (md_at st 17) = ((st.1 16 ||| st.1 17, st.2.1 16 &&& st.2.1 17, f_M_greater (st.2.2.1 16) (st.2.2.1 17), f_M_lesser (st.2.2.2.1 16) (st.2.2.2.1 17), (if st.2.2.2.2.1 17 < st.2.2.2.2.1 16 then st.2.2.2.2.1 16 else st.2.2.2.2.1 17), (if st.2.2.2.2.2 17 < st.2.2.2.2.2 16 then st.2.2.2.2.2 17 else st.2.2.2.2.2 16)), (st.1 16 ||| st.1 17, st.2.1 16 &&& st.2.1 17, f_M_greater (st.2.2.1 16) (st.2.2.1 17), f_M_lesser (st.2.2.2.1 16) (st.2.2.2.1 17), (if st.2.2.2.2.1 17 < st.2.2.2.2.1 16 then st.2.2.2.2.1 16 else st.2.2.2.2.1 17), (if st.2.2.2.2.2 17 < st.2.2.2.2.2 16 then st.2.2.2.2.2 17 else st.2.2.2.2.2 16)), 1) := by
      unfold f_X3_same
      rw [md_def st 16, md_def st 17]
      dsimp only
      rw [if_pos c, sb_eq, rl_eq, lt_eq, rs_eq, ls_eq, ml_become]
    rw [eX]
    have key : ∀ P Q : Prop, ∀ (hP : Decidable P) (hQ : Decidable Q), (if P then (if Q then (md_set (md_set st 16 (st.1 16 ||| st.1 17, st.2.1 16 &&& st.2.1 17, f_M_greater (st.2.2.1 16) (st.2.2.1 17), f_M_lesser (st.2.2.2.1 16) (st.2.2.2.1 17), st.2.2.2.2.1 17, st.2.2.2.2.2 17)) 17 (st.1 16 ||| st.1 17, st.2.1 16 &&& st.2.1 17, f_M_greater (st.2.2.1 16) (st.2.2.1 17), f_M_lesser (st.2.2.2.1 16) (st.2.2.2.1 17), st.2.2.2.2.1 17, st.2.2.2.2.2 17), (1 : Int32))
        else (md_set (md_set st 16 (st.1 16 ||| st.1 17, st.2.1 16 &&& st.2.1 17, f_M_greater (st.2.2.1 16) (st.2.2.1 17), f_M_lesser (st.2.2.2.1 16) (st.2.2.2.1 17), st.2.2.2.2.1 17, st.2.2.2.2.2 16)) 17 (st.1 16 ||| st.1 17, st.2.1 16 &&& st.2.1 17, f_M_greater (st.2.2.1 16) (st.2.2.1 17), f_M_lesser (st.2.2.2.1 16) (st.2.2.2.1 17), st.2.2.2.2.1 17, st.2.2.2.2.2 16), 1))
        else if Q then (md_set (md_set st 16 (st.1 16 ||| st.1 17, st.2.1 16 &&& st.2.1 17, f_M_greater (st.2.2.1 16) (st.2.2.1 17), f_M_lesser (st.2.2.2.1 16) (st.2.2.2.1 17), st.2.2.2.2.1 16, st.2.2.2.2.2 17)) 17 (st.1 16 ||| st.1 17, st.2.1 16 &&& st.2.1 17, f_M_greater (st.2.2.1 16) (st.2.2.1 17), f_M_lesser (st.2.2.2.1 16) (st.2.2.2.1 17), st.2.2.2.2.1 16, st.2.2.2.2.2 17), 1)
        else (md_set (md_set st 16 (st.1 16 ||| st.1 17, st.2.1 16 &&& st.2.1 17, f_M_greater (st.2.2.1 16) (st.2.2.1 17), f_M_lesser (st.2.2.2.1 16) (st.2.2.2.1 17), st.2.2.2.2.1 16, st.2.2.2.2.2 16)) 17 (st.1 16 ||| st.1 17, st.2.1 16 &&& st.2.1 17, f_M_greater (st.2.2.1 16) (st.2.2.1 17), f_M_lesser (st.2.2.2.1 16) (st.2.2.2.1 17), st.2.2.2.2.1 16, st.2.2.2.2.2 16), 1))
        = (md_set (md_set st 16 (st.1 16 ||| st.1 17, st.2.1 16 &&& st.2.1 17, f_M_greater (st.2.2.1 16) (st.2.2.1 17), f_M_lesser (st.2.2.2.1 16) (st.2.2.2.1 17), (if P then st.2.2.2.2.1 17 else st.2.2.2.2.1 16), (if Q then st.2.2.2.2.2 17 else st.2.2.2.2.2 16))) 17 (st.1 16 ||| st.1 17, st.2.1 16 &&& st.2.1 17, f_M_greater (st.2.2.1 16) (st.2.2.1 17), f_M_lesser (st.2.2.2.1 16) (st.2.2.2.1 17), (if P then st.2.2.2.2.1 17 else st.2.2.2.2.1 16), (if Q then st.2.2.2.2.2 17 else st.2.2.2.2.2 16)), 1) := by
      intro P Q hP hQ
      by_cases p : P <;> by_cases q : Q <;> simp only [p, q, if_true, if_false]
    rw [key, mx_eq, mn_eq]
    refine tl_yes rfl rfl ?_ ?_ (fun k h1 h2 => ?_)
    · rw [md_at_ne _ _ (by decide), md_at_set]
    · rw [md_at_set]
    · rw [md_at_ne _ _ h2, md_at_ne _ _ h1]
  · rw [if_neg c]
    exact tl_no rfl (if_neg c)
