theorem xor_cm (a b : Int64) : a ^^^ b = b ^^^ a := by
  apply uN_ext
  intro i hi
  rw [tb_xor, tb_xor, Bool.xor_comm]
theorem ml_covers {sg : Nat → Nm} {st : Md} {x1 x2 x3 x4 x5 : Nm} (hr : x_rel sg st) (hd : ∀ k, k < 16 → x_dis (sg k)) {p1 p2 : Int32} (c : ¬ f_X0_isNumber p1 = 0) (c' : ¬ f_X0_isNumber p2 = 0) : f_M_covers st p1 p2 = (0, f_X0_covers sg x1 x2 x3 x4 x5 p1 p2) := by
  have hl := nb_lt c
  have hdis := hd _ hl
  rw [hr _ hl] at hdis
  have hX : f_X0_covers sg x1 x2 x3 x4 x5 p1 p2 = f_X1_isKnownOf (md_at st p1.toNatClampNeg) (md_at st p2.toNatClampNeg) := by
    show f_X1_isKnownOf (sg p1.toNatClampNeg) (sg p2.toNatClampNeg) = _
    rw [hr _ hl, hr _ (nb_lt c')]
  have hv : st.1 p1.toNatClampNeg &&& st.2.1 p1.toNatClampNeg = 0 := hdis
  have hc : lg_cmp (st.1 p2.toNatClampNeg &&& (st.2.1 p1.toNatClampNeg ^^^ (-1))) (st.1 p1.toNatClampNeg) = 0 ↔ lg_cmp ((st.1 p1.toNatClampNeg ^^^ st.1 p2.toNatClampNeg) &&& (st.2.1 p1.toNatClampNeg ^^^ (-1))) 0 = 0 := by
    rw [lg_cmp_eq, lg_cmp_eq, xor_cm (st.1 p1.toNatClampNeg) (st.1 p2.toNatClampNeg)]
    exact cl_eq hv
  rw [hX]
  refine (if_neg c).trans ((if_neg c').trans ?_)
  rw [un_below, un_below]
  by_cases d0 : lg_cmp (st.2.1 p2.toNatClampNeg &&& (st.2.1 p1.toNatClampNeg ^^^ (-1))) 0 = 0
  case neg =>
    rw [if_neg d0]
    have e : f_X1_isKnownOf (md_at st p1.toNatClampNeg) (md_at st p2.toNatClampNeg) = 0 := if_neg d0
    rw [e]
  rw [if_pos d0]
  by_cases d1 : lg_cmp ((st.1 p1.toNatClampNeg ^^^ st.1 p2.toNatClampNeg) &&& (st.2.1 p1.toNatClampNeg ^^^ (-1))) 0 = 0
  case neg =>
    rw [if_neg d1]
    have e : f_X1_isKnownOf (md_at st p1.toNatClampNeg) (md_at st p2.toNatClampNeg) = 0 := (if_pos d0).trans (if_neg (fun q => d1 (hc.mp q)))
    rw [e]
  rw [if_pos d1]
  by_cases d2 : f_X0_isAbove (st.2.2.1 p1.toNatClampNeg) (st.2.2.1 p2.toNatClampNeg) = 0
  case neg =>
    rw [if_neg d2]
    have e : f_X1_isKnownOf (md_at st p1.toNatClampNeg) (md_at st p2.toNatClampNeg) = 0 := (if_pos d0).trans ((if_pos (hc.mpr d1)).trans (if_neg d2))
    rw [e]
  rw [if_pos d2]
  by_cases d3 : f_X0_isAbove (st.2.2.2.1 p2.toNatClampNeg) (st.2.2.2.1 p1.toNatClampNeg) = 0
  case neg =>
    rw [if_neg d3]
    have e : f_X1_isKnownOf (md_at st p1.toNatClampNeg) (md_at st p2.toNatClampNeg) = 0 := (if_pos d0).trans ((if_pos (hc.mpr d1)).trans ((if_pos d2).trans (if_neg d3)))
    rw [e]
  rw [if_pos d3]
  by_cases d4 : 0 < lg_cmp (st.2.2.2.2.1 p1.toNatClampNeg) (st.2.2.2.2.1 p2.toNatClampNeg)
  · rw [if_pos d4]
    have e : f_X1_isKnownOf (md_at st p1.toNatClampNeg) (md_at st p2.toNatClampNeg) = 0 := (if_pos d0).trans ((if_pos (hc.mpr d1)).trans ((if_pos d2).trans ((if_pos d3).trans (if_pos d4))))
    rw [e]
  · rw [if_neg d4]
    by_cases d5 : 0 < lg_cmp (st.2.2.2.2.2 p2.toNatClampNeg) (st.2.2.2.2.2 p1.toNatClampNeg)
    · rw [if_pos (lt_gt.mpr d5)]
      have e : f_X1_isKnownOf (md_at st p1.toNatClampNeg) (md_at st p2.toNatClampNeg) = 0 := (if_pos d0).trans ((if_pos (hc.mpr d1)).trans ((if_pos d2).trans ((if_pos d3).trans ((if_neg d4).trans (if_pos d5)))))
      rw [e]
    · rw [if_neg (fun q => d5 (lt_gt.mp q))]
      have e : f_X1_isKnownOf (md_at st p1.toNatClampNeg) (md_at st p2.toNatClampNeg) = 1 := (if_pos d0).trans ((if_pos (hc.mpr d1)).trans ((if_pos d2).trans ((if_pos d3).trans ((if_neg d4).trans (if_neg d5)))))
      rw [e]
/-! no bit is both known and unknown: kept by all -/
section DIS
variable {a b l g e f a' b' l' g' e' f' : Int64}
theorem dz (h : ∀ i, i < 64 → ((uN a).testBit i && (uN b).testBit i) = false) : a &&& b = 0 := by
  apply uN_ext
  intro i hi
  rw [tb_and, h i hi]
  exact (Nat.zero_testBit i).symm
theorem db (h : a &&& b = 0) (i : Nat) : ((uN a).testBit i && (uN b).testBit i) = false := by
  rw [← tb_and, h]
  exact Nat.zero_testBit i
theorem ds_mask (t u : Int64) : (t &&& (u ^^^ (-1))) &&& u = 0 := dz fun i hi => by
  rw [tb_and, tb_xor, tb_m1 i hi]
  cases (uN t).testBit i <;> cases (uN u).testBit i <;> rfl
theorem ds_mask' (t u : Int64) : u &&& (t &&& (u ^^^ (-1))) = 0 := by rw [and_cm]; exact ds_mask t u
theorem ds_0 (u : Int64) : (0 : Int64) &&& u = 0 := dz fun i _ => by
  show ((0 : Nat).testBit i && _) = false
  rw [Nat.zero_testBit, Bool.false_and]
theorem ds_00 (u : Int64) : u &&& (0 : Int64) = 0 := by rw [and_cm]; exact ds_0 u
theorem ds_L (h : a &&& b = 0) (o : Int64) : ((a &&& o) ||| (l &&& (o ^^^ (-1)))) &&& (b &&& o) = 0 := dz fun i hi => by
  have q := db h i
  rw [tb_or, tb_and, tb_and, tb_and, tb_xor, tb_m1 i hi]
  revert q
  cases (uN a).testBit i <;> cases (uN b).testBit i <;> cases (uN l).testBit i <;> cases (uN o).testBit i <;> decide
theorem ds_an (h : a &&& b = 0) (o : Int64) : (a &&& o) &&& (b &&& o) = 0 := dz fun i hi => by
  have q := db h i
  rw [tb_and, tb_and]
  revert q
  cases (uN a).testBit i <;> cases (uN b).testBit i <;> cases (uN o).testBit i <;> decide
theorem ds_same (h : a &&& b = 0) (h' : a' &&& b' = 0) : (a ||| a') &&& (b &&& b') = 0 := dz fun i hi => by
  have q := db h i
  have q' := db h' i
  rw [tb_or, tb_and]
  revert q q'
  cases (uN a).testBit i <;> cases (uN b).testBit i <;> cases (uN a').testBit i <;> cases (uN b').testBit i <;> decide
theorem ds_ones (h : a &&& b = 0) (o : Int64) : (a ||| o) &&& (b &&& (o ^^^ (-1))) = 0 := dz fun i hi => by
  have q := db h i
  rw [tb_or, tb_and, tb_xor, tb_m1 i hi]
  revert q
  cases (uN a).testBit i <;> cases (uN b).testBit i <;> cases (uN o).testBit i <;> decide
theorem ds_zeros (h : a &&& b = 0) (o : Int64) : (a &&& (o ^^^ (-1))) &&& (b &&& (o ^^^ (-1))) = 0 := ds_an h _
theorem ds_shl (h : a &&& b = 0) {k : Nat} (hk : k < 64) : (a <<< ((nI k).toInt64 &&& 63)) &&& (b <<< ((nI k).toInt64 &&& 63)) = 0 := dz fun i hi => by
  rw [tb_shl a hk hi, tb_shl b hk hi]
  have q := db h (i - k)
  revert q
  cases (uN a).testBit (i - k) <;> cases (uN b).testBit (i - k) <;> cases decide (k ≤ i) <;> decide
theorem ds_shr (h : a &&& b = 0) {k : Nat} (hk : k < 64) : ((a.toUInt64 >>> ((nI k).toInt64.toUInt64 &&& Int64.toUInt64 63)).toInt64) &&& ((b.toUInt64 >>> ((nI k).toInt64.toUInt64 &&& Int64.toUInt64 63)).toInt64) = 0 := dz fun i hi => by
  rw [tb_ushr a hk, tb_ushr b hk]
  exact db h _
theorem ds_sar (h : a &&& b = 0) {k : Nat} (hk : k < 64) : (a >>> ((nI k).toInt64 &&& 63)) &&& (b >>> ((nI k).toInt64 &&& 63)) = 0 := dz fun i hi => by
  rw [tb_sar a hk hi, tb_sar b hk hi]
  split
  · exact db h _
  · exact db h _
end DIS
theorem dn_B {n : Nm} (h : x_dis n) : x_dis (f_X1_boundByBits n) := by
  obtain ⟨a, b, l, g, e, f⟩ := n
  have h : a &&& b = 0 := h
  rw [bb_eq]
  show a &&& b = 0
  exact h
theorem dn_S {n : Nm} (h : x_dis n) : x_dis (f_X1_boundSignedByUnsigned n) := by
  obtain ⟨a, b, l, g, e, f⟩ := n
  have h : a &&& b = 0 := h
  by_cases s : l < 0 ↔ g < 0
  · rw [bs_pos s]
    show a &&& b = 0
    exact h
  · rw [bs_neg s]
    show a &&& b = 0
    exact h
theorem dn_U {n : Nm} (h : x_dis n) : x_dis (f_X1_boundUnsignedBySigned n) := by
  obtain ⟨a, b, l, g, e, f⟩ := n
  have h : a &&& b = 0 := h
  by_cases s : e < 0 ↔ f < 0
  · rw [bu_pos s]
    show a &&& b = 0
    exact h
  · rw [bu_neg s]
    show a &&& b = 0
    exact h
theorem dn_L {n : Nm} (h : x_dis n) : x_dis (f_X1_learnSharedHighBits n).1 := by
  obtain ⟨a, b, l, g, e, f⟩ := n
  rw [lsh_eq]
  split
  · exact ds_L (show a &&& b = 0 from h) _
  · exact h
theorem g_pi {P : Nm → Prop} {c : Prop} [Decidable c] {x y : Nm × Int32} (hx : P x.1) (hy : P y.1) : P (if c then x else y).1 := by
  split
  · exact hx
  · exact hy
theorem g_keep {P : Nm → Prop} {B S U : Nm → Nm} {L : Nm → Nm × Int32} {X : Nm → Int32} (hB : ∀ n, P n → P (B n)) (hS : ∀ n, P n → P (S n)) (hU : ∀ n, P n → P (U n)) (hL : ∀ n, P n → P (L n).1) {n : Nm} (h : P n) : P (g_set B S U L X n).1 := by
  have b1 := hB _ h
  have s1 := hS _ b1
  have u1 := hU _ s1
  have l1 := hL _ u1
  have b2 := hB _ l1
  have s2 := hS _ b2
  have u2 := hU _ s2
  have l2 := hL _ u2
  have b3 := hB _ l2
  have s3 := hS _ b3
  have u3 := hU _ s3
  have l3 := hL _ u3
  exact g_pi (g_pi (g_pi (g_pi l1 (g_pi (g_pi (g_pi (g_pi l2 (g_pi (g_pi (g_pi (g_pi l3 l3) u3) s3) b3)) u2) s2) b2)) u1) s1) b1
theorem dn_settle {n : Nm} (h : x_dis n) : x_dis (f_X1_settle n).1 := by
  rw [g_set_eq]
  exact g_keep (fun _ q => dn_B q) (fun _ q => dn_S q) (fun _ q => dn_U q) (fun _ q => dn_L q) h
theorem dn_low : x_dis (0, 4294967295, 0, 4294967295, 0, 4294967295) := ds_0 _
theorem dn_narrow {n : Nm} (h : x_dis n) : x_dis (f_X1_narrow n) := by
  obtain ⟨a, b, c, d, e, f⟩ := n
  have h : a &&& b = 0 := h
  rw [nw_eq]
  split
  · exact h
  · split
    · split
      · exact dn_low
      · exact dn_settle (n := (a &&& 4294967295, b &&& 4294967295, c &&& 4294967295, d &&& 4294967295, 0, 4294967295)) (ds_an h _)
    · split
      · exact dn_low
      · exact dn_settle (n := (a &&& 4294967295, b &&& 4294967295, 0, 4294967295, 0, 4294967295)) (ds_an h _)
theorem dn_AN : x_dis nAN := ds_0 _
theorem dn_fin {n : Nm} (h : x_dis n) : x_dis (x_fin n) := by
  unfold x_fin
  split
  · exact dn_AN
  · exact dn_settle h
