theorem le63 {v : Int32} : v ≤ 63 ↔ v < 64 := by
  rw [Int32.le_iff_toInt_le, Int32.lt_iff_toInt_lt]
  have e1 : (63 : Int32).toInt = 63 := by decide
  have e2 : (64 : Int32).toInt = 64 := by decide
  omega
theorem ml_zeros1 (st : Md) (i : Int32) : f_M_zeros st i = f_JL_numberOfTrailingZeros (f_X1_mayBeOne (md_at st i.toNatClampNeg)) := (ml_zeros st i).1
theorem ml_multiply (st : Md) (h : st.1 18 = 0) : f_M_multiply st = md_set st 18 (f_X2_multiply (md_at st 16) (md_at st 17) (md_at st 18)) := by
  unfold f_M_multiply f_X2_multiply
  simp only [ml_isExact, ml_zeros1, ml_setExact st _ _ (md_at st 18), i16, i17, i18, un_below, md_2, md_234, le63, h]
  simp only [md_def, mo_eq, sb_eq, su_eq]
  by_cases c0 : f_X1_isExact (st.1 16, st.2.1 16, st.2.2.1 16, st.2.2.2.1 16, st.2.2.2.2.1 16, st.2.2.2.2.2 16) = 0 <;>
  by_cases c1 : f_X1_isExact (st.1 17, st.2.1 17, st.2.2.1 17, st.2.2.2.1 17, st.2.2.2.2.1 17, st.2.2.2.2.2 17) = 0 <;>
  by_cases c2 : f_JL_numberOfTrailingZeros (st.1 16 ||| st.2.1 16) + f_JL_numberOfTrailingZeros (st.1 17 ||| st.2.1 17) < 64 <;>
  by_cases c3 : f_X0_isAbove (st.2.2.2.1 16) 4294967295 = 0 <;>
  by_cases c4 : f_X0_isAbove (st.2.2.2.1 17) 4294967295 = 0 <;>
  simp only [c0, c1, c2, c3, c4, if_true, if_false]
/-! unsigned division -/
theorem uN_sb (x y : Int64) : uN (x - y) = (18446744073709551616 - uN y + uN x) % 18446744073709551616 := by
  show (x.toUInt64 - y.toUInt64).toNat = _
  exact UInt64.toNat_sub _ _
theorem uN_div {x y : Int64} (hx : uN x < 9223372036854775808) (hy : uN y < 9223372036854775808) : uN (x / y) = uN x / uN y := by
  show (x / y).toBitVec.toNat = x.toBitVec.toNat / y.toBitVec.toNat
  have mx : x.toBitVec.msb = false := by
    rw [BitVec.msb_eq_decide]
    exact decide_eq_false (Nat.not_le.mpr hx)
  have my : y.toBitVec.msb = false := by
    rw [BitVec.msb_eq_decide]
    exact decide_eq_false (Nat.not_le.mpr hy)
  rw [Int64.toBitVec_div, BitVec.sdiv_eq, mx, my]
  exact BitVec.toNat_udiv
theorem q_nat {A C : Nat} (hC : 0 < C) : A / C = if C ≤ A - 2 * (A / 2 / C) * C then 2 * (A / 2 / C) + 1 else 2 * (A / 2 / C) := by
  obtain ⟨q, hq⟩ : ∃ q, q = A / 2 / C := ⟨_, rfl⟩
  obtain ⟨r, hr⟩ : ∃ r, r = A / 2 % C := ⟨_, rfl⟩
  have h1 : C * q + r = A / 2 := by rw [hq, hr]; exact Nat.div_add_mod _ _
  have h2 : r < C := by rw [hr]; exact Nat.mod_lt _ hC
  rw [← hq]
  have e1 : 2 * q * C = 2 * (C * q) := by rw [Nat.mul_assoc, Nat.mul_comm q C]
  have e2 : (2 * q + 1) * C = 2 * (C * q) + C := by rw [Nat.add_mul, Nat.one_mul, e1]
  have e3 : (2 * q + 1 + 1) * C = 2 * (C * q) + C + C := by rw [Nat.add_mul, Nat.one_mul, e2]
  rw [e1]
  generalize C * q = P at h1 e1 e2 e3 ⊢
  split
  · exact Nat.div_eq_of_lt_le (by omega) (by omega)
  · exact Nat.div_eq_of_lt_le (by omega) (by omega)
theorem xq (a c : Int64) (hc : uN c ≠ 0) : uN (f_X2_quotient a c) = uN a / uN c := by
  have hA := uN_lt a
  have hC := uN_lt c
  have h0 : ¬ lg_cmp c 0 = 0 := lc_ne0 hc
  unfold f_X2_quotient
  rw [if_neg h0]
  by_cases c1 : 0 ≤ lg_cmp c 0
  · have hs : uN c < 9223372036854775808 := by
      rw [ge0_iff, un_lt0] at c1
      omega
    rw [if_pos c1]
    dsimp only
    have e1 : uN (a.toUInt64 >>> ((1 : Int32).toInt64.toUInt64 &&& Int64.toUInt64 63)).toInt64 = uN a / 2 := uN_sk a (k := 1) (by decide)
    have e2 : uN ((a.toUInt64 >>> ((1 : Int32).toInt64.toUInt64 &&& Int64.toUInt64 63)).toInt64 / c) = uN a / 2 / uN c := by
      rw [uN_div (by rw [e1]; omega) hs, e1]
    have l1 : uN a / 2 / uN c ≤ uN a / 2 := Nat.div_le_self _ _
    have e3 : uN (((a.toUInt64 >>> ((1 : Int32).toInt64.toUInt64 &&& Int64.toUInt64 63)).toInt64 / c) <<< ((1 : Int32).toInt64 &&& 63)) = 2 * (uN a / 2 / uN c) := by
      rw [uN_shl, e2]
      exact Nat.mod_eq_of_lt (by omega)
    generalize ((a.toUInt64 >>> ((1 : Int32).toInt64.toUInt64 &&& Int64.toUInt64 63)).toInt64 / c) <<< ((1 : Int32).toInt64 &&& 63) = v at e3 ⊢
    have hm : uN a / 2 / uN c * uN c ≤ uN a / 2 := Nat.div_mul_le_self _ _
    have e4 : uN (a - v * c) = uN a - 2 * (uN a / 2 / uN c) * uN c := by
      rw [uN_sb, uN_mul, e3]
      have e5 : 2 * (uN a / 2 / uN c) * uN c = 2 * (uN a / 2 / uN c * uN c) := by rw [Nat.mul_assoc]
      rw [e5]
      generalize uN a / 2 / uN c * uN c = P at hm ⊢
      omega
    have hq := q_nat (A := uN a) (C := uN c) (by omega)
    by_cases c2 : uN c ≤ uN a - 2 * (uN a / 2 / uN c) * uN c
    · rw [if_pos (un_a0.mpr (by rw [e4]; exact c2)), uN_add, e3, hq, if_pos c2]
      exact Nat.mod_eq_of_lt (by show 2 * (uN a / 2 / uN c) + 1 < _; omega)
    · rw [if_neg (fun q => c2 (by rw [← e4]; exact un_a0.mp q)), e3, hq, if_neg c2]
  · have hs : 9223372036854775808 ≤ uN c := by
      rw [ge0_iff, un_lt0] at c1
      omega
    rw [if_neg c1]
    by_cases c2 : uN c ≤ uN a
    · rw [if_pos (un_a0.mpr c2)]
      exact (Nat.div_eq_of_lt_le (by show 1 * uN c ≤ uN a; omega) (by show uN a < (1 + 1) * uN c; omega)).symm
    · rw [if_neg (fun q => c2 (un_a0.mp q)), Nat.div_eq_of_lt (by omega)]
      rfl
theorem q_step {A C n : Nat} (hC : 0 < C) : (A / 2 ^ n) / C = 2 * (A / 2 ^ (n + 1) / C) + (if C ≤ 2 * (A / 2 ^ (n + 1) % C) + A / 2 ^ n % 2 then 1 else 0) ∧ (A / 2 ^ n) % C = 2 * (A / 2 ^ (n + 1) % C) + A / 2 ^ n % 2 - (if C ≤ 2 * (A / 2 ^ (n + 1) % C) + A / 2 ^ n % 2 then C else 0) := by
  have e0 : A / 2 ^ (n + 1) = A / 2 ^ n / 2 := by rw [Nat.pow_succ, Nat.div_div_eq_div_mul]
  rw [e0]
  generalize A / 2 ^ n = H
  obtain ⟨q, hq⟩ : ∃ q, q = H / 2 / C := ⟨_, rfl⟩
  obtain ⟨r, hr⟩ : ∃ r, r = H / 2 % C := ⟨_, rfl⟩
  have h1 : C * q + r = H / 2 := by rw [hq, hr]; exact Nat.div_add_mod _ _
  have h2 : r < C := by rw [hr]; exact Nat.mod_lt _ hC
  rw [← hq, ← hr]
  have e1 : C * (2 * q) = 2 * (C * q) := by rw [Nat.mul_left_comm]
  have e2 : C * (2 * q + 1) = 2 * (C * q) + C := by rw [Nat.mul_add, Nat.mul_one, e1]
  by_cases c : C ≤ 2 * r + H % 2
  · rw [if_pos c, if_pos c]
    have hd : H / C = 2 * q + 1 := by
      refine Nat.div_eq_of_lt_le ?_ ?_
      · rw [Nat.mul_comm, e2]
        generalize C * q = P at h1 ⊢
        omega
      · rw [Nat.mul_comm, show 2 * q + 1 + 1 = (2 * q + 1) + 1 from rfl, Nat.mul_add, Nat.mul_one, e2]
        generalize C * q = P at h1 ⊢
        omega
    refine ⟨hd, ?_⟩
    have hm := Nat.div_add_mod H C
    rw [hd, e2] at hm
    generalize C * q = P at h1 hm
    omega
  · rw [if_neg c, if_neg c]
    have hd : H / C = 2 * q := by
      refine Nat.div_eq_of_lt_le ?_ ?_
      · rw [Nat.mul_comm, e1]
        generalize C * q = P at h1 ⊢
        omega
      · rw [Nat.mul_comm, e2]
        generalize C * q = P at h1 ⊢
        omega
    refine ⟨by rw [hd]; rfl, ?_⟩
    have hm := Nat.div_add_mod H C
    rw [hd, e1] at hm
    generalize C * q = P at h1 hm
    omega
theorem uN_bn (a : Int64) {n : Nat} (hn : n < 64) : uN ((a >>> ((nI n).toInt64 &&& 63)) &&& 1) = uN a / 2 ^ n % 2 := by
  rw [bt_one a hn]
  have ht := Nat.testBit_eq_decide_div_mod_eq (x := uN a) (i := n)
  by_cases hb : (uN a).testBit n = true
  · rw [if_pos hb]
    rw [hb] at ht
    have hd : uN a / 2 ^ n % 2 = 1 := of_decide_eq_true ht.symm
    rw [hd]
    rfl
  · rw [if_neg hb]
    have h1 : (uN a).testBit n = false := by
      cases hq : (uN a).testBit n
      · rfl
      · exact absurd hq hb
    rw [h1] at ht
    have hd : ¬ uN a / 2 ^ n % 2 = 1 := of_decide_eq_false ht.symm
    have hd0 : uN a / 2 ^ n % 2 = 0 := by omega
    rw [hd0]
    rfl
theorem mq_loop (a c : Int64) (hc : uN c ≠ 0) : ∀ n, n ≤ 64 → ∀ u4 u6 : Int64, uN u6 = uN a / 2 ^ n % uN c → uN u4 = uN a / 2 ^ n / uN c * 2 ^ n → uN (fl_M_quotient a c n u4 u6 (nI n + (-1))) = uN a / uN c := by
  intro n
  induction n with
  | zero =>
    intro _ u4 u6 _ h4
    show uN u4 = _
    rw [h4, Nat.pow_zero, Nat.mul_one, Nat.div_one]
  | succ n ih =>
    intro hn u4 u6 h6 h4
    rw [nI_m1]
    have hA := uN_lt a
    have hC := uN_lt c
    have hC0 : 0 < uN c := by omega
    obtain ⟨s1, s2⟩ := q_step (A := uN a) (C := uN c) (n := n) hC0
    have hb := uN_bn a (n := n) (by omega)
    have hb2 : uN a / 2 ^ n % 2 < 2 := Nat.mod_lt _ (by decide)
    have hr : uN u6 < uN c := by rw [h6]; exact Nat.mod_lt _ hC0
    rw [← h6] at s1 s2
    generalize uN a / 2 ^ n % 2 = bit at s1 s2 hb hb2
    have hp : 0 < 2 ^ n := Nat.two_pow_pos n
    have hs : 2 ^ (n + 1) = 2 * 2 ^ n := by rw [Nat.pow_succ, Nat.mul_comm]
    have hmod : uN u4 % 2 ^ (n + 1) = 0 := by rw [h4, Nat.mul_comm]; exact Nat.mul_mod_right _ _
    have e4 : uN (u4 ||| ((1 : Int64) <<< ((nI n).toInt64 &&& 63))) = uN u4 + 2 ^ n := uN_or1 (by omega) hmod
    have v3 : uN ((u6 <<< ((1 : Int32).toInt64 &&& 63)) ||| ((a >>> ((nI n).toInt64 &&& 63)) &&& 1)) = (2 * uN u6) % 18446744073709551616 + bit := by
      rw [uN_or (by rw [hb]; omega), hb]
    have q4 : uN u4 = 2 * (uN a / 2 ^ (n + 1) / uN c) * 2 ^ n := by
      rw [h4, hs, Nat.mul_assoc 2, Nat.mul_left_comm]
    have up : ∀ g : Nat, uN a / 2 ^ n / uN c = 2 * (uN a / 2 ^ (n + 1) / uN c) + g → uN a / 2 ^ n / uN c * 2 ^ n = uN u4 + g * 2 ^ n := by
      intro g hg
      rw [hg, Nat.add_mul, q4]
    have hneg : ¬ nI n < 0 := nI_pos (by omega)
    by_cases c1 : 0 ≤ lg_cmp u6 0
    · have hs6 : uN u6 < 9223372036854775808 := by
        rw [ge0_iff, un_lt0] at c1
        omega
      have v3' : uN ((u6 <<< ((1 : Int32).toInt64 &&& 63)) ||| ((a >>> ((nI n).toInt64 &&& 63)) &&& 1)) = 2 * uN u6 + bit := by
        rw [v3, Nat.mod_eq_of_lt (by omega)]
      by_cases c2 : uN c ≤ 2 * uN u6 + bit
      · have hbl : f_M_below ((u6 <<< ((1 : Int32).toInt64 &&& 63)) ||| ((a >>> ((nI n).toInt64 &&& 63)) &&& 1)) c = 0 := by
          rw [un_below, un_a0, v3']
          exact c2
        have e : fl_M_quotient a c (n + 1) u4 u6 (nI n) = fl_M_quotient a c n (u4 ||| ((1 : Int64) <<< ((nI n).toInt64 &&& 63))) (((u6 <<< ((1 : Int32).toInt64 &&& 63)) ||| ((a >>> ((nI n).toInt64 &&& 63)) &&& 1)) - c) (nI n + (-1)) := (if_neg hneg).trans ((if_pos c1).trans (if_pos hbl))
        rw [if_pos c2] at s1 s2
        rw [e]
        refine ih (by omega) _ _ ?_ ?_
        · rw [uN_sb, v3', s2]
          omega
        · rw [e4, up 1 s1, Nat.one_mul]
      · have hbl : ¬ f_M_below ((u6 <<< ((1 : Int32).toInt64 &&& 63)) ||| ((a >>> ((nI n).toInt64 &&& 63)) &&& 1)) c = 0 := by
          rw [un_below, un_a0, v3']
          exact c2
        have e : fl_M_quotient a c (n + 1) u4 u6 (nI n) = fl_M_quotient a c n (u4 ||| 0) (((u6 <<< ((1 : Int32).toInt64 &&& 63)) ||| ((a >>> ((nI n).toInt64 &&& 63)) &&& 1)) - 0) (nI n + (-1)) := (if_neg hneg).trans ((if_pos c1).trans (if_neg hbl))
        rw [if_neg c2] at s1 s2
        rw [e]
        refine ih (by omega) _ _ ?_ ?_
        · rw [uN_sb, v3', s2]
          show (18446744073709551616 - 0 + (2 * uN u6 + bit)) % 18446744073709551616 = _
          omega
        · rw [uN_rr, up 0 s1, Nat.zero_mul]
          exact Nat.or_zero _
    · have hs6 : 9223372036854775808 ≤ uN u6 := by
        rw [ge0_iff, un_lt0] at c1
        omega
      have e : fl_M_quotient a c (n + 1) u4 u6 (nI n) = fl_M_quotient a c n (u4 ||| ((1 : Int64) <<< ((nI n).toInt64 &&& 63))) (((u6 <<< ((1 : Int32).toInt64 &&& 63)) ||| ((a >>> ((nI n).toInt64 &&& 63)) &&& 1)) - c) (nI n + (-1)) := (if_neg hneg).trans (if_neg c1)
      have c2 : uN c ≤ 2 * uN u6 + bit := by omega
      rw [if_pos c2] at s1 s2
      have h6l := uN_lt u6
      rw [e]
      refine ih (by omega) _ _ ?_ ?_
      · rw [uN_sb, v3, s2]
        omega
      · rw [e4, up 1 s1, Nat.one_mul]
theorem ml_quotient (a c : Int64) (hc : uN c ≠ 0) : f_M_quotient a c = f_X2_quotient a c := by
  apply uN_inj
  rw [xq a c hc]
  have hA := uN_lt a
  have h0 : uN a / 2 ^ 64 = 0 := Nat.div_eq_of_lt hA
  exact mq_loop a c hc 64 (by omega) 0 0 (by rw [h0, Nat.zero_mod]; rfl) (by rw [h0, Nat.zero_div, Nat.zero_mul]; rfl)
