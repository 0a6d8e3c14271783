def jt (w : Int32) : Int32 :=
  if 0 < w then (if w ≤ 65536 then (if w ≤ 256 then (if w ≤ 16 then (if w ≤ 4 then 1 + ((w.toUInt32 >>> ((1 : Int32).toUInt32 &&& Int32.toUInt32 31)).toInt32)
          else (let v6 : Int32 := (w.toUInt32 >>> ((2 : Int32).toUInt32 &&& Int32.toUInt32 31)).toInt32
          3 + ((v6.toUInt32 >>> ((1 : Int32).toUInt32 &&& Int32.toUInt32 31)).toInt32)))
        else (let v7 : Int32 := (w.toUInt32 >>> ((4 : Int32).toUInt32 &&& Int32.toUInt32 31)).toInt32
        if v7 ≤ 4 then 5 + ((v7.toUInt32 >>> ((1 : Int32).toUInt32 &&& Int32.toUInt32 31)).toInt32)
        else (let v9 : Int32 := (v7.toUInt32 >>> ((2 : Int32).toUInt32 &&& Int32.toUInt32 31)).toInt32
        7 + ((v9.toUInt32 >>> ((1 : Int32).toUInt32 &&& Int32.toUInt32 31)).toInt32))))
      else (let v10 : Int32 := (w.toUInt32 >>> ((8 : Int32).toUInt32 &&& Int32.toUInt32 31)).toInt32
      if v10 ≤ 16 then (if v10 ≤ 4 then 9 + ((v10.toUInt32 >>> ((1 : Int32).toUInt32 &&& Int32.toUInt32 31)).toInt32)
        else (let v13 : Int32 := (v10.toUInt32 >>> ((2 : Int32).toUInt32 &&& Int32.toUInt32 31)).toInt32
        11 + ((v13.toUInt32 >>> ((1 : Int32).toUInt32 &&& Int32.toUInt32 31)).toInt32)))
      else (let v14 : Int32 := (v10.toUInt32 >>> ((4 : Int32).toUInt32 &&& Int32.toUInt32 31)).toInt32
      if v14 ≤ 4 then 13 + ((v14.toUInt32 >>> ((1 : Int32).toUInt32 &&& Int32.toUInt32 31)).toInt32)
      else (let v16 : Int32 := (v14.toUInt32 >>> ((2 : Int32).toUInt32 &&& Int32.toUInt32 31)).toInt32
      15 + ((v16.toUInt32 >>> ((1 : Int32).toUInt32 &&& Int32.toUInt32 31)).toInt32)))))
    else (let v17 : Int32 := (w.toUInt32 >>> ((16 : Int32).toUInt32 &&& Int32.toUInt32 31)).toInt32
    if v17 ≤ 256 then (if v17 ≤ 16 then (if v17 ≤ 4 then 17 + ((v17.toUInt32 >>> ((1 : Int32).toUInt32 &&& Int32.toUInt32 31)).toInt32)
        else (let v21 : Int32 := (v17.toUInt32 >>> ((2 : Int32).toUInt32 &&& Int32.toUInt32 31)).toInt32
        19 + ((v21.toUInt32 >>> ((1 : Int32).toUInt32 &&& Int32.toUInt32 31)).toInt32)))
      else (let v22 : Int32 := (v17.toUInt32 >>> ((4 : Int32).toUInt32 &&& Int32.toUInt32 31)).toInt32
      if v22 ≤ 4 then 21 + ((v22.toUInt32 >>> ((1 : Int32).toUInt32 &&& Int32.toUInt32 31)).toInt32)
      else (let v24 : Int32 := (v22.toUInt32 >>> ((2 : Int32).toUInt32 &&& Int32.toUInt32 31)).toInt32
      23 + ((v24.toUInt32 >>> ((1 : Int32).toUInt32 &&& Int32.toUInt32 31)).toInt32))))
    else (let v25 : Int32 := (v17.toUInt32 >>> ((8 : Int32).toUInt32 &&& Int32.toUInt32 31)).toInt32
    if v25 ≤ 16 then (if v25 ≤ 4 then 25 + ((v25.toUInt32 >>> ((1 : Int32).toUInt32 &&& Int32.toUInt32 31)).toInt32)
      else (let v28 : Int32 := (v25.toUInt32 >>> ((2 : Int32).toUInt32 &&& Int32.toUInt32 31)).toInt32
      27 + ((v28.toUInt32 >>> ((1 : Int32).toUInt32 &&& Int32.toUInt32 31)).toInt32)))
    else (let v29 : Int32 := (v25.toUInt32 >>> ((4 : Int32).toUInt32 &&& Int32.toUInt32 31)).toInt32
    if v29 ≤ 4 then 29 + ((v29.toUInt32 >>> ((1 : Int32).toUInt32 &&& Int32.toUInt32 31)).toInt32)
    else (let v31 : Int32 := (v29.toUInt32 >>> ((2 : Int32).toUInt32 &&& Int32.toUInt32 31)).toInt32
    31 + ((v31.toUInt32 >>> ((1 : Int32).toUInt32 &&& Int32.toUInt32 31)).toInt32))))))
  else w &&& 32
theorem jt_eq (p : Int32) : f_JI_numberOfTrailingZeros p = jt ((p ^^^ (-1)) &&& (p - 1)) := rfl
theorem jt_v : ∀ z, z < 32 → jt (nI (2 ^ z - 1)) = nI z := by decide +kernel
theorem jt_0 : f_JI_numberOfTrailingZeros 0 = 32 := by decide +kernel
theorem uN_shlk (x : Int64) {k : Nat} (hk : k < 64) : uN (x <<< ((nI k).toInt64 &&& 63)) = (uN x * 2 ^ k) % 18446744073709551616 := by
  show (x.toBitVec <<< (((nI k).toInt64 &&& 63).toBitVec.smod 64).toNat).toNat = _
  rw [s_l64 k hk, BitVec.toNat_shiftLeft, Nat.shiftLeft_eq]
  rfl
theorem sh_back {G k : Nat} (hk : k < 64) (hG : G < 18446744073709551616) : (G * 2 ^ k) % 18446744073709551616 / 2 ^ k = G ↔ G < 2 ^ (64 - k) := by
  have hp : 0 < 2 ^ k := Nat.two_pow_pos k
  have e : (18446744073709551616 : Nat) = 2 ^ (64 - k) * 2 ^ k := by
    rw [← Nat.pow_add, Nat.sub_add_cancel (by omega)]
  rw [e, Nat.mul_mod_mul_right, Nat.mul_div_cancel _ hp]
  constructor
  · intro h
    rw [← h]
    exact Nat.mod_lt _ (Nat.two_pow_pos _)
  · exact Nat.mod_eq_of_lt
theorem nI_64sub {k : Nat} (hk : k ≤ 64) : (64 : Int32) - nI k = nI (64 - k) := by
  have e : nI (64 - k) + nI k = nI 64 := by
    rw [nI_add, Nat.sub_add_cancel hk]
  rw [show (64 : Int32) = nI 64 from rfl, ← e, Int32.add_sub_cancel]
theorem ml_shl (st : Md) {k : Nat} (hk : k < 64) : f_M_shift st 8 (nI k) = md_set st 18 (f_X2_shiftLeft (md_at st 16) (md_at st 17) (md_at st 18) (nI k)) := by
  unfold f_M_shift f_X2_shiftLeft
  simp only [i16, i17, i18, if_true, md_12, md_1234]
  simp only [md_def, sb_eq, su_eq]
  have hc : lg_cmp (((st.2.2.2.1 16 <<< ((nI k).toInt64 &&& 63)).toUInt64 >>> ((nI k).toInt64.toUInt64 &&& Int64.toUInt64 63)).toInt64) (st.2.2.2.1 16) = 0 ↔ uN (st.2.2.2.1 16) < 2 ^ (64 - k) := by
    rw [lg_cmp_eq, ← sh_back hk (uN_lt _), ← uN_shlk _ hk, ← uN_sk _ hk]
    exact ⟨fun q => by rw [q], fun q => uN_inj q⟩
  by_cases c0 : nI k = 0
  · have hk0 : k = 0 := (nI_0iff (by omega)).mp c0
    have h1 : uN (st.2.2.2.1 16) < 2 ^ (64 - k) := by
      rw [hk0]
      exact uN_lt _
    rw [if_pos c0]
    simp only [hc.mpr h1, if_true]
  · rw [if_neg c0, nI_64sub (by omega)]
    have hk1 : k ≠ 0 := fun q => c0 (by rw [q]; rfl)
    have hd : lg_cmp (((st.2.2.2.1 16).toUInt64 >>> ((nI (64 - k)).toInt64.toUInt64 &&& Int64.toUInt64 63)).toInt64) 0 = 0 ↔ uN (st.2.2.2.1 16) < 2 ^ (64 - k) := by
      rw [lg_cmp_eq]
      have e := uN_sk (st.2.2.2.1 16) (k := 64 - k) (by omega)
      constructor
      · intro q
        rw [q] at e
        have e2 : uN (st.2.2.2.1 16) / 2 ^ (64 - k) = 0 := e.symm
        exact (Nat.div_eq_zero_iff_lt (Nat.two_pow_pos _)).mp e2
      · intro q
        apply uN_inj
        rw [e]
        exact Nat.div_eq_of_lt q
    by_cases c1 : uN (st.2.2.2.1 16) < 2 ^ (64 - k)
    · rw [if_pos (hd.mpr c1)]
      simp only [hc.mpr c1, if_true]
    · rw [if_neg (fun q => c1 (hd.mp q))]
      have hn := (not_congr hc).mpr c1
      simp only [hn, if_false]
theorem ml_shr (st : Md) (s : Int32) : f_M_shift st 9 s = md_set st 18 (f_X2_shiftRight (md_at st 16) (md_at st 17) (md_at st 18) s) := by
  unfold f_M_shift f_X2_shiftRight
  simp only [i16, i17, i18, if_true, if_false, show ¬ (9 : Int32) = 8 by decide, md_1234]
  simp only [md_def, sb_eq, su_eq]
theorem ml_sar (st : Md) {op s : Int32} (h8 : ¬ op = 8) (h9 : ¬ op = 9) : f_M_shift st op s = md_set st 18 (f_X2_shiftRightSigned (md_at st 16) (md_at st 17) (md_at st 18) s) := by
  unfold f_M_shift f_X2_shiftRightSigned
  simp only [i16, i17, i18, if_false, h8, h9, md_1256]
  simp only [md_def, sb_eq, ss_eq]
/-! trailing zeros -/
theorem low_form {X z : Nat} (h1 : ∀ j, j < z → X.testBit j = false) (h2 : X.testBit z = true) : X = 2 ^ (z + 1) * (X / 2 ^ (z + 1)) + 2 ^ z := by
  have e : X % 2 ^ (z + 1) = 2 ^ z := by
    apply Nat.eq_of_testBit_eq
    intro j
    rw [Nat.testBit_mod_two_pow, Nat.testBit_two_pow]
    by_cases hj : j < z
    · rw [h1 j hj, Bool.and_false]
      exact (decide_eq_false (by omega)).symm
    · by_cases hz : z = j
      · rw [← hz, h2, decide_eq_true (show z < z + 1 by omega), decide_eq_true rfl]
        rfl
      · rw [decide_eq_false (show ¬ j < z + 1 by omega), decide_eq_false hz, Bool.false_and]
  have := Nat.div_add_mod X (2 ^ (z + 1))
  omega
theorem jt_low {X z : Nat} (hz : z < 32) (hX : X < 4294967296) (h1 : ∀ j, j < z → X.testBit j = false) (h2 : X.testBit z = true) : f_JI_numberOfTrailingZeros (nI X) = nI z := by
  have hp : 0 < 2 ^ z := Nat.two_pow_pos z
  have hs : 2 ^ (z + 1) = 2 * 2 ^ z := by rw [Nat.pow_succ, Nat.mul_comm]
  obtain ⟨q, ef⟩ : ∃ q, X = 2 ^ (z + 1) * q + 2 ^ z := ⟨_, low_form h1 h2⟩
  have hX1 : X - 1 = 2 ^ (z + 1) * q + (2 ^ z - 1) := by omega
  have em : nI X - 1 = nI (X - 1) := by
    have q := nI_pred (X - 1)
    rw [Nat.sub_add_cancel (by omega)] at q
    exact q
  rw [jt_eq, em, ← jt_v z hz]
  congr 1
  apply Int32.toBitVec_inj.mp
  apply BitVec.eq_of_getLsbD_eq
  intro j hj
  rw [Int32.toBitVec_and, BitVec.getLsbD_and, Int32.toBitVec_xor, BitVec.getLsbD_xor]
  have b1 : (nI X).toBitVec.getLsbD j = X.testBit j := by
    show (BitVec.ofNat 32 X).getLsbD j = _
    rw [BitVec.getLsbD_ofNat, decide_eq_true hj, Bool.true_and]
  have b2 : (nI (X - 1)).toBitVec.getLsbD j = (X - 1).testBit j := by
    show (BitVec.ofNat 32 (X - 1)).getLsbD j = _
    rw [BitVec.getLsbD_ofNat, decide_eq_true hj, Bool.true_and]
  have b3 : (nI (2 ^ z - 1)).toBitVec.getLsbD j = (2 ^ z - 1).testBit j := by
    show (BitVec.ofNat 32 (2 ^ z - 1)).getLsbD j = _
    rw [BitVec.getLsbD_ofNat, decide_eq_true hj, Bool.true_and]
  have b4 : (-1 : Int32).toBitVec.getLsbD j = true := by
    have q : ∀ j, j < 32 → (-1 : Int32).toBitVec.getLsbD j = true := by decide +kernel
    exact q j hj
  have l1 : 2 ^ z < 2 ^ (z + 1) := by omega
  have l2 : 2 ^ z - 1 < 2 ^ (z + 1) := by omega
  rw [b1, b2, b3, b4, hX1, Nat.testBit_two_pow_mul_add _ l2, ef, Nat.testBit_two_pow_mul_add _ l1, Nat.testBit_two_pow_sub_one, Nat.testBit_two_pow]
  by_cases hj1 : j < z + 1
  · rw [if_pos hj1, if_pos hj1]
    by_cases hj2 : j < z
    · rw [decide_eq_true hj2, decide_eq_false (show ¬ z = j by omega)]
      rfl
    · rw [decide_eq_false hj2, Bool.and_false]
  · rw [if_neg hj1, if_neg hj1, decide_eq_false (show ¬ j < z by omega)]
    cases q.testBit (j - (z + 1)) <;> rfl
theorem zr_loop (st : Md) (i : Int32) {V : Nat} (hV : uN (st.1 i.toNatClampNeg ||| st.2.1 i.toNatClampNeg) = V) : ∀ n k, k + n = 64 → (∀ j, j < k → V.testBit j = false) → ∃ z, z ≤ 64 ∧ fl_M_zeros st i n (nI k) = nI z ∧ (∀ j, j < z → V.testBit j = false) ∧ (z < 64 → V.testBit z = true) := by
  intro n
  induction n with
  | zero =>
    intro k hk hb
    exact ⟨k, by omega, rfl, hb, fun q => by omega⟩
  | succ n ih =>
    intro k hk hb
    have hlt : ¬ (64 : Int32) ≤ nI k := nI_ge (a := k) (b := 64) (by omega) (by decide)
    have ho := bt_one (st.1 i.toNatClampNeg ||| st.2.1 i.toNatClampNeg) (k := k) (by omega)
    rw [hV] at ho
    by_cases c : V.testBit k = true
    · rw [if_pos c] at ho
      refine ⟨k, by omega, (if_neg hlt).trans (if_neg ?_), hb, fun _ => c⟩
      rw [ho]
      decide
    · have c' : V.testBit k = false := by
        cases hq : V.testBit k
        · rfl
        · exact absurd hq c
      rw [if_neg c] at ho
      have e : fl_M_zeros st i (n + 1) (nI k) = fl_M_zeros st i n (nI k + 1) := (if_neg hlt).trans (if_pos (by rw [ho]; rfl))
      rw [e, nI_1]
      refine ih (k + 1) (by omega) (fun j hj => ?_)
      by_cases hjk : j = k
      · rw [hjk]
        exact c'
      · exact hb j (by omega)
theorem jl_ntz {d : Int64} {z : Nat} (hz : z ≤ 64) (h1 : ∀ j, j < z → (uN d).testBit j = false) (h2 : z < 64 → (uN d).testBit z = true) : f_JL_numberOfTrailingZeros d = nI z := by
  have hD := uN_lt d
  have hlo : d.toInt32 = nI (uN d % 4294967296) := by rw [jl_lo, nI_m32]
  have tlo : ∀ j, (uN d % 4294967296).testBit j = (decide (j < 32) && (uN d).testBit j) := fun j => Nat.testBit_mod_two_pow (uN d) 32 j
  have thi : ∀ j, (uN d / 4294967296).testBit j = (uN d).testBit (j + 32) := fun j => by
    rw [show (4294967296 : Nat) = 2 ^ 32 from by decide, Nat.testBit_div_two_pow]
  by_cases c : z < 32
  · have hne : ¬ uN d % 4294967296 = 0 := fun q => by
      have t := tlo z
      rw [q, Nat.zero_testBit, decide_eq_true c, h2 (by omega)] at t
      cases t
    have e : f_JL_numberOfTrailingZeros d = f_JI_numberOfTrailingZeros d.toInt32 := if_neg (by rw [hlo]; exact fun q => hne ((nI_0iff (by omega)).mp q))
    rw [e, hlo]
    refine jt_low c (by omega) (fun j hj => ?_) ?_
    · rw [tlo, h1 j hj, Bool.and_false]
    · rw [tlo, h2 (by omega), decide_eq_true c]
      rfl
  · have h0 : uN d % 4294967296 = 0 := by
      apply Nat.eq_of_testBit_eq
      intro j
      rw [tlo, Nat.zero_testBit]
      by_cases hj : j < 32
      · rw [h1 j (by omega), Bool.and_false]
      · rw [decide_eq_false hj, Bool.false_and]
    have e : f_JL_numberOfTrailingZeros d = 32 + f_JI_numberOfTrailingZeros (((d.toUInt64 >>> ((32 : Int32).toInt64.toUInt64 &&& Int64.toUInt64 63)).toInt64).toInt32) := if_pos (by rw [hlo, h0]; rfl)
    rw [e, jl_hi]
    by_cases c2 : z < 64
    · rw [jt_low (z := z - 32) (by omega) (by omega) (fun j hj => by rw [thi]; exact h1 _ (by omega)) (by rw [thi, Nat.sub_add_cancel (by omega)]; exact h2 c2)]
      rw [show (32 : Int32) = nI 32 from rfl, nI_add]
      congr 1
      omega
    · have hh : uN d / 4294967296 = 0 := by
        apply Nat.eq_of_testBit_eq
        intro j
        rw [thi, Nat.zero_testBit]
        by_cases hj : j + 32 < 64
        · exact h1 _ (by omega)
        · exact Nat.testBit_lt_two_pow (Nat.lt_of_lt_of_le (show uN d < 2 ^ 64 from hD) (Nat.pow_le_pow_right (by decide) (by omega)))
      rw [hh, show nI 0 = 0 from rfl, jt_0, show z = 64 by omega]
      decide
theorem ml_zeros (st : Md) (i : Int32) : f_M_zeros st i = f_JL_numberOfTrailingZeros (f_X1_mayBeOne (md_at st i.toNatClampNeg)) ∧ ∃ z, z ≤ 64 ∧ f_M_zeros st i = nI z := by
  obtain ⟨z, a1, a2, a3, a4⟩ := zr_loop st i rfl 64 0 rfl (fun j hj => by omega)
  have e : f_M_zeros st i = nI z := a2
  refine ⟨?_, z, a1, e⟩
  rw [e]
  exact (jl_ntz a1 a3 a4).symm
