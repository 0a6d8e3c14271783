theorem tb_or (a b : Int64) (i : Nat) : (uN (a ||| b)).testBit i = ((uN a).testBit i || (uN b).testBit i) := by rw [uN_rr, Nat.testBit_or]
theorem tb_and (a b : Int64) (i : Nat) : (uN (a &&& b)).testBit i = ((uN a).testBit i && (uN b).testBit i) := by rw [uN_an, Nat.testBit_and]
theorem tb_big (x : Int64) {i : Nat} (h : 64 ≤ i) : (uN x).testBit i = false := Nat.testBit_lt_two_pow (Nat.lt_of_lt_of_le (show uN x < 2 ^ 64 from uN_lt x) (Nat.pow_le_pow_right (by decide) h))
theorem tb_ushr (x : Int64) {k i : Nat} (hk : k < 64) : (uN (x.toUInt64 >>> ((nI k).toInt64.toUInt64 &&& Int64.toUInt64 63)).toInt64).testBit i = (uN x).testBit (i + k) := by
  rw [uN_sk x hk, Nat.testBit_div_two_pow]
theorem tb_shl8 (x : Int64) {i : Nat} (hi : i < 64) : (uN (x <<< ((8 : Int32).toInt64 &&& 63))).testBit i = (decide (8 ≤ i) && (uN x).testBit (i - 8)) := tb_shl x (k := 8) (by decide) hi
theorem tb_ush8 (x : Int64) {i : Nat} : (uN (x.toUInt64 >>> ((8 : Int32).toInt64.toUInt64 &&& Int64.toUInt64 63)).toInt64).testBit i = (uN x).testBit (i + 8) := tb_ushr x (k := 8) (by decide)
theorem tb_shl16 (x : Int64) {i : Nat} (hi : i < 64) : (uN (x <<< ((16 : Int32).toInt64 &&& 63))).testBit i = (decide (16 ≤ i) && (uN x).testBit (i - 16)) := tb_shl x (k := 16) (by decide) hi
theorem tb_ush16 (x : Int64) {i : Nat} : (uN (x.toUInt64 >>> ((16 : Int32).toInt64.toUInt64 &&& Int64.toUInt64 63)).toInt64).testBit i = (uN x).testBit (i + 16) := tb_ushr x (k := 16) (by decide)
theorem tb_shl48 (x : Int64) {i : Nat} (hi : i < 64) : (uN (x <<< ((48 : Int32).toInt64 &&& 63))).testBit i = (decide (48 ≤ i) && (uN x).testBit (i - 48)) := tb_shl x (k := 48) (by decide) hi
theorem tb_ush48 (x : Int64) {i : Nat} : (uN (x.toUInt64 >>> ((48 : Int32).toInt64.toUInt64 &&& Int64.toUInt64 63)).toInt64).testBit i = (uN x).testBit (i + 48) := tb_ushr x (k := 48) (by decide)
theorem m_b8 : ∀ i, i < 64 → (uN 71777214294589695).testBit i = decide (i / 8 % 2 = 0) := by decide +kernel
theorem m_b16 : ∀ i, i < 64 → (uN 4294901760).testBit i = decide (16 ≤ i ∧ i < 32) := by decide +kernel
theorem m_255 : ∀ i, i < 64 → (uN 255).testBit i = decide (i < 8) := by decide +kernel
def rb1 (x : Int64) : Int64 := ((x &&& 71777214294589695) <<< ((8 : Int32).toInt64 &&& 63)) ||| (((x.toUInt64 >>> ((8 : Int32).toInt64.toUInt64 &&& Int64.toUInt64 63)).toInt64) &&& 71777214294589695)
theorem rb1_bit (x : Int64) {i : Nat} (hi : i < 64) : (uN (rb1 x)).testBit i = ((decide (8 ≤ i) && ((uN x).testBit (i - 8) && decide ((i - 8) / 8 % 2 = 0))) || ((uN x).testBit (i + 8) && decide (i / 8 % 2 = 0))) := by
  unfold rb1
  rw [tb_or, tb_and, tb_shl8 _ hi, tb_and, m_b8 (i - 8) (by omega), m_b8 i hi, tb_ush8]
theorem rb_bit (x : Int64) {j : Nat} (hj : j < 64) : (uN (f_JL_reverseBytes x)).testBit j = ((((decide (48 ≤ j) && (uN (rb1 x)).testBit (j - 48)) || (decide (16 ≤ j) && ((uN (rb1 x)).testBit (j - 16) && decide (16 ≤ j - 16 ∧ j - 16 < 32)))) || ((uN (rb1 x)).testBit (j + 16) && decide (16 ≤ j ∧ j < 32))) || (uN (rb1 x)).testBit (j + 48)) := by
  show (uN ((((rb1 x <<< ((48 : Int32).toInt64 &&& 63)) ||| ((rb1 x &&& 4294901760) <<< ((16 : Int32).toInt64 &&& 63))) ||| (((rb1 x).toUInt64 >>> ((16 : Int32).toInt64.toUInt64 &&& Int64.toUInt64 63)).toInt64 &&& 4294901760)) ||| ((rb1 x).toUInt64 >>> ((48 : Int32).toInt64.toUInt64 &&& Int64.toUInt64 63)).toInt64)).testBit j = _
  rw [tb_or, tb_or, tb_or, tb_and, tb_shl48 _ hj, tb_shl16 _ hj, tb_and, m_b16 (j - 16) (by omega), m_b16 j hj, tb_ush16, tb_ush48]
theorem rv_bit (x : Int64) : ∀ j, j < 64 → (uN (f_JL_reverseBytes x)).testBit j = (uN x).testBit (8 * (7 - j / 8) + j % 8) := by
  intro j hj
  rw [rb_bit x hj]
  match j, hj with
  | 0, _ => simp [rb1_bit, tb_big, -Nat.testBit_zero]
  | 1, _ => simp [rb1_bit, tb_big, -Nat.testBit_zero]
  | 2, _ => simp [rb1_bit, tb_big, -Nat.testBit_zero]
  | 3, _ => simp [rb1_bit, tb_big, -Nat.testBit_zero]
  | 4, _ => simp [rb1_bit, tb_big, -Nat.testBit_zero]
  | 5, _ => simp [rb1_bit, tb_big, -Nat.testBit_zero]
  | 6, _ => simp [rb1_bit, tb_big, -Nat.testBit_zero]
  | 7, _ => simp [rb1_bit, tb_big, -Nat.testBit_zero]
  | 8, _ => simp [rb1_bit, tb_big, -Nat.testBit_zero]
  | 9, _ => simp [rb1_bit, tb_big, -Nat.testBit_zero]
  | 10, _ => simp [rb1_bit, tb_big, -Nat.testBit_zero]
  | 11, _ => simp [rb1_bit, tb_big, -Nat.testBit_zero]
  | 12, _ => simp [rb1_bit, tb_big, -Nat.testBit_zero]
  | 13, _ => simp [rb1_bit, tb_big, -Nat.testBit_zero]
  | 14, _ => simp [rb1_bit, tb_big, -Nat.testBit_zero]
  | 15, _ => simp [rb1_bit, tb_big, -Nat.testBit_zero]
  | 16, _ => simp [rb1_bit, tb_big, -Nat.testBit_zero]
  | 17, _ => simp [rb1_bit, tb_big, -Nat.testBit_zero]
  | 18, _ => simp [rb1_bit, tb_big, -Nat.testBit_zero]
  | 19, _ => simp [rb1_bit, tb_big, -Nat.testBit_zero]
  | 20, _ => simp [rb1_bit, tb_big, -Nat.testBit_zero]
  | 21, _ => simp [rb1_bit, tb_big, -Nat.testBit_zero]
  | 22, _ => simp [rb1_bit, tb_big, -Nat.testBit_zero]
  | 23, _ => simp [rb1_bit, tb_big, -Nat.testBit_zero]
  | 24, _ => simp [rb1_bit, tb_big, -Nat.testBit_zero]
  | 25, _ => simp [rb1_bit, tb_big, -Nat.testBit_zero]
  | 26, _ => simp [rb1_bit, tb_big, -Nat.testBit_zero]
  | 27, _ => simp [rb1_bit, tb_big, -Nat.testBit_zero]
  | 28, _ => simp [rb1_bit, tb_big, -Nat.testBit_zero]
  | 29, _ => simp [rb1_bit, tb_big, -Nat.testBit_zero]
  | 30, _ => simp [rb1_bit, tb_big, -Nat.testBit_zero]
  | 31, _ => simp [rb1_bit, tb_big, -Nat.testBit_zero]
  | 32, _ => simp [rb1_bit, tb_big, -Nat.testBit_zero]
  | 33, _ => simp [rb1_bit, tb_big, -Nat.testBit_zero]
  | 34, _ => simp [rb1_bit, tb_big, -Nat.testBit_zero]
  | 35, _ => simp [rb1_bit, tb_big, -Nat.testBit_zero]
  | 36, _ => simp [rb1_bit, tb_big, -Nat.testBit_zero]
  | 37, _ => simp [rb1_bit, tb_big, -Nat.testBit_zero]
  | 38, _ => simp [rb1_bit, tb_big, -Nat.testBit_zero]
  | 39, _ => simp [rb1_bit, tb_big, -Nat.testBit_zero]
  | 40, _ => simp [rb1_bit, tb_big, -Nat.testBit_zero]
  | 41, _ => simp [rb1_bit, tb_big, -Nat.testBit_zero]
  | 42, _ => simp [rb1_bit, tb_big, -Nat.testBit_zero]
  | 43, _ => simp [rb1_bit, tb_big, -Nat.testBit_zero]
  | 44, _ => simp [rb1_bit, tb_big, -Nat.testBit_zero]
  | 45, _ => simp [rb1_bit, tb_big, -Nat.testBit_zero]
  | 46, _ => simp [rb1_bit, tb_big, -Nat.testBit_zero]
  | 47, _ => simp [rb1_bit, tb_big, -Nat.testBit_zero]
  | 48, _ => simp [rb1_bit, tb_big, -Nat.testBit_zero]
  | 49, _ => simp [rb1_bit, tb_big, -Nat.testBit_zero]
  | 50, _ => simp [rb1_bit, tb_big, -Nat.testBit_zero]
  | 51, _ => simp [rb1_bit, tb_big, -Nat.testBit_zero]
  | 52, _ => simp [rb1_bit, tb_big, -Nat.testBit_zero]
  | 53, _ => simp [rb1_bit, tb_big, -Nat.testBit_zero]
  | 54, _ => simp [rb1_bit, tb_big, -Nat.testBit_zero]
  | 55, _ => simp [rb1_bit, tb_big, -Nat.testBit_zero]
  | 56, _ => simp [rb1_bit, tb_big, -Nat.testBit_zero]
  | 57, _ => simp [rb1_bit, tb_big, -Nat.testBit_zero]
  | 58, _ => simp [rb1_bit, tb_big, -Nat.testBit_zero]
  | 59, _ => simp [rb1_bit, tb_big, -Nat.testBit_zero]
  | 60, _ => simp [rb1_bit, tb_big, -Nat.testBit_zero]
  | 61, _ => simp [rb1_bit, tb_big, -Nat.testBit_zero]
  | 62, _ => simp [rb1_bit, tb_big, -Nat.testBit_zero]
  | 63, _ => simp [rb1_bit, tb_big, -Nat.testBit_zero]
  | n + 64, h => exact absurd h (by omega)
/-- the reference's loop over the bytes -/
def sw_ok (x v : Int64) (k : Nat) : Prop := ∀ j, j < 64 → (uN v).testBit j = (decide (j < 8 * k) && (uN x).testBit (8 * (k - 1 - j / 8) + j % 8))
theorem sw_step {x v : Int64} {k : Nat} (hk : k < 8) (h : sw_ok x v k) : sw_ok x ((v <<< ((8 : Int32).toInt64 &&& 63)) ||| ((x >>> ((nI (8 * k)).toInt64 &&& 63)) &&& 255)) (k + 1) := by
  intro j hj
  rw [tb_or, tb_and, tb_shl8 _ hj, m_255 j hj, tb_sar x (k := 8 * k) (by omega) hj]
  by_cases c : j < 8
  · have e1 : decide (8 ≤ j) = false := decide_eq_false (by omega)
    have e2 : decide (j < 8 * (k + 1)) = true := decide_eq_true (by omega)
    rw [e1, e2, decide_eq_true c, if_pos (by omega), Bool.false_and, Bool.false_or, Bool.and_true, Bool.true_and]
    congr 1
    omega
  · have e1 : decide (8 ≤ j) = true := decide_eq_true (by omega)
    rw [e1, decide_eq_false c, Bool.and_false, Bool.or_false, Bool.true_and, h (j - 8) (by omega)]
    by_cases c2 : j < 8 * (k + 1)
    · rw [decide_eq_true c2, decide_eq_true (show j - 8 < 8 * k by omega)]
      congr 2
      omega
    · rw [decide_eq_false c2, decide_eq_false (show ¬ j - 8 < 8 * k by omega), Bool.false_and, Bool.false_and]
theorem nI_8m (k : Nat) : (8 : Int32) * nI k = nI (8 * k) := (Int32.ofNat_mul 8 k).symm
theorem sw_loop (st : Md) {m : Nat} (hm : m ≤ 8) : ∀ n k, k ≤ m → m ≤ k + n → ∀ v, sw_ok (st.1 16) v k → ∃ v', sw_ok (st.1 16) v' m ∧ fl_M_swap st (nI m) n v (nI k) = f_M_setExact st 18 v' := by
  intro n
  induction n with
  | zero =>
    intro k h1 h2 v hv
    have : k = m := by omega
    subst this
    exact ⟨v, hv, rfl⟩
  | succ n ih =>
    intro k h1 h2 v hv
    by_cases c : m ≤ k
    · have : k = m := by omega
      subst this
      exact ⟨v, hv, if_pos (nI_le (Nat.le_refl _) (by omega))⟩
    · have hlt : ¬ nI m ≤ nI k := nI_ge (by omega) (by omega)
      obtain ⟨v', a1, a2⟩ := ih (k + 1) (by omega) (by omega) _ (sw_step (x := st.1 16) (v := v) (k := k) (by omega) hv)
      refine ⟨v', a1, Eq.trans ?_ a2⟩
      rw [← nI_1, ← nI_8m]
      exact if_neg hlt
theorem sw_val (x v : Int64) {m : Nat} (hm0 : 1 ≤ m) (hm : m ≤ 8) (h : sw_ok x v m) : v = ((f_JL_reverseBytes x).toUInt64 >>> ((nI (64 - 8 * m)).toInt64.toUInt64 &&& Int64.toUInt64 63)).toInt64 := by
  apply uN_ext
  intro j hj
  rw [h j hj, tb_ushr _ (by omega)]
  by_cases c : j < 8 * m
  · rw [decide_eq_true c, Bool.true_and, rv_bit x _ (by omega)]
    congr 1
    omega
  · rw [decide_eq_false c, Bool.false_and, tb_big _ (by omega)]
theorem ml_bytesOf (st : Md) (n0 n2 : Nm) : f_M_bytesOf st 17 = f_X2_byteCount n0 (md_at st 17) n2 := by
  unfold f_M_bytesOf f_X2_byteCount f_X1_isExactly
  simp only [ml_isExact, i17, md_def]
  unfold f_X1_isExact
  dsimp only
  by_cases c0 : lg_cmp (st.2.1 17) 0 = 0
  · by_cases c2 : lg_cmp (st.1 17) 2 = 0
    · have e := (lg_cmp_eq _ _).mp c2
      simp only [c0, c2, if_true, g_e10, if_false]
      rw [e]
      decide
    · by_cases c4 : lg_cmp (st.1 17) 4 = 0
      · have e := (lg_cmp_eq _ _).mp c4
        simp only [c0, c2, c4, if_true, g_e10, if_false]
        rw [e]
        decide
      · simp only [c0, c2, c4, if_true, g_e10, if_false]
  · simp only [c0, if_true, if_false]
theorem bc_cases (n0 n1 n2 : Nm) : f_X2_byteCount n0 n1 n2 = 2 ∨ f_X2_byteCount n0 n1 n2 = 4 ∨ f_X2_byteCount n0 n1 n2 = 8 := by
  unfold f_X2_byteCount
  split
  · split
    · exact Or.inr (Or.inr rfl)
    · exact Or.inr (Or.inl rfl)
  · exact Or.inl rfl
theorem gt_2 : f_X2_greatestOf 2 = f_M_top 2 := by decide +kernel
theorem gt_4 : f_X2_greatestOf 4 = f_M_top 4 := by decide +kernel
theorem gt_8 : f_X2_greatestOf 8 = f_M_top 8 := by decide +kernel
theorem ml_top {p : Int32} (h : p = 2 ∨ p = 4 ∨ p = 8) : f_M_top p = f_X2_greatestOf p := by
  rcases h with rfl | rfl | rfl
  · exact gt_2.symm
  · exact gt_4.symm
  · exact gt_8.symm
theorem ml_swap (st : Md) {p : Int32} (h : p = 2 ∨ p = 4 ∨ p = 8) (hl : st.2.2.1 18 = 0) (hg : st.2.2.2.1 18 = -1) : f_M_swap st p = md_set st 18 (f_X2_swap (md_at st 16) (md_at st 17) (md_at st 18) p) := by
  unfold f_M_swap f_X2_swap
  simp only [ml_isExact, i16, i18, md_4, ml_top h]
  by_cases c : f_X1_isExact (md_at st 16) = 0
  · simp only [c, if_true]
    rw [md_def st 18, su_eq, hl]
    by_cases c8 : (8 : Int32) ≤ p
    · have : p = 8 := by
        rcases h with rfl | rfl | rfl
        · exact absurd c8 (by decide)
        · exact absurd c8 (by decide)
        · rfl
      subst this
      rw [if_pos c8, gt_8]
      show st = md_set st 18 (st.1 18, st.2.1 18, 0, -1, st.2.2.2.2.1 18, st.2.2.2.2.2 18)
      rw [← hl, ← hg, md_self]
    · rw [if_neg c8]
  · simp only [c, if_false]
    have go : ∀ m, 1 ≤ m → m ≤ 8 → fl_M_swap st (nI m) 8 0 0 = md_set st 18 (f_X1_becomeExact (md_at st 18) (((f_JL_reverseBytes (md_at st 16).1).toUInt64 >>> ((nI (64 - 8 * m)).toInt64.toUInt64 &&& Int64.toUInt64 63)).toInt64)) := by
      intro m hm0 hm
      obtain ⟨v', a1, a2⟩ := sw_loop st hm 8 0 (by omega) (by omega) 0 (fun j hj => by
        rw [decide_eq_false (show ¬ j < 8 * 0 by omega), Bool.false_and]
        exact Nat.zero_testBit j)
      rw [show (0 : Int32) = nI 0 from rfl, a2, ml_setExact st 18 _ (md_at st 18), i18, sw_val _ _ hm0 hm a1]
      rfl
    rcases h with rfl | rfl | rfl
    · exact go 2 (by omega) (by omega)
    · exact go 4 (by omega) (by omega)
    · exact go 8 (by omega) (by omega)
