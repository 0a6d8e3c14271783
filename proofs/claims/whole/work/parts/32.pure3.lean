theorem s_l64 : ∀ n, n < 64 → (((nI n).toInt64 &&& 63).toBitVec.smod 64).toNat = n := by decide +kernel
theorem tb_sar (x : Int64) {k i : Nat} (hk : k < 64) (hi : i < 64) : (uN (x >>> ((nI k).toInt64 &&& 63))).testBit i = if k + i < 64 then (uN x).testBit (k + i) else (uN x).testBit 63 := by
  show (x >>> ((nI k).toInt64 &&& 63)).toBitVec.getLsbD i = if k + i < 64 then x.toBitVec.getLsbD (k + i) else x.toBitVec.getLsbD 63
  rw [Int64.toBitVec_shiftRight]
  show (x.toBitVec.sshiftRight (((nI k).toInt64 &&& 63).toBitVec.smod 64).toNat).getLsbD i = _
  rw [s_l64 k hk, BitVec.getLsbD_sshiftRight, BitVec.msb_eq_getLsbD_last]
  simp [hi]
theorem tb_shl (x : Int64) {k i : Nat} (hk : k < 64) (hi : i < 64) : (uN (x <<< ((nI k).toInt64 &&& 63))).testBit i = (decide (k ≤ i) && (uN x).testBit (i - k)) := by
  show (x <<< ((nI k).toInt64 &&& 63)).toBitVec.getLsbD i = (decide (k ≤ i) && x.toBitVec.getLsbD (i - k))
  rw [Int64.toBitVec_shiftLeft]
  show (x.toBitVec <<< (((nI k).toInt64 &&& 63).toBitVec.smod 64).toNat).getLsbD i = _
  rw [s_l64 k hk, BitVec.getLsbD_shiftLeft]
  rcases Nat.lt_or_ge i k with h | h
  · simp [h, Nat.not_le.mpr h]
  · simp [hi, h, Nat.not_lt.mpr h]
theorem uN_ext {x y : Int64} (h : ∀ i, i < 64 → (uN x).testBit i = (uN y).testBit i) : x = y := Int64.toBitVec_inj.mp (BitVec.eq_of_getLsbD_eq (fun i hi => h i hi))
theorem uN_lN {n : Nat} (h : n < 18446744073709551616) : uN (lN n) = n := by
  show (BitVec.ofNat 64 n).toNat = n
  rw [BitVec.toNat_ofNat]
  exact Nat.mod_eq_of_lt h
theorem uN_of (x : Int64) : x = lN (uN x) := uN_inj (uN_lN (uN_lt x)).symm
theorem uN_a1 (y : Int64) : uN (y &&& 1) = uN y % 2 := by
  show (y.toUInt64 &&& Int64.toUInt64 1).toNat = _
  rw [UInt64.toNat_and]
  exact Nat.and_two_pow_sub_one_eq_mod _ 1
theorem bt_one (d : Int64) {k : Nat} (hk : k < 64) : ((d >>> ((nI k).toInt64 &&& 63)) &&& 1) = if (uN d).testBit k = true then 1 else 0 := by
  apply uN_inj
  have h := tb_sar d hk (i := 0) (by decide)
  rw [Nat.add_zero, if_pos hk, Nat.testBit_zero] at h
  rw [uN_a1]
  by_cases hb : (uN d).testBit k = true
  · rw [if_pos hb]
    rw [hb] at h
    have h2 : uN (d >>> ((nI k).toInt64 &&& 63)) % 2 = 1 := of_decide_eq_true h
    rw [h2]
    rfl
  · rw [if_neg hb]
    have h1 : (uN d).testBit k = false := by
      cases hq : (uN d).testBit k
      · rfl
      · exact absurd hq hb
    rw [h1] at h
    have h2 : ¬ uN (d >>> ((nI k).toInt64 &&& 63)) % 2 = 1 := of_decide_eq_false h
    have h3 : uN (d >>> ((nI k).toInt64 &&& 63)) % 2 = 0 := by omega
    rw [h3]
    rfl
theorem one_shl : ∀ k, k < 64 → (1 : Int64) <<< ((nI k).toInt64 &&& 63) = lN (2 ^ k) := by decide +kernel
theorem pow_lt64 {k : Nat} (hk : k < 64) : 2 ^ k < 18446744073709551616 := Nat.pow_lt_pow_right (by decide) (m := k) (n := 64) hk
theorem uN_1s {k : Nat} (hk : k < 64) : uN ((1 : Int64) <<< ((nI k).toInt64 &&& 63)) = 2 ^ k := by rw [one_shl k hk, uN_lN (pow_lt64 hk)]
theorem nI_m1 (n : Nat) : nI (n + 1) + (-1) = nI n := (Int32.sub_eq_add_neg _ _).symm.trans (nI_pred n)
theorem uN_or1 {x : Int64} {n : Nat} (hn : n < 64) (h : uN x % 2 ^ (n + 1) = 0) : uN (x ||| ((1 : Int64) <<< ((nI n).toInt64 &&& 63))) = uN x + 2 ^ n := by
  rw [uN_rr, uN_1s hn]
  have e : uN x = 2 ^ (n + 1) * (uN x / 2 ^ (n + 1)) := by
    have := Nat.div_add_mod (uN x) (2 ^ (n + 1))
    omega
  rw [e]
  exact (Nat.two_pow_add_eq_or_of_lt (i := n + 1) (Nat.pow_lt_pow_right (by decide) (by omega)) _).symm
theorem lc_ne0 {x : Int64} (h : uN x ≠ 0) : ¬ lg_cmp x 0 = 0 := fun q => h (by rw [(lg_cmp_eq _ _).mp q]; rfl)
theorem pl_A (p1 p2 d : Int64) : ∀ n, n ≤ 64 → ∀ u6 : Int64, uN u6 ≠ 0 → uN u6 % 2 ^ n = 0 → uN (fl_M_places p1 p2 d n u6 (nI n + (-1))) = uN u6 + (2 ^ n - 1) := by
  intro n
  induction n with
  | zero =>
    intro _ u6 _ _
    show uN u6 = uN u6 + (2 ^ 0 - 1)
    omega
  | succ n ih =>
    intro hn u6 h0 hm
    rw [nI_m1]
    have hp : 0 < 2 ^ n := Nat.two_pow_pos n
    have hs : 2 ^ (n + 1) = 2 * 2 ^ n := by rw [Nat.pow_succ, Nat.mul_comm]
    have e1 : uN (u6 ||| ((1 : Int64) <<< ((nI n).toInt64 &&& 63))) = uN u6 + 2 ^ n := uN_or1 (by omega) hm
    have hm' : (uN u6 + 2 ^ n) % 2 ^ n = 0 := by
      have h1 : uN u6 % 2 ^ n = 0 := Nat.mod_eq_zero_of_dvd (Nat.dvd_trans ⟨2, by rw [hs, Nat.mul_comm]⟩ (Nat.dvd_of_mod_eq_zero hm))
      rw [Nat.add_mod_right]
      exact h1
    have h2 := ih (by omega) (u6 ||| ((1 : Int64) <<< ((nI n).toInt64 &&& 63))) (by rw [e1]; omega) (by rw [e1]; exact hm')
    have h3 : fl_M_places p1 p2 d (n + 1) u6 (nI n) = fl_M_places p1 p2 d n (u6 ||| ((1 : Int64) <<< ((nI n).toInt64 &&& 63))) (nI n + (-1)) := (if_neg (nI_pos (by omega))).trans (if_neg (lc_ne0 h0))
    rw [h3, h2, e1]
    omega
def pl_sp (D r : Nat) : Prop := (D = 0 ∧ r = 0) ∨ ∃ h, 2 ^ h ≤ D ∧ D < 2 ^ (h + 1) ∧ r = 2 ^ (h + 1) - 1
theorem pl_hh {D h h' : Nat} (a1 : 2 ^ h ≤ D) (a2 : D < 2 ^ (h + 1)) (b1 : 2 ^ h' ≤ D) (b2 : D < 2 ^ (h' + 1)) : h = h' := by
  have l1 : h < h' + 1 := (Nat.pow_lt_pow_iff_right (a := 2) (by decide)).mp (Nat.lt_of_le_of_lt a1 b2)
  have l2 : h' < h + 1 := (Nat.pow_lt_pow_iff_right (a := 2) (by decide)).mp (Nat.lt_of_le_of_lt b1 a2)
  omega
theorem pl_un {D r r' : Nat} (a : pl_sp D r) (b : pl_sp D r') : r = r' := by
  rcases a with ⟨a1, a2⟩ | ⟨h, a1, a2, a3⟩
  · rcases b with ⟨b1, b2⟩ | ⟨h', b1, b2, b3⟩
    · rw [a2, b2]
    · have := Nat.two_pow_pos h'
      omega
  · rcases b with ⟨b1, b2⟩ | ⟨h', b1, b2, b3⟩
    · have := Nat.two_pow_pos h
      omega
    · rw [a3, b3, pl_hh a1 a2 b1 b2]
theorem pl_B (p1 p2 d : Int64) : ∀ n, n ≤ 64 → pl_sp (uN d % 2 ^ n) (uN (fl_M_places p1 p2 d n 0 (nI n + (-1)))) := by
  intro n
  induction n with
  | zero =>
    intro _
    exact Or.inl ⟨Nat.mod_one _, rfl⟩
  | succ n ih =>
    intro hn
    rw [nI_m1, Nat.mod_pow_succ]
    have hp : 0 < 2 ^ n := Nat.two_pow_pos n
    have hs : 2 ^ (n + 1) = 2 * 2 ^ n := by rw [Nat.pow_succ, Nat.mul_comm]
    have hlt : uN d % 2 ^ n < 2 ^ n := Nat.mod_lt _ hp
    have ht := Nat.testBit_eq_decide_div_mod_eq (x := uN d) (i := n)
    by_cases hb : (uN d).testBit n = true
    · have h3 : fl_M_places p1 p2 d (n + 1) 0 (nI n) = fl_M_places p1 p2 d n (0 ||| ((1 : Int64) <<< ((nI n).toInt64 &&& 63))) (nI n + (-1)) :=
        (if_neg (nI_pos (by omega))).trans ((if_pos rfl).trans (if_pos (by rw [bt_one d (by omega), if_pos hb]; rfl)))
      have e1 : uN ((0 : Int64) ||| ((1 : Int64) <<< ((nI n).toInt64 &&& 63))) = 2 ^ n := by
        rw [uN_or1 (by omega) (show uN 0 % 2 ^ (n + 1) = 0 from Nat.zero_mod _)]
        show 0 + 2 ^ n = 2 ^ n
        omega
      have h2 := pl_A p1 p2 d n (by omega) ((0 : Int64) ||| ((1 : Int64) <<< ((nI n).toInt64 &&& 63))) (by rw [e1]; omega) (by rw [e1]; exact Nat.mod_self _)
      rw [hb] at ht
      have hd : uN d / 2 ^ n % 2 = 1 := of_decide_eq_true ht.symm
      rw [h3, h2, e1, hd]
      exact Or.inr ⟨n, by omega, by omega, by omega⟩
    · have h1 : (uN d).testBit n = false := by
        cases hq : (uN d).testBit n
        · rfl
        · exact absurd hq hb
      have h3 : fl_M_places p1 p2 d (n + 1) 0 (nI n) = fl_M_places p1 p2 d n 0 (nI n + (-1)) :=
        (if_neg (nI_pos (by omega))).trans ((if_pos rfl).trans (if_neg (by rw [bt_one d (by omega), if_neg hb]; decide)))
      rw [h1] at ht
      have hd : ¬ uN d / 2 ^ n % 2 = 1 := of_decide_eq_false ht.symm
      have hd0 : uN d / 2 ^ n % 2 = 0 := by omega
      rw [h3, hd0, Nat.mul_zero, Nat.add_zero]
      exact ih (by omega)
theorem pl_places (a b : Int64) : pl_sp (uN (a ^^^ b)) (uN (f_M_places a b)) := by
  have h := pl_B a b (a ^^^ b) 64 (by omega)
  rw [Nat.mod_eq_of_lt (show uN (a ^^^ b) < 2 ^ 64 from uN_lt _)] at h
  exact h
