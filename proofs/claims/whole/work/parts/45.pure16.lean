/-! bitCount, byte by byte -/
def bM (m : Nat) : Nat → Nat
  | 0 => 0
  | n + 1 => m + 256 * bM m n
theorem bM_1 : bM 85 8 = 6148914691236517205 := by decide
theorem bM_2 : bM 51 8 = 3689348814741910323 := by decide
theorem bM_3 : bM 15 8 = 1085102592571150095 := by decide
theorem b_split {X m n : Nat} (hm : m < 256) : X &&& bM m (n + 1) = (X % 256 &&& m) + 256 * (X / 256 &&& bM m n) := by
  have e1 : (X &&& bM m (n + 1)) % 2 ^ 8 = (X % 256 &&& m) := by
    rw [Nat.and_mod_two_pow]
    show (X % 256 &&& (m + 256 * bM m n) % 256) = _
    rw [show (m + 256 * bM m n) % 256 = m by omega]
  have e2 : (X &&& bM m (n + 1)) / 2 ^ 8 = (X / 256 &&& bM m n) := by
    rw [Nat.and_div_two_pow]
    show (X / 256 &&& (m + 256 * bM m n) / 256) = _
    rw [show (m + 256 * bM m n) / 256 = bM m n by omega]
  omega
def bf1 (a : Nat) : Nat := a - (a / 2 &&& 85)
def bf2 (b : Nat) : Nat := (b &&& 51) + (b / 4 &&& 51)
def bf3 (b : Nat) : Nat := (b + b / 16) % 16
def bg (a : Nat) : Nat := bf3 (bf2 (bf1 a))
theorem bf_a : ∀ a, a < 256 → ∀ t, t < 2 → (a / 2 + 128 * t &&& 85) = (a / 2 &&& 85) := by decide +kernel
theorem bf_b : ∀ b, b < 256 → ∀ t, t < 4 → (b / 4 + 64 * t &&& 51) = (b / 4 &&& 51) := by decide +kernel
theorem bf_2 : ∀ a, a < 256 → bf1 a < 256 ∧ bf2 (bf1 a) % 16 ≤ 4 ∧ bf2 (bf1 a) / 16 ≤ 4 ∧ bf2 (bf1 a) < 256 := by decide +kernel
theorem bg_le : ∀ a, a < 256 → bg a ≤ 8 := by decide +kernel
theorem bg_0 : ∀ a, a < 256 → bg a = 0 → a = 0 := by decide +kernel
theorem bg_1 : ∀ a, a < 256 → bg a = 1 → (a = 1 ∨ a = 2 ∨ a = 4 ∨ a = 8 ∨ a = 16 ∨ a = 32 ∨ a = 64 ∨ a = 128) := by decide +kernel
def bF1 (n V : Nat) : Nat := V - (V / 2 &&& bM 85 n)
def bF2 (n W : Nat) : Nat := (W &&& bM 51 n) + (W / 4 &&& bM 51 n)
def bF3 (n W : Nat) : Nat := (W + W / 16) &&& bM 15 n
theorem bF1_s (n V : Nat) : bF1 (n + 1) V = bf1 (V % 256) + 256 * bF1 n (V / 256) := by
  unfold bF1 bf1
  rw [b_split (by decide)]
  have e1 : V / 2 % 256 = V % 256 / 2 + 128 * (V / 256 % 2) := by omega
  have e2 : V / 2 / 256 = V / 256 / 2 := by omega
  rw [e1, e2, bf_a _ (by omega) _ (by omega)]
  have l1 : (V % 256 / 2 &&& 85) ≤ V % 256 / 2 := Nat.and_le_left
  have l2 : (V / 256 / 2 &&& bM 85 n) ≤ V / 256 / 2 := Nat.and_le_left
  omega
theorem bF2_s {n b W : Nat} (hb : b < 256) : bF2 (n + 1) (b + 256 * W) = bf2 b + 256 * bF2 n W := by
  unfold bF2 bf2
  rw [b_split (by decide), b_split (by decide)]
  have e0 : (b + 256 * W) % 256 = b := by omega
  have e1 : (b + 256 * W) / 256 = W := by omega
  have e2 : (b + 256 * W) / 4 % 256 = b / 4 + 64 * (W % 4) := by omega
  have e3 : (b + 256 * W) / 4 / 256 = W / 4 := by omega
  rw [e0, e1, e2, e3, bf_b _ hb _ (by omega)]
  omega
theorem bF3_s {n b W : Nat} (hb : b < 256) (h1 : b % 16 ≤ 4) (h2 : b / 16 ≤ 4) (h3 : W % 16 ≤ 4) : bF3 (n + 1) (b + 256 * W) = bf3 b + 256 * bF3 n W := by
  unfold bF3 bf3
  rw [b_split (by decide)]
  have e1 : ((b + 256 * W + (b + 256 * W) / 16) % 256 &&& 15) = (b + b / 16) % 16 := by
    rw [show (15 : Nat) = 2 ^ 4 - 1 from rfl, Nat.and_two_pow_sub_one_eq_mod]
    omega
  have e2 : (b + 256 * W + (b + 256 * W) / 16) / 256 = W + W / 16 := by omega
  rw [e1, e2]
def bH (n V : Nat) : Nat := bF3 n (bF2 n (bF1 n V))
theorem bF2_16 : ∀ n V, bF2 n (bF1 n V) % 16 ≤ 4 := by
  intro n V
  cases n with
  | zero =>
    show ((bF1 0 V &&& 0) + (bF1 0 V / 4 &&& 0)) % 16 ≤ 4
    rw [Nat.and_zero, Nat.and_zero]
    decide
  | succ n =>
    obtain ⟨a1, a2, a3, a4⟩ := bf_2 (V % 256) (by omega)
    rw [bF1_s, bF2_s a1]
    omega
theorem bH_s (n V : Nat) : bH (n + 1) V = bg (V % 256) + 256 * bH n (V / 256) := by
  unfold bH bg
  obtain ⟨a1, a2, a3, a4⟩ := bf_2 (V % 256) (by omega)
  rw [bF1_s, bF2_s a1, bF3_s a4 a2 a3 (bF2_16 n _)]
theorem bH_0 (V : Nat) : bH 0 V = 0 := Nat.and_zero _
theorem bF1_le (n V : Nat) : bF1 n V ≤ V := Nat.sub_le _ _
theorem us1 (x : Int64) : uN (x.toUInt64 >>> ((1 : Int32).toInt64.toUInt64 &&& Int64.toUInt64 63)).toInt64 = uN x / 2 ^ 1 := uN_sk x (k := 1) (by decide)
theorem us2 (x : Int64) : uN (x.toUInt64 >>> ((2 : Int32).toInt64.toUInt64 &&& Int64.toUInt64 63)).toInt64 = uN x / 2 ^ 2 := uN_sk x (k := 2) (by decide)
theorem us4 (x : Int64) : uN (x.toUInt64 >>> ((4 : Int32).toInt64.toUInt64 &&& Int64.toUInt64 63)).toInt64 = uN x / 2 ^ 4 := uN_sk x (k := 4) (by decide)
theorem us8 (x : Int64) : uN (x.toUInt64 >>> ((8 : Int32).toInt64.toUInt64 &&& Int64.toUInt64 63)).toInt64 = uN x / 2 ^ 8 := uN_sk x (k := 8) (by decide)
theorem us16 (x : Int64) : uN (x.toUInt64 >>> ((16 : Int32).toInt64.toUInt64 &&& Int64.toUInt64 63)).toInt64 = uN x / 2 ^ 16 := uN_sk x (k := 16) (by decide)
theorem us32 (x : Int64) : uN (x.toUInt64 >>> ((32 : Int32).toInt64.toUInt64 &&& Int64.toUInt64 63)).toInt64 = uN x / 2 ^ 32 := uN_sk x (k := 32) (by decide)
theorem dv8 {a T : Nat} (ha : a < 256) : (a + 256 * T) / 2 ^ 8 = T := by omega
theorem dv16 {a b T : Nat} (ha : a < 256) (hb : b < 256) : (a + 256 * (b + 256 * T)) / 2 ^ 16 = T := by omega
theorem dv32 {a b c d T : Nat} (ha : a < 256) (hb : b < 256) (hc : c < 256) (hd : d < 256) : (a + 256 * (b + 256 * (c + 256 * (d + 256 * T)))) / 2 ^ 32 = T := by omega
theorem md8 {a T : Nat} (ha : a < 256) : (a + 256 * T) % 256 = a := by omega
theorem fin7 {V s : Nat} (h : V % 256 = s) (hs : s ≤ 64) : V % 2 ^ 32 % 2 ^ 7 = s % 2 ^ 32 := by omega
theorem one8 {x0 x1 x2 x3 x4 x5 x6 x7 : Nat} (h : x0 + x1 + x2 + x3 + x4 + x5 + x6 + x7 = 1) : (x0 = 1 ∧ x1 = 0 ∧ x2 = 0 ∧ x3 = 0 ∧ x4 = 0 ∧ x5 = 0 ∧ x6 = 0 ∧ x7 = 0) ∨ (x0 = 0 ∧ x1 = 1 ∧ x2 = 0 ∧ x3 = 0 ∧ x4 = 0 ∧ x5 = 0 ∧ x6 = 0 ∧ x7 = 0) ∨ (x0 = 0 ∧ x1 = 0 ∧ x2 = 1 ∧ x3 = 0 ∧ x4 = 0 ∧ x5 = 0 ∧ x6 = 0 ∧ x7 = 0) ∨ (x0 = 0 ∧ x1 = 0 ∧ x2 = 0 ∧ x3 = 1 ∧ x4 = 0 ∧ x5 = 0 ∧ x6 = 0 ∧ x7 = 0) ∨ (x0 = 0 ∧ x1 = 0 ∧ x2 = 0 ∧ x3 = 0 ∧ x4 = 1 ∧ x5 = 0 ∧ x6 = 0 ∧ x7 = 0) ∨ (x0 = 0 ∧ x1 = 0 ∧ x2 = 0 ∧ x3 = 0 ∧ x4 = 0 ∧ x5 = 1 ∧ x6 = 0 ∧ x7 = 0) ∨ (x0 = 0 ∧ x1 = 0 ∧ x2 = 0 ∧ x3 = 0 ∧ x4 = 0 ∧ x5 = 0 ∧ x6 = 1 ∧ x7 = 0) ∨ (x0 = 0 ∧ x1 = 0 ∧ x2 = 0 ∧ x3 = 0 ∧ x4 = 0 ∧ x5 = 0 ∧ x6 = 0 ∧ x7 = 1) := by
  by_cases q0 : x0 = 1
  · exact Or.inl ⟨by omega, by omega, by omega, by omega, by omega, by omega, by omega, by omega⟩
  by_cases q1 : x1 = 1
  · exact Or.inr (Or.inl ⟨by omega, by omega, by omega, by omega, by omega, by omega, by omega, by omega⟩)
  by_cases q2 : x2 = 1
  · exact Or.inr (Or.inr (Or.inl ⟨by omega, by omega, by omega, by omega, by omega, by omega, by omega, by omega⟩))
  by_cases q3 : x3 = 1
  · exact Or.inr (Or.inr (Or.inr (Or.inl ⟨by omega, by omega, by omega, by omega, by omega, by omega, by omega, by omega⟩)))
  by_cases q4 : x4 = 1
  · exact Or.inr (Or.inr (Or.inr (Or.inr (Or.inl ⟨by omega, by omega, by omega, by omega, by omega, by omega, by omega, by omega⟩))))
  by_cases q5 : x5 = 1
  · exact Or.inr (Or.inr (Or.inr (Or.inr (Or.inr (Or.inl ⟨by omega, by omega, by omega, by omega, by omega, by omega, by omega, by omega⟩)))))
  by_cases q6 : x6 = 1
  · exact Or.inr (Or.inr (Or.inr (Or.inr (Or.inr (Or.inr (Or.inl ⟨by omega, by omega, by omega, by omega, by omega, by omega, by omega, by omega⟩))))))
  exact Or.inr (Or.inr (Or.inr (Or.inr (Or.inr (Or.inr (Or.inr (⟨by omega, by omega, by omega, by omega, by omega, by omega, by omega, by omega⟩)))))))
/-- Long.bitCount is the sum over the bytes -/
theorem bc_sum (v : Int64) : f_JL_bitCount v = nI (bg (uN v % 256) + bg (uN v / 256 % 256) + bg (uN v / 256 / 256 % 256) + bg (uN v / 256 / 256 / 256 % 256) + bg (uN v / 256 / 256 / 256 / 256 % 256) + bg (uN v / 256 / 256 / 256 / 256 / 256 % 256) + bg (uN v / 256 / 256 / 256 / 256 / 256 / 256 % 256) + bg (uN v / 256 / 256 / 256 / 256 / 256 / 256 / 256 % 256)) := by
  unfold f_JL_bitCount
  dsimp only
  have hV := uN_lt v
  have c1 : uN 6148914691236517205 = bM 85 8 := by decide
  have c2 : uN 3689348814741910323 = bM 51 8 := by decide
  have c3 : uN 1085102592571150095 = bM 15 8 := by decide
  have m2 : bM 51 8 = 3689348814741910323 := bM_2
  have m3 : bM 15 8 = 1085102592571150095 := bM_3
  have s1 : uN (v - ((v.toUInt64 >>> ((1 : Int32).toInt64.toUInt64 &&& Int64.toUInt64 63)).toInt64 &&& 6148914691236517205)) = bF1 8 (uN v) := by
    rw [uN_sb, uN_an, us1 v, c1]
    unfold bF1
    have l : (uN v / 2 ^ 1 &&& bM 85 8) ≤ uN v / 2 ^ 1 := Nat.and_le_left
    show _ = uN v - (uN v / 2 ^ 1 &&& bM 85 8)
    generalize (uN v / 2 ^ 1 &&& bM 85 8) = X at l ⊢
    omega
  generalize v - ((v.toUInt64 >>> ((1 : Int32).toInt64.toUInt64 &&& Int64.toUInt64 63)).toInt64 &&& 6148914691236517205) = v1 at s1 ⊢
  have s2 : uN ((v1 &&& 3689348814741910323) + ((v1.toUInt64 >>> ((2 : Int32).toInt64.toUInt64 &&& Int64.toUInt64 63)).toInt64 &&& 3689348814741910323)) = bF2 8 (bF1 8 (uN v)) ∧ bF2 8 (bF1 8 (uN v)) ≤ 7378697629483820646 := by
    rw [uN_add, uN_an, uN_an, us2 v1, c2, s1]
    unfold bF2
    have l1 : (bF1 8 (uN v) &&& bM 51 8) ≤ bM 51 8 := Nat.and_le_right
    have l2 : (bF1 8 (uN v) / 2 ^ 2 &&& bM 51 8) ≤ bM 51 8 := Nat.and_le_right
    have l3 : (bF1 8 (uN v) / 4 &&& bM 51 8) = (bF1 8 (uN v) / 2 ^ 2 &&& bM 51 8) := rfl
    rw [l3]
    generalize (bF1 8 (uN v) / 2 ^ 2 &&& bM 51 8) = X at l2 ⊢
    generalize (bF1 8 (uN v) &&& bM 51 8) = Y at l1 ⊢
    omega
  obtain ⟨s2, b2⟩ := s2
  generalize (v1 &&& 3689348814741910323) + ((v1.toUInt64 >>> ((2 : Int32).toInt64.toUInt64 &&& Int64.toUInt64 63)).toInt64 &&& 3689348814741910323) = v2 at s2 ⊢
  have s3 : uN ((v2 + (v2.toUInt64 >>> ((4 : Int32).toInt64.toUInt64 &&& Int64.toUInt64 63)).toInt64) &&& 1085102592571150095) = bH 8 (uN v) := by
    rw [uN_an, uN_add, us4 v2, c3, s2]
    unfold bH bF3
    rw [Nat.mod_eq_of_lt (by omega)]
  generalize (v2 + (v2.toUInt64 >>> ((4 : Int32).toInt64.toUInt64 &&& Int64.toUInt64 63)).toInt64) &&& 1085102592571150095 = v3 at s3 ⊢
  rw [bH_s, bH_s, bH_s, bH_s, bH_s, bH_s, bH_s, bH_s, bH_0] at s3
  have g0 := bg_le (uN v % 256) (by omega)
  have g1 := bg_le (uN v / 256 % 256) (by omega)
  have g2 := bg_le (uN v / 256 / 256 % 256) (by omega)
  have g3 := bg_le (uN v / 256 / 256 / 256 % 256) (by omega)
  have g4 := bg_le (uN v / 256 / 256 / 256 / 256 % 256) (by omega)
  have g5 := bg_le (uN v / 256 / 256 / 256 / 256 / 256 % 256) (by omega)
  have g6 := bg_le (uN v / 256 / 256 / 256 / 256 / 256 / 256 % 256) (by omega)
  have g7 := bg_le (uN v / 256 / 256 / 256 / 256 / 256 / 256 / 256 % 256) (by omega)
  generalize bg (uN v % 256) = x0 at *
  generalize bg (uN v / 256 % 256) = x1 at *
  generalize bg (uN v / 256 / 256 % 256) = x2 at *
  generalize bg (uN v / 256 / 256 / 256 % 256) = x3 at *
  generalize bg (uN v / 256 / 256 / 256 / 256 % 256) = x4 at *
  generalize bg (uN v / 256 / 256 / 256 / 256 / 256 % 256) = x5 at *
  generalize bg (uN v / 256 / 256 / 256 / 256 / 256 / 256 % 256) = x6 at *
  generalize bg (uN v / 256 / 256 / 256 / 256 / 256 / 256 / 256 % 256) = x7 at *
  have s4 : uN (v3 + (v3.toUInt64 >>> ((8 : Int32).toInt64.toUInt64 &&& Int64.toUInt64 63)).toInt64) = (x0 + x1) + 256 * ((x1 + x2) + 256 * ((x2 + x3) + 256 * ((x3 + x4) + 256 * ((x4 + x5) + 256 * ((x5 + x6) + 256 * ((x6 + x7) + 256 * x7)))))) := by
    rw [uN_add, us8 v3, s3, dv8 (by omega)]
    omega
  generalize v3 + (v3.toUInt64 >>> ((8 : Int32).toInt64.toUInt64 &&& Int64.toUInt64 63)).toInt64 = v4 at s4 ⊢
  have s5 : uN (v4 + (v4.toUInt64 >>> ((16 : Int32).toInt64.toUInt64 &&& Int64.toUInt64 63)).toInt64) = (x0 + x1 + x2 + x3) + 256 * ((x1 + x2 + x3 + x4) + 256 * ((x2 + x3 + x4 + x5) + 256 * ((x3 + x4 + x5 + x6) + 256 * ((x4 + x5 + x6 + x7) + 256 * ((x5 + x6 + x7) + 256 * ((x6 + x7) + 256 * x7)))))) := by
    rw [uN_add, us16 v4, s4, dv16 (by omega) (by omega)]
    omega
  generalize v4 + (v4.toUInt64 >>> ((16 : Int32).toInt64.toUInt64 &&& Int64.toUInt64 63)).toInt64 = v5 at s5 ⊢
  have s6 : uN (v5 + (v5.toUInt64 >>> ((32 : Int32).toInt64.toUInt64 &&& Int64.toUInt64 63)).toInt64) % 256 = x0 + x1 + x2 + x3 + x4 + x5 + x6 + x7 := by
    rw [uN_add, us32 v5, s5, dv32 (by omega) (by omega) (by omega) (by omega)]
    clear s1 s2 b2 s3 s4 c1 c2 c3 m2 m3 hV
    omega
  generalize v5 + (v5.toUInt64 >>> ((32 : Int32).toInt64.toUInt64 &&& Int64.toUInt64 63)).toInt64 = v6 at s6 ⊢
  rw [jl_lo]
  apply Int32.toBitVec_inj.mp
  apply BitVec.eq_of_toNat_eq
  rw [Int32.toBitVec_and, BitVec.toNat_and]
  show ((BitVec.ofNat 32 (uN v6)).toNat &&& 127) = (BitVec.ofNat 32 _).toNat
  rw [BitVec.toNat_ofNat, BitVec.toNat_ofNat, show (127 : Nat) = 2 ^ 7 - 1 from rfl, Nat.and_two_pow_sub_one_eq_mod]
  exact fin7 s6 (by omega)
theorem pw_one : ∀ z, z < 64 → f_JL_bitCount (lN (2 ^ z)) = 1 ∧ ¬ f_M_isOne (lN (2 ^ z)) = 0 := by decide +kernel
theorem bc_pow {v : Int64} (h : f_JL_bitCount v = 1) : ∃ z, z < 64 ∧ uN v = 2 ^ z := by
  rw [bc_sum] at h
  have hV := uN_lt v
  have d0 : uN v % 256 < 256 := by omega
  have d1 : uN v / 256 % 256 < 256 := by omega
  have d2 : uN v / 256 / 256 % 256 < 256 := by omega
  have d3 : uN v / 256 / 256 / 256 % 256 < 256 := by omega
  have d4 : uN v / 256 / 256 / 256 / 256 % 256 < 256 := by omega
  have d5 : uN v / 256 / 256 / 256 / 256 / 256 % 256 < 256 := by omega
  have d6 : uN v / 256 / 256 / 256 / 256 / 256 / 256 % 256 < 256 := by omega
  have d7 : uN v / 256 / 256 / 256 / 256 / 256 / 256 / 256 % 256 < 256 := by omega
  have e : uN v = uN v % 256 + 256 * (uN v / 256 % 256 + 256 * (uN v / 256 / 256 % 256 + 256 * (uN v / 256 / 256 / 256 % 256 + 256 * (uN v / 256 / 256 / 256 / 256 % 256 + 256 * (uN v / 256 / 256 / 256 / 256 / 256 % 256 + 256 * (uN v / 256 / 256 / 256 / 256 / 256 / 256 % 256 + 256 * (uN v / 256 / 256 / 256 / 256 / 256 / 256 / 256 % 256))))))) := by omega
  have g0 := bg_le _ d0
  have g1 := bg_le _ d1
  have g2 := bg_le _ d2
  have g3 := bg_le _ d3
  have g4 := bg_le _ d4
  have g5 := bg_le _ d5
  have g6 := bg_le _ d6
  have g7 := bg_le _ d7
  have hs : bg (uN v % 256) + bg (uN v / 256 % 256) + bg (uN v / 256 / 256 % 256) + bg (uN v / 256 / 256 / 256 % 256) + bg (uN v / 256 / 256 / 256 / 256 % 256) + bg (uN v / 256 / 256 / 256 / 256 / 256 % 256) + bg (uN v / 256 / 256 / 256 / 256 / 256 / 256 % 256) + bg (uN v / 256 / 256 / 256 / 256 / 256 / 256 / 256 % 256) = 1 := (nI_eq (by omega) (by decide)).mp (show nI _ = nI 1 from h)
  have z0 := bg_0 _ d0
  have z1 := bg_0 _ d1
  have z2 := bg_0 _ d2
  have z3 := bg_0 _ d3
  have z4 := bg_0 _ d4
  have z5 := bg_0 _ d5
  have z6 := bg_0 _ d6
  have z7 := bg_0 _ d7
  have o0 := bg_1 _ d0
  have o1 := bg_1 _ d1
  have o2 := bg_1 _ d2
  have o3 := bg_1 _ d3
  have o4 := bg_1 _ d4
  have o5 := bg_1 _ d5
  have o6 := bg_1 _ d6
  have o7 := bg_1 _ d7
  generalize uN v / 256 / 256 / 256 / 256 / 256 / 256 / 256 % 256 = b7 at *
  generalize uN v / 256 / 256 / 256 / 256 / 256 / 256 % 256 = b6 at *
  generalize uN v / 256 / 256 / 256 / 256 / 256 % 256 = b5 at *
  generalize uN v / 256 / 256 / 256 / 256 % 256 = b4 at *
  generalize uN v / 256 / 256 / 256 % 256 = b3 at *
  generalize uN v / 256 / 256 % 256 = b2 at *
  generalize uN v / 256 % 256 = b1 at *
  generalize uN v % 256 = b0 at *
  have cs := one8 hs
  rcases cs with ⟨k0, k1, k2, k3, k4, k5, k6, k7⟩ | ⟨k0, k1, k2, k3, k4, k5, k6, k7⟩ | ⟨k0, k1, k2, k3, k4, k5, k6, k7⟩ | ⟨k0, k1, k2, k3, k4, k5, k6, k7⟩ | ⟨k0, k1, k2, k3, k4, k5, k6, k7⟩ | ⟨k0, k1, k2, k3, k4, k5, k6, k7⟩ | ⟨k0, k1, k2, k3, k4, k5, k6, k7⟩ | ⟨k0, k1, k2, k3, k4, k5, k6, k7⟩
  · have q1 := z1 k1; have q2 := z2 k2; have q3 := z3 k3; have q4 := z4 k4; have q5 := z5 k5; have q6 := z6 k6; have q7 := z7 k7
    rcases o0 k0 with q | q | q | q | q | q | q | q
    · exact ⟨0, by decide, by omega⟩
    · exact ⟨1, by decide, by omega⟩
    · exact ⟨2, by decide, by omega⟩
    · exact ⟨3, by decide, by omega⟩
    · exact ⟨4, by decide, by omega⟩
    · exact ⟨5, by decide, by omega⟩
    · exact ⟨6, by decide, by omega⟩
    · exact ⟨7, by decide, by omega⟩
  · have q0 := z0 k0; have q2 := z2 k2; have q3 := z3 k3; have q4 := z4 k4; have q5 := z5 k5; have q6 := z6 k6; have q7 := z7 k7
    rcases o1 k1 with q | q | q | q | q | q | q | q
    · exact ⟨8, by decide, by omega⟩
    · exact ⟨9, by decide, by omega⟩
    · exact ⟨10, by decide, by omega⟩
    · exact ⟨11, by decide, by omega⟩
    · exact ⟨12, by decide, by omega⟩
    · exact ⟨13, by decide, by omega⟩
    · exact ⟨14, by decide, by omega⟩
    · exact ⟨15, by decide, by omega⟩
  · have q0 := z0 k0; have q1 := z1 k1; have q3 := z3 k3; have q4 := z4 k4; have q5 := z5 k5; have q6 := z6 k6; have q7 := z7 k7
    rcases o2 k2 with q | q | q | q | q | q | q | q
    · exact ⟨16, by decide, by omega⟩
    · exact ⟨17, by decide, by omega⟩
    · exact ⟨18, by decide, by omega⟩
    · exact ⟨19, by decide, by omega⟩
    · exact ⟨20, by decide, by omega⟩
    · exact ⟨21, by decide, by omega⟩
    · exact ⟨22, by decide, by omega⟩
    · exact ⟨23, by decide, by omega⟩
  · have q0 := z0 k0; have q1 := z1 k1; have q2 := z2 k2; have q4 := z4 k4; have q5 := z5 k5; have q6 := z6 k6; have q7 := z7 k7
    rcases o3 k3 with q | q | q | q | q | q | q | q
    · exact ⟨24, by decide, by omega⟩
    · exact ⟨25, by decide, by omega⟩
    · exact ⟨26, by decide, by omega⟩
    · exact ⟨27, by decide, by omega⟩
    · exact ⟨28, by decide, by omega⟩
    · exact ⟨29, by decide, by omega⟩
    · exact ⟨30, by decide, by omega⟩
    · exact ⟨31, by decide, by omega⟩
  · have q0 := z0 k0; have q1 := z1 k1; have q2 := z2 k2; have q3 := z3 k3; have q5 := z5 k5; have q6 := z6 k6; have q7 := z7 k7
    rcases o4 k4 with q | q | q | q | q | q | q | q
    · exact ⟨32, by decide, by omega⟩
    · exact ⟨33, by decide, by omega⟩
    · exact ⟨34, by decide, by omega⟩
    · exact ⟨35, by decide, by omega⟩
    · exact ⟨36, by decide, by omega⟩
    · exact ⟨37, by decide, by omega⟩
    · exact ⟨38, by decide, by omega⟩
    · exact ⟨39, by decide, by omega⟩
  · have q0 := z0 k0; have q1 := z1 k1; have q2 := z2 k2; have q3 := z3 k3; have q4 := z4 k4; have q6 := z6 k6; have q7 := z7 k7
    rcases o5 k5 with q | q | q | q | q | q | q | q
    · exact ⟨40, by decide, by omega⟩
    · exact ⟨41, by decide, by omega⟩
    · exact ⟨42, by decide, by omega⟩
    · exact ⟨43, by decide, by omega⟩
    · exact ⟨44, by decide, by omega⟩
    · exact ⟨45, by decide, by omega⟩
    · exact ⟨46, by decide, by omega⟩
    · exact ⟨47, by decide, by omega⟩
  · have q0 := z0 k0; have q1 := z1 k1; have q2 := z2 k2; have q3 := z3 k3; have q4 := z4 k4; have q5 := z5 k5; have q7 := z7 k7
    rcases o6 k6 with q | q | q | q | q | q | q | q
    · exact ⟨48, by decide, by omega⟩
    · exact ⟨49, by decide, by omega⟩
    · exact ⟨50, by decide, by omega⟩
    · exact ⟨51, by decide, by omega⟩
    · exact ⟨52, by decide, by omega⟩
    · exact ⟨53, by decide, by omega⟩
    · exact ⟨54, by decide, by omega⟩
    · exact ⟨55, by decide, by omega⟩
  · have q0 := z0 k0; have q1 := z1 k1; have q2 := z2 k2; have q3 := z3 k3; have q4 := z4 k4; have q5 := z5 k5; have q6 := z6 k6
    rcases o7 k7 with q | q | q | q | q | q | q | q
    · exact ⟨56, by decide, by omega⟩
    · exact ⟨57, by decide, by omega⟩
    · exact ⟨58, by decide, by omega⟩
    · exact ⟨59, by decide, by omega⟩
    · exact ⟨60, by decide, by omega⟩
    · exact ⟨61, by decide, by omega⟩
    · exact ⟨62, by decide, by omega⟩
    · exact ⟨63, by decide, by omega⟩
theorem one_pow {v : Int64} (h : ¬ f_M_isOne v = 0) : ∃ z, z < 64 ∧ uN v = 2 ^ z := by
  unfold f_M_isOne at h
  split at h
  · exact absurd rfl h
  · rename_i h0
    split at h
    · rename_i h1
      have hz : v &&& (v - 1) = 0 := (lg_cmp_eq _ _).mp h1
      have hv0 : uN v ≠ 0 := fun q => h0 ((lg_cmp_eq _ _).mpr (uN_inj (show uN v = uN 0 from q)))
      obtain ⟨z, a1, a2, a3, a4⟩ := zr_loop (fun _ => v, fun _ => 0, fun _ => 0, fun _ => 0, fun _ => 0, fun _ => 0) 0 (V := uN v) (by rw [uN_rr]; exact Nat.or_zero _) 64 0 rfl (fun j hj => by omega)
      have hV := uN_lt v
      have hz64 : z < 64 := by
        rcases Nat.lt_or_ge z 64 with q | q
        · exact q
        · refine absurd (Nat.eq_of_testBit_eq fun j => ?_) hv0
          rw [Nat.zero_testBit]
          by_cases hj : j < z
          · exact a3 j hj
          · exact tb_big v (by omega)
      refine ⟨z, hz64, ?_⟩
      obtain ⟨q, ef⟩ : ∃ q, uN v = 2 ^ (z + 1) * q + 2 ^ z := ⟨_, low_form a3 (a4 hz64)⟩
      have hp : 0 < 2 ^ z := Nat.two_pow_pos z
      have hs : 2 ^ (z + 1) = 2 * 2 ^ z := by rw [Nat.pow_succ, Nat.mul_comm]
      have e1 : uN (v - 1) = 2 ^ (z + 1) * q + (2 ^ z - 1) := by
        rw [uN_sb]
        show (18446744073709551616 - 1 + uN v) % 18446744073709551616 = _
        omega
      have e2 : (uN v &&& uN (v - 1)) = 0 := by
        rw [← uN_an, hz]
        rfl
      have hq : q = 0 := by
        apply Nat.eq_of_testBit_eq
        intro j
        have t : ((uN v &&& uN (v - 1))).testBit (z + 1 + j) = (0 : Nat).testBit (z + 1 + j) := by rw [e2]
        rw [Nat.testBit_and, e1, ef, Nat.testBit_two_pow_mul_add _ (show 2 ^ z < 2 ^ (z + 1) by omega), Nat.testBit_two_pow_mul_add _ (show 2 ^ z - 1 < 2 ^ (z + 1) by omega), if_neg (by omega), if_neg (by omega), Nat.add_sub_cancel_left, Bool.and_self, Nat.zero_testBit] at t
        rw [t, Nat.zero_testBit]
      rw [ef, hq, Nat.mul_zero, Nat.zero_add]
    · exact absurd rfl h
theorem ml_isOne (v : Int64) : f_JL_bitCount v = 1 ↔ ¬ f_M_isOne v = 0 := by
  constructor
  · intro h
    obtain ⟨z, hz, e⟩ := bc_pow h
    have ev : v = lN (2 ^ z) := by rw [uN_of v, e]
    rw [ev]
    exact (pw_one z hz).2
  · intro h
    obtain ⟨z, hz, e⟩ := one_pow h
    have ev : v = lN (2 ^ z) := by rw [uN_of v, e]
    rw [ev]
    exact (pw_one z hz).1
