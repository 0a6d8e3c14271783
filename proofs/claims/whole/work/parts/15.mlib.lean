/-! the reference's state: six arrays of nineteen longs -/
abbrev Md : Type := (Nat → Int64) × (Nat → Int64) × (Nat → Int64) × (Nat → Int64) × (Nat → Int64) × (Nat → Int64)
theorem sp_dn0 {x : Int32} (hf : x.toInt + 1 ≤ ((0 : Nat) : Int)) : x < 0 := by
  rw [Int32.lt_iff_toInt_lt]
  have e0 : (0 : Int32).toInt = 0 := by decide
  omega
theorem sp_dn {x : Int32} {n : Nat} (h : ¬ x < 0) (hf : x.toInt + 1 ≤ ((n + 1 : Nat) : Int)) : (x + (-1)).toInt + 1 ≤ (n : Int) := by
  obtain ⟨j, hj, rfl⟩ := nI_of h
  rw [nI_toInt hj] at hf
  cases j with
  | zero =>
    have e : (nI 0 + (-1)).toInt = -1 := by decide
    omega
  | succ j =>
    have e : nI (j + 1) + (-1) = nI j := (Int32.sub_eq_add_neg _ _).symm.trans (nI_pred j)
    rw [e, nI_toInt (by omega)]
    omega
theorem sp_up0 {x b : Int32} (hf : b.toInt ≤ x.toInt + ((0 : Nat) : Int)) : b ≤ x := by
  rw [Int32.le_iff_toInt_le]
  omega
theorem sp_up {x b : Int32} {n : Nat} (h : ¬ b ≤ x) (hf : b.toInt ≤ x.toInt + ((n + 1 : Nat) : Int)) : b.toInt ≤ (x + 1).toInt + (n : Int) := by
  rw [Int32.le_iff_toInt_le] at h
  have h1 := Int32.toInt_lt b
  have h2 := Int32.le_toInt x
  have e1 : (1 : Int32).toInt = 1 := by decide
  have e : (x + 1).toInt = x.toInt + 1 := by
    rw [Int32.toInt_add, e1]
    exact Int.bmod_eq_of_le (by omega) (by omega)
  omega
theorem sp_fst {α β : Type} {a : α × β} {x : α} {y : β} (h : a = (x, y)) : a.1 = x := by
  subst h
  rfl
theorem sp_snd {α β : Type} {a : α × β} {x : α} {y : β} (h : a = (x, y)) : a.2 = y := by
  subst h
  rfl
