theorem uN_a63 (x : Int64) : uN (x &&& 63) = uN x % 64 := by
  show (x.toUInt64 &&& Int64.toUInt64 63).toNat = _
  rw [UInt64.toNat_and]
  exact Nat.and_two_pow_sub_one_eq_mod _ 6
theorem uN_a31 (x : Int64) : uN (x &&& 31) = uN x % 32 := by
  show (x.toUInt64 &&& Int64.toUInt64 31).toNat = _
  rw [UInt64.toNat_and]
  exact Nat.and_two_pow_sub_one_eq_mod _ 5
theorem sh63 (x : Int64) : ∃ k, k < 64 ∧ (x &&& 63).toInt32 = nI k := ⟨uN x % 64, Nat.mod_lt _ (by decide), by rw [jl_lo, uN_a63]⟩
theorem sh31 (x : Int64) : ∃ k, k < 64 ∧ (x &&& 31).toInt32 = nI k := ⟨uN x % 32, by omega, by rw [jl_lo, uN_a31]⟩
section DOES2
variable {st : Md}
theorem do_8 {s : Int32} (hs : ∃ k, k < 64 ∧ s = nI k) : op_ok st (f_M_shift (f_M_setAny st 18) 8 s) (f_X2_shiftLeft (md_at st 16) (md_at st 17) nAN s) := by
  obtain ⟨k, hk, rfl⟩ := hs
  rw [sa_eq, ml_shl _ hk, sa_16, sa_17, sa_18]
  exact op_set' (fun k hk => sa_k hk)
theorem do_9 {s : Int32} : op_ok st (f_M_shift (f_M_setAny st 18) 9 s) (f_X2_shiftRight (md_at st 16) (md_at st 17) nAN s) := by
  rw [sa_eq, ml_shr, sa_16, sa_17, sa_18]
  exact op_set' (fun k hk => sa_k hk)
theorem do_10 {s : Int32} : op_ok st (f_M_shift (f_M_setAny st 18) 10 s) (f_X2_shiftRightSigned (md_at st 16) (md_at st 17) nAN s) := by
  rw [sa_eq, ml_sar _ (by decide) (by decide), sa_16, sa_17, sa_18]
  exact op_set' (fun k hk => sa_k hk)
theorem sa_v : (f_M_setAny st 18).1 (17 : Int32).toNatClampNeg = (md_at st 17).1 := by
  rw [sa_eq, i17]
  show vp_updL st.1 18 nAN.1 17 = _
  rw [vp_upd_ne _ _ (by decide)]
  rfl
theorem sa_g : (f_M_setAny st 18).2.2.2.1 (16 : Int32).toNatClampNeg = (md_at st 16).2.2.2.1 := by
  rw [sa_eq, i16]
  show vp_updL st.2.2.2.1 18 nAN.2.2.2.1 16 = _
  rw [vp_upd_ne _ _ (by decide)]
  rfl
theorem sa_x : f_M_isExact (f_M_setAny st 18) 17 = f_X1_isExact (md_at st 17) := by rw [ml_isExact, i17, sa_eq, sa_17]
def do_ok (st S : Md) (r : Nm) : Prop := (∀ k, k < 16 → md_at S k = md_at st k) ∧ md_at S 18 = x_fin r
theorem dd_0 {nr : Int32} : do_ok st (f_M_does st 0 nr) (x_op (md_at st 16) (md_at st 17) 0 nr) := by
  have e1 : f_M_does st 0 nr = m_fin (f_M_add (f_M_setAny st 18)) := (if_neg (show ¬ (0 : Int32) = 11 by decide)).trans ((if_pos rfl).trans (rfl))
  have ea : f_X2_apply (md_at st 16) (md_at st 17) nAN 0 = ((md_at st 16), (md_at st 17), f_X2_add (md_at st 16) (md_at st 17) nAN) := (if_pos rfl).trans (rfl)
  have e2 : x_op (md_at st 16) (md_at st 17) 0 nr = f_X2_add (md_at st 16) (md_at st 17) nAN := (if_neg (show ¬ (0 : Int32) = 8 by decide)).trans ((if_neg (show ¬ (0 : Int32) = 9 by decide)).trans ((if_neg (show ¬ (0 : Int32) = 10 by decide)).trans (sp_snd (sp_snd ea))))
  rw [e1, e2]
  exact op_fin do_0
theorem dd_1 {nr : Int32} : do_ok st (f_M_does st 1 nr) (x_op (md_at st 16) (md_at st 17) 1 nr) := by
  have e1 : f_M_does st 1 nr = m_fin (f_M_subtract (f_M_setAny st 18)) := (if_neg (show ¬ (1 : Int32) = 11 by decide)).trans ((if_neg (show ¬ (1 : Int32) = 0 by decide)).trans ((if_pos rfl).trans (rfl)))
  have ea : f_X2_apply (md_at st 16) (md_at st 17) nAN 1 = ((md_at st 16), (md_at st 17), f_X2_subtract (md_at st 16) (md_at st 17) nAN) := (if_neg (show ¬ (1 : Int32) = 0 by decide)).trans ((if_pos rfl).trans (rfl))
  have e2 : x_op (md_at st 16) (md_at st 17) 1 nr = f_X2_subtract (md_at st 16) (md_at st 17) nAN := (if_neg (show ¬ (1 : Int32) = 8 by decide)).trans ((if_neg (show ¬ (1 : Int32) = 9 by decide)).trans ((if_neg (show ¬ (1 : Int32) = 10 by decide)).trans (sp_snd (sp_snd ea))))
  rw [e1, e2]
  exact op_fin do_1
theorem dd_2 {nr : Int32} : do_ok st (f_M_does st 2 nr) (x_op (md_at st 16) (md_at st 17) 2 nr) := by
  have e1 : f_M_does st 2 nr = m_fin (f_M_multiply (f_M_setAny st 18)) := (if_neg (show ¬ (2 : Int32) = 11 by decide)).trans ((if_neg (show ¬ (2 : Int32) = 0 by decide)).trans ((if_neg (show ¬ (2 : Int32) = 1 by decide)).trans ((if_pos rfl).trans (rfl))))
  have ea : f_X2_apply (md_at st 16) (md_at st 17) nAN 2 = ((md_at st 16), (md_at st 17), f_X2_multiply (md_at st 16) (md_at st 17) nAN) := (if_neg (show ¬ (2 : Int32) = 0 by decide)).trans ((if_neg (show ¬ (2 : Int32) = 1 by decide)).trans ((if_pos rfl).trans (rfl)))
  have e2 : x_op (md_at st 16) (md_at st 17) 2 nr = f_X2_multiply (md_at st 16) (md_at st 17) nAN := (if_neg (show ¬ (2 : Int32) = 8 by decide)).trans ((if_neg (show ¬ (2 : Int32) = 9 by decide)).trans ((if_neg (show ¬ (2 : Int32) = 10 by decide)).trans (sp_snd (sp_snd ea))))
  rw [e1, e2]
  exact op_fin do_2
theorem dd_3 {nr : Int32} : do_ok st (f_M_does st 3 nr) (x_op (md_at st 16) (md_at st 17) 3 nr) := by
  have e1 : f_M_does st 3 nr = m_fin (f_M_divide (f_M_setAny st 18)) := (if_neg (show ¬ (3 : Int32) = 11 by decide)).trans ((if_neg (show ¬ (3 : Int32) = 0 by decide)).trans ((if_neg (show ¬ (3 : Int32) = 1 by decide)).trans ((if_neg (show ¬ (3 : Int32) = 2 by decide)).trans ((if_pos rfl).trans (rfl)))))
  have ea : f_X2_apply (md_at st 16) (md_at st 17) nAN 3 = ((md_at st 16), (md_at st 17), f_X2_divide (md_at st 16) (md_at st 17) nAN) := (if_neg (show ¬ (3 : Int32) = 0 by decide)).trans ((if_neg (show ¬ (3 : Int32) = 1 by decide)).trans ((if_neg (show ¬ (3 : Int32) = 2 by decide)).trans ((if_pos rfl).trans (rfl))))
  have e2 : x_op (md_at st 16) (md_at st 17) 3 nr = f_X2_divide (md_at st 16) (md_at st 17) nAN := (if_neg (show ¬ (3 : Int32) = 8 by decide)).trans ((if_neg (show ¬ (3 : Int32) = 9 by decide)).trans ((if_neg (show ¬ (3 : Int32) = 10 by decide)).trans (sp_snd (sp_snd ea))))
  rw [e1, e2]
  exact op_fin do_3
theorem dd_4 {nr : Int32} : do_ok st (f_M_does st 4 nr) (x_op (md_at st 16) (md_at st 17) 4 nr) := by
  have e1 : f_M_does st 4 nr = m_fin (f_M_rest (f_M_setAny st 18)) := (if_neg (show ¬ (4 : Int32) = 11 by decide)).trans ((if_neg (show ¬ (4 : Int32) = 0 by decide)).trans ((if_neg (show ¬ (4 : Int32) = 1 by decide)).trans ((if_neg (show ¬ (4 : Int32) = 2 by decide)).trans ((if_neg (show ¬ (4 : Int32) = 3 by decide)).trans ((if_pos rfl).trans (rfl))))))
  have ea : f_X2_apply (md_at st 16) (md_at st 17) nAN 4 = ((md_at st 16), (md_at st 17), f_X2_rest (md_at st 16) (md_at st 17) nAN) := (if_neg (show ¬ (4 : Int32) = 0 by decide)).trans ((if_neg (show ¬ (4 : Int32) = 1 by decide)).trans ((if_neg (show ¬ (4 : Int32) = 2 by decide)).trans ((if_neg (show ¬ (4 : Int32) = 3 by decide)).trans ((if_pos rfl).trans (rfl)))))
  have e2 : x_op (md_at st 16) (md_at st 17) 4 nr = f_X2_rest (md_at st 16) (md_at st 17) nAN := (if_neg (show ¬ (4 : Int32) = 8 by decide)).trans ((if_neg (show ¬ (4 : Int32) = 9 by decide)).trans ((if_neg (show ¬ (4 : Int32) = 10 by decide)).trans (sp_snd (sp_snd ea))))
  rw [e1, e2]
  exact op_fin do_4
theorem dd_5 {nr : Int32} : do_ok st (f_M_does st 5 nr) (x_op (md_at st 16) (md_at st 17) 5 nr) := by
  have e1 : f_M_does st 5 nr = m_fin (f_M_logic (f_M_setAny st 18) 5) := (if_neg (show ¬ (5 : Int32) = 11 by decide)).trans ((if_neg (show ¬ (5 : Int32) = 0 by decide)).trans ((if_neg (show ¬ (5 : Int32) = 1 by decide)).trans ((if_neg (show ¬ (5 : Int32) = 2 by decide)).trans ((if_neg (show ¬ (5 : Int32) = 3 by decide)).trans ((if_neg (show ¬ (5 : Int32) = 4 by decide)).trans ((if_neg (show ¬ (8 : Int32) ≤ 5 by decide)).trans (rfl)))))))
  have ea : f_X2_apply (md_at st 16) (md_at st 17) nAN 5 = ((md_at st 16), (md_at st 17), f_X2_and (md_at st 16) (md_at st 17) nAN) := (if_neg (show ¬ (5 : Int32) = 0 by decide)).trans ((if_neg (show ¬ (5 : Int32) = 1 by decide)).trans ((if_neg (show ¬ (5 : Int32) = 2 by decide)).trans ((if_neg (show ¬ (5 : Int32) = 3 by decide)).trans ((if_neg (show ¬ (5 : Int32) = 4 by decide)).trans ((if_pos rfl).trans (rfl))))))
  have e2 : x_op (md_at st 16) (md_at st 17) 5 nr = f_X2_and (md_at st 16) (md_at st 17) nAN := (if_neg (show ¬ (5 : Int32) = 8 by decide)).trans ((if_neg (show ¬ (5 : Int32) = 9 by decide)).trans ((if_neg (show ¬ (5 : Int32) = 10 by decide)).trans (sp_snd (sp_snd ea))))
  rw [e1, e2]
  exact op_fin do_5
theorem dd_6 {nr : Int32} : do_ok st (f_M_does st 6 nr) (x_op (md_at st 16) (md_at st 17) 6 nr) := by
  have e1 : f_M_does st 6 nr = m_fin (f_M_logic (f_M_setAny st 18) 6) := (if_neg (show ¬ (6 : Int32) = 11 by decide)).trans ((if_neg (show ¬ (6 : Int32) = 0 by decide)).trans ((if_neg (show ¬ (6 : Int32) = 1 by decide)).trans ((if_neg (show ¬ (6 : Int32) = 2 by decide)).trans ((if_neg (show ¬ (6 : Int32) = 3 by decide)).trans ((if_neg (show ¬ (6 : Int32) = 4 by decide)).trans ((if_neg (show ¬ (8 : Int32) ≤ 6 by decide)).trans (rfl)))))))
  have ea : f_X2_apply (md_at st 16) (md_at st 17) nAN 6 = ((md_at st 16), (md_at st 17), f_X2_or (md_at st 16) (md_at st 17) nAN) := (if_neg (show ¬ (6 : Int32) = 0 by decide)).trans ((if_neg (show ¬ (6 : Int32) = 1 by decide)).trans ((if_neg (show ¬ (6 : Int32) = 2 by decide)).trans ((if_neg (show ¬ (6 : Int32) = 3 by decide)).trans ((if_neg (show ¬ (6 : Int32) = 4 by decide)).trans ((if_neg (show ¬ (6 : Int32) = 5 by decide)).trans ((if_pos rfl).trans (rfl)))))))
  have e2 : x_op (md_at st 16) (md_at st 17) 6 nr = f_X2_or (md_at st 16) (md_at st 17) nAN := (if_neg (show ¬ (6 : Int32) = 8 by decide)).trans ((if_neg (show ¬ (6 : Int32) = 9 by decide)).trans ((if_neg (show ¬ (6 : Int32) = 10 by decide)).trans (sp_snd (sp_snd ea))))
  rw [e1, e2]
  exact op_fin do_6
theorem dd_7 {nr : Int32} : do_ok st (f_M_does st 7 nr) (x_op (md_at st 16) (md_at st 17) 7 nr) := by
  have e1 : f_M_does st 7 nr = m_fin (f_M_logic (f_M_setAny st 18) 7) := (if_neg (show ¬ (7 : Int32) = 11 by decide)).trans ((if_neg (show ¬ (7 : Int32) = 0 by decide)).trans ((if_neg (show ¬ (7 : Int32) = 1 by decide)).trans ((if_neg (show ¬ (7 : Int32) = 2 by decide)).trans ((if_neg (show ¬ (7 : Int32) = 3 by decide)).trans ((if_neg (show ¬ (7 : Int32) = 4 by decide)).trans ((if_neg (show ¬ (8 : Int32) ≤ 7 by decide)).trans (rfl)))))))
  have ea : f_X2_apply (md_at st 16) (md_at st 17) nAN 7 = ((md_at st 16), (md_at st 17), f_X2_xor (md_at st 16) (md_at st 17) nAN) := (if_neg (show ¬ (7 : Int32) = 0 by decide)).trans ((if_neg (show ¬ (7 : Int32) = 1 by decide)).trans ((if_neg (show ¬ (7 : Int32) = 2 by decide)).trans ((if_neg (show ¬ (7 : Int32) = 3 by decide)).trans ((if_neg (show ¬ (7 : Int32) = 4 by decide)).trans ((if_neg (show ¬ (7 : Int32) = 5 by decide)).trans ((if_neg (show ¬ (7 : Int32) = 6 by decide)).trans ((if_pos rfl).trans (rfl))))))))
  have e2 : x_op (md_at st 16) (md_at st 17) 7 nr = f_X2_xor (md_at st 16) (md_at st 17) nAN := (if_neg (show ¬ (7 : Int32) = 8 by decide)).trans ((if_neg (show ¬ (7 : Int32) = 9 by decide)).trans ((if_neg (show ¬ (7 : Int32) = 10 by decide)).trans (sp_snd (sp_snd ea))))
  rw [e1, e2]
  exact op_fin do_7
theorem dd_11 {nr : Int32} : do_ok st (f_M_does st 11 nr) (x_op (md_at st 16) (md_at st 17) 11 nr) := by
  have e1 : f_M_does st 11 nr = m_fin (f_M_subtract (f_M_setExact (f_M_copy (f_M_setAny st 18) 16 17) 16 0)) := (if_pos rfl).trans ((if_neg (show ¬ (11 : Int32) = 0 by decide)).trans ((if_neg (show ¬ (11 : Int32) = 1 by decide)).trans (rfl)))
  have ea : f_X2_apply (md_at st 16) (md_at st 17) nAN 11 = ((f_X2_negate (md_at st 16) (md_at st 17) nAN).1, (f_X2_negate (md_at st 16) (md_at st 17) nAN).2.1, (f_X2_negate (md_at st 16) (md_at st 17) nAN).2.2) := (if_neg (show ¬ (11 : Int32) = 0 by decide)).trans ((if_neg (show ¬ (11 : Int32) = 1 by decide)).trans ((if_neg (show ¬ (11 : Int32) = 2 by decide)).trans ((if_neg (show ¬ (11 : Int32) = 3 by decide)).trans ((if_neg (show ¬ (11 : Int32) = 4 by decide)).trans ((if_neg (show ¬ (11 : Int32) = 5 by decide)).trans ((if_neg (show ¬ (11 : Int32) = 6 by decide)).trans ((if_neg (show ¬ (11 : Int32) = 7 by decide)).trans ((if_neg (show ¬ (11 : Int32) = 8 by decide)).trans ((if_neg (show ¬ (11 : Int32) = 9 by decide)).trans ((if_neg (show ¬ (11 : Int32) = 10 by decide)).trans ((if_pos rfl).trans (rfl))))))))))))
  have e2 : x_op (md_at st 16) (md_at st 17) 11 nr = (f_X2_negate (md_at st 16) (md_at st 17) nAN).2.2 := (if_neg (show ¬ (11 : Int32) = 8 by decide)).trans ((if_neg (show ¬ (11 : Int32) = 9 by decide)).trans ((if_neg (show ¬ (11 : Int32) = 10 by decide)).trans (sp_snd (sp_snd ea))))
  have e3 : (f_X2_negate (md_at st 16) (md_at st 17) nAN).2.2 = f_X2_subtract (f_X1_becomeExact (md_at st 16) 0) (md_at st 16) nAN := rfl
  rw [e1, e2, e3]
  exact op_fin (do_11 _)
theorem dd_12 {nr : Int32} : do_ok st (f_M_does st 12 nr) (x_op (md_at st 16) (md_at st 17) 12 nr) := by
  have e1 : f_M_does st 12 nr = m_fin (f_M_copy (f_M_setAny st 18) 17 18) := (if_neg (show ¬ (12 : Int32) = 11 by decide)).trans ((if_neg (show ¬ (12 : Int32) = 0 by decide)).trans ((if_neg (show ¬ (12 : Int32) = 1 by decide)).trans ((if_neg (show ¬ (12 : Int32) = 2 by decide)).trans ((if_neg (show ¬ (12 : Int32) = 3 by decide)).trans ((if_neg (show ¬ (12 : Int32) = 4 by decide)).trans ((if_pos (show (8 : Int32) ≤ 12 by decide)).trans ((if_pos rfl).trans (rfl))))))))
  have ea : f_X2_apply (md_at st 16) (md_at st 17) nAN 12 = ((md_at st 16), (md_at st 17), f_X1_become nAN (md_at st 17)) := (if_neg (show ¬ (12 : Int32) = 0 by decide)).trans ((if_neg (show ¬ (12 : Int32) = 1 by decide)).trans ((if_neg (show ¬ (12 : Int32) = 2 by decide)).trans ((if_neg (show ¬ (12 : Int32) = 3 by decide)).trans ((if_neg (show ¬ (12 : Int32) = 4 by decide)).trans ((if_neg (show ¬ (12 : Int32) = 5 by decide)).trans ((if_neg (show ¬ (12 : Int32) = 6 by decide)).trans ((if_neg (show ¬ (12 : Int32) = 7 by decide)).trans ((if_neg (show ¬ (12 : Int32) = 8 by decide)).trans ((if_neg (show ¬ (12 : Int32) = 9 by decide)).trans ((if_neg (show ¬ (12 : Int32) = 10 by decide)).trans ((if_neg (show ¬ (12 : Int32) = 11 by decide)).trans ((if_pos rfl).trans (rfl)))))))))))))
  have e2 : x_op (md_at st 16) (md_at st 17) 12 nr = f_X1_become nAN (md_at st 17) := (if_neg (show ¬ (12 : Int32) = 8 by decide)).trans ((if_neg (show ¬ (12 : Int32) = 9 by decide)).trans ((if_neg (show ¬ (12 : Int32) = 10 by decide)).trans (sp_snd (sp_snd ea))))
  rw [e1, e2]
  exact op_fin do_12
theorem dd_13 {nr : Int32} : do_ok st (f_M_does st 13 nr) (x_op (md_at st 16) (md_at st 17) 13 nr) := by
  have e1 : f_M_does st 13 nr = m_fin (f_M_swap (f_M_setAny st 18) (f_M_bytesOf (f_M_setAny st 18) 17)) := (if_neg (show ¬ (13 : Int32) = 11 by decide)).trans ((if_neg (show ¬ (13 : Int32) = 0 by decide)).trans ((if_neg (show ¬ (13 : Int32) = 1 by decide)).trans ((if_neg (show ¬ (13 : Int32) = 2 by decide)).trans ((if_neg (show ¬ (13 : Int32) = 3 by decide)).trans ((if_neg (show ¬ (13 : Int32) = 4 by decide)).trans ((if_pos (show (8 : Int32) ≤ 13 by decide)).trans ((if_neg (show ¬ (13 : Int32) = 12 by decide)).trans ((if_pos rfl).trans (rfl)))))))))
  have ea : f_X2_apply (md_at st 16) (md_at st 17) nAN 13 = ((md_at st 16), (md_at st 17), f_X2_swap (md_at st 16) (md_at st 17) nAN (f_X2_byteCount (md_at st 16) (md_at st 17) nAN)) := (if_neg (show ¬ (13 : Int32) = 0 by decide)).trans ((if_neg (show ¬ (13 : Int32) = 1 by decide)).trans ((if_neg (show ¬ (13 : Int32) = 2 by decide)).trans ((if_neg (show ¬ (13 : Int32) = 3 by decide)).trans ((if_neg (show ¬ (13 : Int32) = 4 by decide)).trans ((if_neg (show ¬ (13 : Int32) = 5 by decide)).trans ((if_neg (show ¬ (13 : Int32) = 6 by decide)).trans ((if_neg (show ¬ (13 : Int32) = 7 by decide)).trans ((if_neg (show ¬ (13 : Int32) = 8 by decide)).trans ((if_neg (show ¬ (13 : Int32) = 9 by decide)).trans ((if_neg (show ¬ (13 : Int32) = 10 by decide)).trans ((if_neg (show ¬ (13 : Int32) = 11 by decide)).trans ((if_neg (show ¬ (13 : Int32) = 12 by decide)).trans ((if_pos rfl).trans (rfl))))))))))))))
  have e2 : x_op (md_at st 16) (md_at st 17) 13 nr = f_X2_swap (md_at st 16) (md_at st 17) nAN (f_X2_byteCount (md_at st 16) (md_at st 17) nAN) := (if_neg (show ¬ (13 : Int32) = 8 by decide)).trans ((if_neg (show ¬ (13 : Int32) = 9 by decide)).trans ((if_neg (show ¬ (13 : Int32) = 10 by decide)).trans (sp_snd (sp_snd ea))))
  rw [e1, e2]
  exact op_fin do_13
theorem dd_14 {nr : Int32} : do_ok st (f_M_does st 14 nr) (x_op (md_at st 16) (md_at st 17) 14 nr) := by
  have e1 : f_M_does st 14 nr = m_fin (f_M_cut (f_M_setAny st 18) (f_M_bytesOf (f_M_setAny st 18) 17)) := (if_neg (show ¬ (14 : Int32) = 11 by decide)).trans ((if_neg (show ¬ (14 : Int32) = 0 by decide)).trans ((if_neg (show ¬ (14 : Int32) = 1 by decide)).trans ((if_neg (show ¬ (14 : Int32) = 2 by decide)).trans ((if_neg (show ¬ (14 : Int32) = 3 by decide)).trans ((if_neg (show ¬ (14 : Int32) = 4 by decide)).trans ((if_pos (show (8 : Int32) ≤ 14 by decide)).trans ((if_neg (show ¬ (14 : Int32) = 12 by decide)).trans ((if_neg (show ¬ (14 : Int32) = 13 by decide)).trans ((if_pos rfl).trans (rfl))))))))))
  have ea : f_X2_apply (md_at st 16) (md_at st 17) nAN 14 = ((md_at st 16), (f_X2_cut (md_at st 16) (md_at st 17) nAN (f_X2_byteCount (md_at st 16) (md_at st 17) nAN)).1, (f_X2_cut (md_at st 16) (md_at st 17) nAN (f_X2_byteCount (md_at st 16) (md_at st 17) nAN)).2) := (if_neg (show ¬ (14 : Int32) = 0 by decide)).trans ((if_neg (show ¬ (14 : Int32) = 1 by decide)).trans ((if_neg (show ¬ (14 : Int32) = 2 by decide)).trans ((if_neg (show ¬ (14 : Int32) = 3 by decide)).trans ((if_neg (show ¬ (14 : Int32) = 4 by decide)).trans ((if_neg (show ¬ (14 : Int32) = 5 by decide)).trans ((if_neg (show ¬ (14 : Int32) = 6 by decide)).trans ((if_neg (show ¬ (14 : Int32) = 7 by decide)).trans ((if_neg (show ¬ (14 : Int32) = 8 by decide)).trans ((if_neg (show ¬ (14 : Int32) = 9 by decide)).trans ((if_neg (show ¬ (14 : Int32) = 10 by decide)).trans ((if_neg (show ¬ (14 : Int32) = 11 by decide)).trans ((if_neg (show ¬ (14 : Int32) = 12 by decide)).trans ((if_neg (show ¬ (14 : Int32) = 13 by decide)).trans ((if_pos rfl).trans (rfl)))))))))))))))
  have e2 : x_op (md_at st 16) (md_at st 17) 14 nr = (f_X2_cut (md_at st 16) (md_at st 17) nAN (f_X2_byteCount (md_at st 16) (md_at st 17) nAN)).2 := (if_neg (show ¬ (14 : Int32) = 8 by decide)).trans ((if_neg (show ¬ (14 : Int32) = 9 by decide)).trans ((if_neg (show ¬ (14 : Int32) = 10 by decide)).trans (sp_snd (sp_snd ea))))
  rw [e1, e2]
  exact op_fin do_14
theorem dd_8 {nr : Int32} : do_ok st (f_M_does st 8 nr) (x_op (md_at st 16) (md_at st 17) 8 nr) := by
  by_cases c : f_X1_isExact (md_at st 17) = 0
  · have e1 : f_M_does st 8 nr = m_fin (f_M_setAny st 18) := (if_neg (show ¬ (8 : Int32) = 11 by decide)).trans ((if_neg (show ¬ (8 : Int32) = 0 by decide)).trans ((if_neg (show ¬ (8 : Int32) = 1 by decide)).trans ((if_neg (show ¬ (8 : Int32) = 2 by decide)).trans ((if_neg (show ¬ (8 : Int32) = 3 by decide)).trans ((if_neg (show ¬ (8 : Int32) = 4 by decide)).trans ((if_pos (show (8 : Int32) ≤ 8 by decide)).trans ((if_neg (show ¬ (8 : Int32) = 12 by decide)).trans ((if_neg (show ¬ (8 : Int32) = 13 by decide)).trans ((if_neg (show ¬ (8 : Int32) = 14 by decide)).trans ((if_pos (sa_x.trans c)).trans (rfl)))))))))))
    have e2 : x_op (md_at st 16) (md_at st 17) 8 nr = nAN := (if_pos rfl).trans ((if_pos c).trans (rfl))
    rw [e1, e2]
    exact op_fin do_n
  · by_cases c0 : nr = 0
    · have e1 : f_M_does st 8 nr = m_fin (f_M_shift (f_M_setAny st 18) 8 (((f_M_setAny st 18).1 (17 : Int32).toNatClampNeg &&& 63).toInt32)) := (if_neg (show ¬ (8 : Int32) = 11 by decide)).trans ((if_neg (show ¬ (8 : Int32) = 0 by decide)).trans ((if_neg (show ¬ (8 : Int32) = 1 by decide)).trans ((if_neg (show ¬ (8 : Int32) = 2 by decide)).trans ((if_neg (show ¬ (8 : Int32) = 3 by decide)).trans ((if_neg (show ¬ (8 : Int32) = 4 by decide)).trans ((if_pos (show (8 : Int32) ≤ 8 by decide)).trans ((if_neg (show ¬ (8 : Int32) = 12 by decide)).trans ((if_neg (show ¬ (8 : Int32) = 13 by decide)).trans ((if_neg (show ¬ (8 : Int32) = 14 by decide)).trans ((if_neg (fun q => c (sa_x.symm.trans q))).trans ((if_pos c0).trans (rfl))))))))))))
      have e2 : x_op (md_at st 16) (md_at st 17) 8 nr = f_X2_shiftLeft (md_at st 16) (md_at st 17) nAN (((md_at st 17).1 &&& 63).toInt32) := (if_pos rfl).trans ((if_neg c).trans ((if_pos c0).trans ((if_pos rfl).trans (rfl))))
      rw [e1, e2, sa_v]
      exact op_fin (do_8 (sh63 _))
    · have e1 : f_M_does st 8 nr = m_fin (f_M_shift (f_M_setAny st 18) 8 (((f_M_setAny st 18).1 (17 : Int32).toNatClampNeg &&& 31).toInt32)) := (if_neg (show ¬ (8 : Int32) = 11 by decide)).trans ((if_neg (show ¬ (8 : Int32) = 0 by decide)).trans ((if_neg (show ¬ (8 : Int32) = 1 by decide)).trans ((if_neg (show ¬ (8 : Int32) = 2 by decide)).trans ((if_neg (show ¬ (8 : Int32) = 3 by decide)).trans ((if_neg (show ¬ (8 : Int32) = 4 by decide)).trans ((if_pos (show (8 : Int32) ≤ 8 by decide)).trans ((if_neg (show ¬ (8 : Int32) = 12 by decide)).trans ((if_neg (show ¬ (8 : Int32) = 13 by decide)).trans ((if_neg (show ¬ (8 : Int32) = 14 by decide)).trans ((if_neg (fun q => c (sa_x.symm.trans q))).trans ((if_neg c0).trans ((if_neg (show ¬ (8 : Int32) = 10 by decide)).trans (rfl)))))))))))))
      have e2 : x_op (md_at st 16) (md_at st 17) 8 nr = f_X2_shiftLeft (md_at st 16) (md_at st 17) nAN (((md_at st 17).1 &&& 31).toInt32) := (if_pos rfl).trans ((if_neg c).trans ((if_neg c0).trans ((if_pos rfl).trans (rfl))))
      rw [e1, e2, sa_v]
      exact op_fin (do_8 (sh31 _))
theorem dd_9 {nr : Int32} : do_ok st (f_M_does st 9 nr) (x_op (md_at st 16) (md_at st 17) 9 nr) := by
  by_cases c : f_X1_isExact (md_at st 17) = 0
  · have e1 : f_M_does st 9 nr = m_fin (f_M_setAny st 18) := (if_neg (show ¬ (9 : Int32) = 11 by decide)).trans ((if_neg (show ¬ (9 : Int32) = 0 by decide)).trans ((if_neg (show ¬ (9 : Int32) = 1 by decide)).trans ((if_neg (show ¬ (9 : Int32) = 2 by decide)).trans ((if_neg (show ¬ (9 : Int32) = 3 by decide)).trans ((if_neg (show ¬ (9 : Int32) = 4 by decide)).trans ((if_pos (show (8 : Int32) ≤ 9 by decide)).trans ((if_neg (show ¬ (9 : Int32) = 12 by decide)).trans ((if_neg (show ¬ (9 : Int32) = 13 by decide)).trans ((if_neg (show ¬ (9 : Int32) = 14 by decide)).trans ((if_pos (sa_x.trans c)).trans (rfl)))))))))))
    have e2 : x_op (md_at st 16) (md_at st 17) 9 nr = nAN := (if_neg (show ¬ (9 : Int32) = 8 by decide)).trans ((if_pos rfl).trans ((if_pos c).trans (rfl)))
    rw [e1, e2]
    exact op_fin do_n
  · by_cases c0 : nr = 0
    · have e1 : f_M_does st 9 nr = m_fin (f_M_shift (f_M_setAny st 18) 9 (((f_M_setAny st 18).1 (17 : Int32).toNatClampNeg &&& 63).toInt32)) := (if_neg (show ¬ (9 : Int32) = 11 by decide)).trans ((if_neg (show ¬ (9 : Int32) = 0 by decide)).trans ((if_neg (show ¬ (9 : Int32) = 1 by decide)).trans ((if_neg (show ¬ (9 : Int32) = 2 by decide)).trans ((if_neg (show ¬ (9 : Int32) = 3 by decide)).trans ((if_neg (show ¬ (9 : Int32) = 4 by decide)).trans ((if_pos (show (8 : Int32) ≤ 9 by decide)).trans ((if_neg (show ¬ (9 : Int32) = 12 by decide)).trans ((if_neg (show ¬ (9 : Int32) = 13 by decide)).trans ((if_neg (show ¬ (9 : Int32) = 14 by decide)).trans ((if_neg (fun q => c (sa_x.symm.trans q))).trans ((if_pos c0).trans (rfl))))))))))))
      have e2 : x_op (md_at st 16) (md_at st 17) 9 nr = f_X2_shiftRight (md_at st 16) (md_at st 17) nAN (((md_at st 17).1 &&& 63).toInt32) := (if_neg (show ¬ (9 : Int32) = 8 by decide)).trans ((if_pos rfl).trans ((if_neg c).trans ((if_pos c0).trans ((if_neg (show ¬ (9 : Int32) = 8 by decide)).trans ((if_pos rfl).trans (rfl))))))
      rw [e1, e2, sa_v]
      exact op_fin do_9
    · have e1 : f_M_does st 9 nr = m_fin (f_M_shift (f_M_setAny st 18) 9 (((f_M_setAny st 18).1 (17 : Int32).toNatClampNeg &&& 31).toInt32)) := (if_neg (show ¬ (9 : Int32) = 11 by decide)).trans ((if_neg (show ¬ (9 : Int32) = 0 by decide)).trans ((if_neg (show ¬ (9 : Int32) = 1 by decide)).trans ((if_neg (show ¬ (9 : Int32) = 2 by decide)).trans ((if_neg (show ¬ (9 : Int32) = 3 by decide)).trans ((if_neg (show ¬ (9 : Int32) = 4 by decide)).trans ((if_pos (show (8 : Int32) ≤ 9 by decide)).trans ((if_neg (show ¬ (9 : Int32) = 12 by decide)).trans ((if_neg (show ¬ (9 : Int32) = 13 by decide)).trans ((if_neg (show ¬ (9 : Int32) = 14 by decide)).trans ((if_neg (fun q => c (sa_x.symm.trans q))).trans ((if_neg c0).trans ((if_neg (show ¬ (9 : Int32) = 10 by decide)).trans (rfl)))))))))))))
      have e2 : x_op (md_at st 16) (md_at st 17) 9 nr = f_X2_shiftRight (md_at st 16) (md_at st 17) nAN (((md_at st 17).1 &&& 31).toInt32) := (if_neg (show ¬ (9 : Int32) = 8 by decide)).trans ((if_pos rfl).trans ((if_neg c).trans ((if_neg c0).trans ((if_neg (show ¬ (9 : Int32) = 8 by decide)).trans ((if_pos rfl).trans (rfl))))))
      rw [e1, e2, sa_v]
      exact op_fin do_9
theorem dd_10 {nr : Int32} : do_ok st (f_M_does st 10 nr) (x_op (md_at st 16) (md_at st 17) 10 nr) := by
  by_cases c : f_X1_isExact (md_at st 17) = 0
  · have e1 : f_M_does st 10 nr = m_fin (f_M_setAny st 18) := (if_neg (show ¬ (10 : Int32) = 11 by decide)).trans ((if_neg (show ¬ (10 : Int32) = 0 by decide)).trans ((if_neg (show ¬ (10 : Int32) = 1 by decide)).trans ((if_neg (show ¬ (10 : Int32) = 2 by decide)).trans ((if_neg (show ¬ (10 : Int32) = 3 by decide)).trans ((if_neg (show ¬ (10 : Int32) = 4 by decide)).trans ((if_pos (show (8 : Int32) ≤ 10 by decide)).trans ((if_neg (show ¬ (10 : Int32) = 12 by decide)).trans ((if_neg (show ¬ (10 : Int32) = 13 by decide)).trans ((if_neg (show ¬ (10 : Int32) = 14 by decide)).trans ((if_pos (sa_x.trans c)).trans (rfl)))))))))))
    have e2 : x_op (md_at st 16) (md_at st 17) 10 nr = nAN := (if_neg (show ¬ (10 : Int32) = 8 by decide)).trans ((if_neg (show ¬ (10 : Int32) = 9 by decide)).trans ((if_pos rfl).trans ((if_pos c).trans (rfl))))
    rw [e1, e2]
    exact op_fin do_n
  · by_cases c0 : nr = 0
    · have e1 : f_M_does st 10 nr = m_fin (f_M_shift (f_M_setAny st 18) 10 (((f_M_setAny st 18).1 (17 : Int32).toNatClampNeg &&& 63).toInt32)) := (if_neg (show ¬ (10 : Int32) = 11 by decide)).trans ((if_neg (show ¬ (10 : Int32) = 0 by decide)).trans ((if_neg (show ¬ (10 : Int32) = 1 by decide)).trans ((if_neg (show ¬ (10 : Int32) = 2 by decide)).trans ((if_neg (show ¬ (10 : Int32) = 3 by decide)).trans ((if_neg (show ¬ (10 : Int32) = 4 by decide)).trans ((if_pos (show (8 : Int32) ≤ 10 by decide)).trans ((if_neg (show ¬ (10 : Int32) = 12 by decide)).trans ((if_neg (show ¬ (10 : Int32) = 13 by decide)).trans ((if_neg (show ¬ (10 : Int32) = 14 by decide)).trans ((if_neg (fun q => c (sa_x.symm.trans q))).trans ((if_pos c0).trans (rfl))))))))))))
      have e2 : x_op (md_at st 16) (md_at st 17) 10 nr = f_X2_shiftRightSigned (md_at st 16) (md_at st 17) nAN (((md_at st 17).1 &&& 63).toInt32) := (if_neg (show ¬ (10 : Int32) = 8 by decide)).trans ((if_neg (show ¬ (10 : Int32) = 9 by decide)).trans ((if_pos rfl).trans ((if_neg c).trans ((if_pos c0).trans ((if_neg (show ¬ (10 : Int32) = 8 by decide)).trans ((if_neg (show ¬ (10 : Int32) = 9 by decide)).trans (rfl)))))))
      rw [e1, e2, sa_v]
      exact op_fin do_10
    · have hb : f_M_below ((f_M_setAny st 18).2.2.2.1 (16 : Int32).toNatClampNeg) 2147483648 = f_X0_isAbove 2147483648 (md_at st 16).2.2.2.1 := by rw [un_below, sa_g]
      by_cases cb : f_X0_isAbove 2147483648 (md_at st 16).2.2.2.1 = 0
      · have e1 : f_M_does st 10 nr = m_fin (f_M_setAny st 18) := (if_neg (show ¬ (10 : Int32) = 11 by decide)).trans ((if_neg (show ¬ (10 : Int32) = 0 by decide)).trans ((if_neg (show ¬ (10 : Int32) = 1 by decide)).trans ((if_neg (show ¬ (10 : Int32) = 2 by decide)).trans ((if_neg (show ¬ (10 : Int32) = 3 by decide)).trans ((if_neg (show ¬ (10 : Int32) = 4 by decide)).trans ((if_pos (show (8 : Int32) ≤ 10 by decide)).trans ((if_neg (show ¬ (10 : Int32) = 12 by decide)).trans ((if_neg (show ¬ (10 : Int32) = 13 by decide)).trans ((if_neg (show ¬ (10 : Int32) = 14 by decide)).trans ((if_neg (fun q => c (sa_x.symm.trans q))).trans ((if_neg c0).trans ((if_pos rfl).trans ((if_pos (hb.trans cb)).trans (rfl))))))))))))))
        have e2 : x_op (md_at st 16) (md_at st 17) 10 nr = nAN := (if_neg (show ¬ (10 : Int32) = 8 by decide)).trans ((if_neg (show ¬ (10 : Int32) = 9 by decide)).trans ((if_pos rfl).trans ((if_neg c).trans ((if_neg c0).trans ((if_neg (show ¬ (10 : Int32) = 8 by decide)).trans ((if_neg (show ¬ (10 : Int32) = 9 by decide)).trans ((if_pos cb).trans (rfl))))))))
        rw [e1, e2]
        exact op_fin do_n
      · have e1 : f_M_does st 10 nr = m_fin (f_M_shift (f_M_setAny st 18) 9 (((f_M_setAny st 18).1 (17 : Int32).toNatClampNeg &&& 31).toInt32)) := (if_neg (show ¬ (10 : Int32) = 11 by decide)).trans ((if_neg (show ¬ (10 : Int32) = 0 by decide)).trans ((if_neg (show ¬ (10 : Int32) = 1 by decide)).trans ((if_neg (show ¬ (10 : Int32) = 2 by decide)).trans ((if_neg (show ¬ (10 : Int32) = 3 by decide)).trans ((if_neg (show ¬ (10 : Int32) = 4 by decide)).trans ((if_pos (show (8 : Int32) ≤ 10 by decide)).trans ((if_neg (show ¬ (10 : Int32) = 12 by decide)).trans ((if_neg (show ¬ (10 : Int32) = 13 by decide)).trans ((if_neg (show ¬ (10 : Int32) = 14 by decide)).trans ((if_neg (fun q => c (sa_x.symm.trans q))).trans ((if_neg c0).trans ((if_pos rfl).trans ((if_neg (fun q => cb (hb.symm.trans q))).trans (rfl))))))))))))))
        have e2 : x_op (md_at st 16) (md_at st 17) 10 nr = f_X2_shiftRight (md_at st 16) (md_at st 17) nAN (((md_at st 17).1 &&& 31).toInt32) := (if_neg (show ¬ (10 : Int32) = 8 by decide)).trans ((if_neg (show ¬ (10 : Int32) = 9 by decide)).trans ((if_pos rfl).trans ((if_neg c).trans ((if_neg c0).trans ((if_neg (show ¬ (10 : Int32) = 8 by decide)).trans ((if_neg (show ¬ (10 : Int32) = 9 by decide)).trans ((if_neg cb).trans (rfl))))))))
        rw [e1, e2, sa_v]
        exact op_fin do_9
end DOES2
theorem op_15 {op : Int32} (h0 : ¬ op < 0) (h1 : op ≤ 14) : op = 0 ∨ op = 1 ∨ op = 2 ∨ op = 3 ∨ op = 4 ∨ op = 5 ∨ op = 6 ∨ op = 7 ∨ op = 8 ∨ op = 9 ∨ op = 10 ∨ op = 11 ∨ op = 12 ∨ op = 13 ∨ op = 14 := by
  obtain ⟨j, hj, rfl⟩ := nI_of2 (M := 14) (n := 14) (by decide) h0 h1
  have q : ∀ j, j ≤ 14 → (nI j = 0 ∨ nI j = 1 ∨ nI j = 2 ∨ nI j = 3 ∨ nI j = 4 ∨ nI j = 5 ∨ nI j = 6 ∨ nI j = 7 ∨ nI j = 8 ∨ nI j = 9 ∨ nI j = 10 ∨ nI j = 11 ∨ nI j = 12 ∨ nI j = 13 ∨ nI j = 14) := by decide +kernel
  exact q j hj
theorem ml_does (st : Md) {op : Int32} (h0 : ¬ op < 0) (h1 : op ≤ 14) (nr : Int32) : do_ok st (f_M_does st op nr) (x_op (md_at st 16) (md_at st 17) op nr) := by
  rcases op_15 h0 h1 with rfl | rfl | rfl | rfl | rfl | rfl | rfl | rfl | rfl | rfl | rfl | rfl | rfl | rfl | rfl
  · exact dd_0
  · exact dd_1
  · exact dd_2
  · exact dd_3
  · exact dd_4
  · exact dd_5
  · exact dd_6
  · exact dd_7
  · exact dd_8
  · exact dd_9
  · exact dd_10
  · exact dd_11
  · exact dd_12
  · exact dd_13
  · exact dd_14
