/-! an operation as a whole -/
def nAN : Nm := (0, -1, 0, -1, -9223372036854775808, 9223372036854775807)
def x_fin (r : Nm) : Nm := if (f_X1_settle r).2 = 0 then nAN else (f_X1_settle r).1
def x_op (x y : Nm) (op nr : Int32) : Nm := if op = 8 then f_X2_shift x y nAN op nr else if op = 9 then f_X2_shift x y nAN op nr else if op = 10 then f_X2_shift x y nAN op nr else (f_X2_apply x y nAN op).2.2
theorem an_eq (n : Nm) : f_X1_becomeAny n = nAN := rfl
theorem i22 {c : Prop} [Decidable c] {a b r a' b' s : Nm} : (if c then (a, b, r) else (a', b', s)).2.2 = if c then r else s := by split <;> rfl
theorem i22n {c : Prop} [Decidable c] {N : Nm → Nm} {a b r a' b' s : Nm} : (if c then (a, b, N r) else (a', b', N s)).2.2 = N (if c then r else s) := by split <;> rfl
theorem cmp_eq (n0 n1 n2 n3 n4 : Nm) (op nr : Int32) : (f_X2_compute n0 n1 n2 n3 n4 op nr).2.2 = if nr = 0 then x_fin (x_op n3 n4 op nr) else f_X1_narrow (x_fin (x_op (f_X1_narrow n3) (f_X1_narrow n4) op nr)) := by
  unfold f_X2_compute x_fin x_op
  simp only [ml_become, an_eq]
  by_cases c0 : nr = 0
  · simp only [c0, if_true]
    by_cases c8 : op = 8
    · simp only [c8, if_true]
      exact i22
    · by_cases c9 : op = 9
      · simp only [c9, if_true, show ¬ (9 : Int32) = 8 by decide, if_false]
        exact i22
      · by_cases c10 : op = 10
        · simp only [c10, if_true, show ¬ (10 : Int32) = 8 by decide, show ¬ (10 : Int32) = 9 by decide, if_false]
          exact i22
        · simp only [c8, c9, c10, if_false]
          exact i22
  · simp only [c0, if_false]
    by_cases c8 : op = 8
    · simp only [c8, if_true]
      exact i22n
    · by_cases c9 : op = 9
      · simp only [c9, if_true, show ¬ (9 : Int32) = 8 by decide, if_false]
        exact i22n
      · by_cases c10 : op = 10
        · simp only [c10, if_true, show ¬ (10 : Int32) = 8 by decide, show ¬ (10 : Int32) = 9 by decide, if_false]
          exact i22n
        · simp only [c8, c9, c10, if_false]
          exact i22n
def m_fin (S : Md) : Md := if (f_M_settle S 18).2 = 0 then f_M_setAny (f_M_settle S 18).1 18 else (f_M_settle S 18).1
theorem m_fin_eq (S : Md) : m_fin S = md_set S 18 (x_fin (md_at S 18)) := by
  unfold m_fin x_fin
  rw [ml_settle, i18]
  dsimp only
  split
  · rw [ml_setAny _ _ nAN, i18, md_set2]
    rfl
  · rfl
/-- what a step of the reference must do: keep the sixteen, and leave at its place 18 what settles as r does -/
def op_ok (st S : Md) (r : Nm) : Prop := (∀ k, k < 16 → md_at S k = md_at st k) ∧ f_X1_settle (md_at S 18) = f_X1_settle r
theorem op_fin {st S : Md} {r : Nm} (h : op_ok st S r) : (∀ k, k < 16 → md_at (m_fin S) k = md_at st k) ∧ md_at (m_fin S) 18 = x_fin r := by
  rw [m_fin_eq]
  refine ⟨fun k hk => ?_, ?_⟩
  · rw [md_at_ne _ _ (show k ≠ 18 by omega)]
    exact h.1 k hk
  · rw [md_at_set]
    unfold x_fin
    rw [h.2]
theorem op_set {st : Md} {r : Nm} : op_ok st (md_set st 18 r) r := ⟨fun k hk => md_at_ne _ _ (show k ≠ 18 by omega), by rw [md_at_set]⟩
theorem op_set' {st S : Md} {r : Nm} (hS : ∀ k, k < 16 → md_at S k = md_at st k) : op_ok st (md_set S 18 r) r := ⟨fun k hk => by rw [md_at_ne _ _ (show k ≠ 18 by omega)]; exact hS k hk, by rw [md_at_set]⟩
theorem md_3ne {S : Md} {i k : Nat} {n : Nm} (h : k ≠ i) : (md_set S i n).2.2.1 k = S.2.2.1 k := by
  show vp_updL S.2.2.1 i n.2.2.1 k = _
  rw [vp_upd_ne _ _ h]
section DOES
variable {st : Md}
theorem sa_eq : f_M_setAny st 18 = md_set st 18 nAN := by rw [ml_setAny _ _ nAN, i18, an_eq]
theorem sa_16 : md_at (md_set st 18 nAN) 16 = md_at st 16 := md_at_ne _ _ (by decide)
theorem sa_17 : md_at (md_set st 18 nAN) 17 = md_at st 17 := md_at_ne _ _ (by decide)
theorem sa_18 : md_at (md_set st 18 nAN) 18 = nAN := md_at_set _ _ _
theorem sa_k {k : Nat} (h : k < 16) : md_at (md_set st 18 nAN) k = md_at st k := md_at_ne _ _ (by omega)
theorem sa_1 : (md_set st 18 nAN).1 18 = 0 := by
  show vp_updL st.1 18 nAN.1 18 = _
  rw [vp_upd_self]
  rfl
theorem sa_3 : (md_set st 18 nAN).2.2.1 18 = 0 := by
  show vp_updL st.2.2.1 18 nAN.2.2.1 18 = _
  rw [vp_upd_self]
  rfl
theorem sa_4 : (md_set st 18 nAN).2.2.2.1 18 = -1 := by
  show vp_updL st.2.2.2.1 18 nAN.2.2.2.1 18 = _
  rw [vp_upd_self]
  rfl
theorem do_0 : op_ok st (f_M_add (f_M_setAny st 18)) (f_X2_add (md_at st 16) (md_at st 17) nAN) := by
  rw [sa_eq, ml_add, sa_16, sa_17, sa_18]
  exact op_set' (fun k hk => sa_k hk)
theorem do_1 : op_ok st (f_M_subtract (f_M_setAny st 18)) (f_X2_subtract (md_at st 16) (md_at st 17) nAN) := by
  rw [sa_eq, ml_subtract, sa_16, sa_17, sa_18]
  exact op_set' (fun k hk => sa_k hk)
theorem do_2 : op_ok st (f_M_multiply (f_M_setAny st 18)) (f_X2_multiply (md_at st 16) (md_at st 17) nAN) := by
  rw [sa_eq, ml_multiply _ sa_1, sa_16, sa_17, sa_18]
  exact op_set' (fun k hk => sa_k hk)
theorem do_4 : op_ok st (f_M_rest (f_M_setAny st 18)) (f_X2_rest (md_at st 16) (md_at st 17) nAN) := by
  rw [sa_eq, ml_rest _ sa_3, sa_16, sa_17, sa_18]
  exact op_set' (fun k hk => sa_k hk)
theorem do_5 : op_ok st (f_M_logic (f_M_setAny st 18) 5) (f_X2_and (md_at st 16) (md_at st 17) nAN) := by
  rw [sa_eq, ml_and _ sa_3, sa_16, sa_17, sa_18]
  exact op_set' (fun k hk => sa_k hk)
theorem do_6 : op_ok st (f_M_logic (f_M_setAny st 18) 6) (f_X2_or (md_at st 16) (md_at st 17) nAN) := by
  rw [sa_eq, ml_or _ sa_4, sa_16, sa_17, sa_18]
  exact op_set' (fun k hk => sa_k hk)
theorem do_7 : op_ok st (f_M_logic (f_M_setAny st 18) 7) (f_X2_xor (md_at st 16) (md_at st 17) nAN) := by
  rw [sa_eq, ml_xor _ (by decide) (by decide), sa_16, sa_17, sa_18]
  exact op_set' (fun k hk => sa_k hk)
theorem do_12 : op_ok st (f_M_copy (f_M_setAny st 18) 17 18) (f_X1_become nAN (md_at st 17)) := by
  rw [sa_eq, ml_copy, i17, i18, sa_17, ml_become]
  exact op_set' (fun k hk => sa_k hk)
theorem do_n : op_ok st (f_M_setAny st 18) nAN := by
  rw [sa_eq]
  exact op_set
theorem do_11 (n : Nm) : op_ok st (f_M_subtract (f_M_setExact (f_M_copy (f_M_setAny st 18) 16 17) 16 0)) (f_X2_subtract (f_X1_becomeExact n 0) (md_at st 16) nAN) := by
  rw [sa_eq, ml_copy, i16, i17, sa_16, ml_setExact _ _ _ n, i16, ml_subtract, md_at_set, md_at_ne _ _ (show (17 : Nat) ≠ 16 by decide), md_at_set, md_at_ne _ _ (show (18 : Nat) ≠ 16 by decide), md_at_ne _ _ (show (18 : Nat) ≠ 17 by decide), sa_18]
  exact op_set' (fun k hk => by rw [md_at_ne _ _ (show k ≠ 16 by omega), md_at_ne _ _ (show k ≠ 17 by omega)]; exact sa_k hk)
theorem do_13 : op_ok st (f_M_swap (f_M_setAny st 18) (f_M_bytesOf (f_M_setAny st 18) 17)) (f_X2_swap (md_at st 16) (md_at st 17) nAN (f_X2_byteCount (md_at st 16) (md_at st 17) nAN)) := by
  rw [ml_bytesOf _ (md_at st 16) nAN, sa_eq, sa_17, ml_swap _ (bc_cases _ _ _) sa_3 sa_4, sa_16, sa_17, sa_18]
  exact op_set' (fun k hk => sa_k hk)
theorem do_14 : op_ok st (f_M_cut (f_M_setAny st 18) (f_M_bytesOf (f_M_setAny st 18) 17)) (f_X2_cut (md_at st 16) (md_at st 17) nAN (f_X2_byteCount (md_at st 16) (md_at st 17) nAN)).2 := by
  rw [ml_bytesOf _ (md_at st 16) nAN, sa_eq, sa_17]
  have hb := bc_cases (md_at st 16) (md_at st 17) nAN
  generalize f_X2_byteCount (md_at st 16) (md_at st 17) nAN = p at hb ⊢
  unfold f_M_cut f_X2_cut
  rw [ml_top hb, un_below, i16]
  have e4 : (md_set st 18 nAN).2.2.2.1 16 = (md_at st 16).2.2.2.1 := by
    show vp_updL st.2.2.2.1 18 nAN.2.2.2.1 16 = _
    rw [vp_upd_ne _ _ (by decide)]
    rfl
  rw [e4]
  by_cases c : f_X0_isAbove (md_at st 16).2.2.2.1 (f_X2_greatestOf p) = 0
  · rw [if_pos c, if_pos c, ml_copy, i16, i18, sa_16, ml_become]
    exact op_set' (fun k hk => sa_k hk)
  · rw [if_neg c, if_neg c, ml_setExact _ _ _ (md_at st 17), i17]
    rw [ml_and _ ((md_3ne (by decide)).trans sa_3), md_at_set, md_at_ne _ _ (show (16 : Nat) ≠ 17 by decide), md_at_ne _ _ (show (18 : Nat) ≠ 17 by decide), sa_16, sa_18]
    exact op_set' (fun k hk => by rw [md_at_ne _ _ (show k ≠ 17 by omega)]; exact sa_k hk)
theorem zero_set2 : f_X1_settle (0, 0, 0, 0, 0, 0) = ((0, 0, 0, 0, 0, 0), 1) := by decide +kernel
theorem q_0 (a : Int64) : f_X2_quotient a 0 = 0 := rfl
theorem do_3 : op_ok st (f_M_divide (f_M_setAny st 18)) (f_X2_divide (md_at st 16) (md_at st 17) nAN) := by
  rw [sa_eq]
  unfold f_M_divide f_X2_divide
  have e16l : (md_set st 18 nAN).2.2.1 16 = (md_at st 16).2.2.1 := by
    show vp_updL st.2.2.1 18 nAN.2.2.1 16 = _
    rw [vp_upd_ne _ _ (by decide)]
    rfl
  have e16g : (md_set st 18 nAN).2.2.2.1 16 = (md_at st 16).2.2.2.1 := by
    show vp_updL st.2.2.2.1 18 nAN.2.2.2.1 16 = _
    rw [vp_upd_ne _ _ (by decide)]
    rfl
  have e17v : (md_set st 18 nAN).1 17 = (md_at st 17).1 := by
    show vp_updL st.1 18 nAN.1 17 = _
    rw [vp_upd_ne _ _ (by decide)]
    rfl
  simp only [ml_isExact, i16, i17, i18, sa_17, md_4, md_34, e16l, e16g, e17v]
  by_cases c : f_X1_isExact (md_at st 17) = 0
  · simp only [c, if_true]
    refine ⟨fun k hk => by rw [md_at_ne _ _ (show k ≠ 18 by omega)]; exact sa_k hk, ?_⟩
    rw [md_at_set]
    have e := sa_18 (st := st)
    rw [md_def] at e
    rw [sa_3]
    have e1 := congrArg (fun n : Nm => n.1) e
    have e2 := congrArg (fun n : Nm => n.2.1) e
    have e5 := congrArg (fun n : Nm => n.2.2.2.2.1) e
    have e6 := congrArg (fun n : Nm => n.2.2.2.2.2) e
    dsimp only at e1 e2 e5 e6
    rw [e1, e2, e5, e6]
    rfl
  · simp only [c, if_false]
    have e := sa_18 (st := st)
    rw [md_def] at e
    have e1 := congrArg (fun n : Nm => n.1) e
    have e2 := congrArg (fun n : Nm => n.2.1) e
    have e5 := congrArg (fun n : Nm => n.2.2.2.2.1) e
    have e6 := congrArg (fun n : Nm => n.2.2.2.2.2) e
    dsimp only at e1 e2 e5 e6
    by_cases c2 : lg_cmp (md_at st 17).1 0 = 0
    · simp only [c2, if_true]
      rw [ml_setExact _ _ _ nAN, i18]
      refine ⟨fun k hk => by rw [md_at_ne _ _ (show k ≠ 18 by omega)]; exact sa_k hk, ?_⟩
      rw [md_at_set, (lg_cmp_eq _ _).mp c2, q_0, q_0]
      exact zero_set2.trans zero_set.symm
    · simp only [c2, if_false]
      have hne : uN (md_at st 17).1 ≠ 0 := fun q => c2 ((lg_cmp_eq _ _).mpr (uN_inj (show uN (md_at st 17).1 = uN 0 from q)))
      refine ⟨fun k hk => by rw [md_at_ne _ _ (show k ≠ 18 by omega)]; exact sa_k hk, ?_⟩
      rw [md_at_set, e1, e2, e5, e6, ml_quotient _ _ hne, ml_quotient _ _ hne]
      rfl
end DOES
