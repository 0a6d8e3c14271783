/-! no bit is both known and unknown: the relations, and the desk's calls -/
section DHO
variable {n n0 n1 n2 n3 : Nm} {p : Int64} {r p4 : Int32}
def d2 (r : Nm × Nm × Int32) : Prop := x_dis r.1 ∧ x_dis r.2.1
theorem d2i {c : Prop} [Decidable c] {r s : Nm × Nm × Int32} (hx : d2 r) (hy : d2 s) : d2 (if c then r else s) := by
  split
  · exact hx
  · exact hy
theorem d2m {a b : Nm} {k : Int32} (ha : x_dis a) (hb : x_dis b) : d2 (a, b, k) := ⟨ha, hb⟩
theorem d2e {r : Nm × Nm × Int32} (h : d2 r) : d2 (r.1, r.2.1, r.2.2) := h
theorem d2s {r : Nm × Nm × Int32} (h : d2 r) : d2 (r.2.1, r.1, r.2.2) := ⟨h.2, h.1⟩
theorem d_rl (h : x_dis n) : x_dis (f_X1_raiseLeast n p) := by
  unfold f_X1_raiseLeast
  exact dpi h h
theorem d_lg (h : x_dis n) : x_dis (f_X1_lowerGreatest n p) := by
  unfold f_X1_lowerGreatest
  exact dpi h h
theorem d_rs (h : x_dis n) : x_dis (f_X1_raiseSignedLeast n p) := by
  unfold f_X1_raiseSignedLeast
  exact h
theorem d_ls (h : x_dis n) : x_dis (f_X1_lowerSignedGreatest n p) := by
  unfold f_X1_lowerSignedGreatest
  exact h
theorem d_lo (h : x_dis n) : x_dis (f_X1_learnOnes n p) := by
  unfold f_X1_learnOnes
  exact dsb (ds_ones h p)
theorem d_lz (h : x_dis n) : x_dis (f_X1_learnZeros n p) := by
  unfold f_X1_learnZeros
  exact dsb (ds_zeros h p)
theorem d_xc (h : x_dis n) : x_dis (f_X1_exclude n p).1 := by
  obtain ⟨a, b, c, d, e, f⟩ := n
  have h : a &&& b = 0 := h
  rw [ex_eq, wo_eq]
  split
  · exact h
  · exact h
theorem d_same (h0 : x_dis n0) (h1 : x_dis n1) : d2 (f_X3_same n0 n1) := by
  unfold f_X3_same
  have k : x_dis (f_X1_lowerSignedGreatest (f_X1_raiseSignedLeast (f_X1_lowerGreatest (f_X1_raiseLeast (f_X1_setBits n0 (n0.1 ||| n1.1) (n0.2.1 &&& n1.2.1)) n1.2.2.1) n1.2.2.2.1) n1.2.2.2.2.1) n1.2.2.2.2.2) := d_ls (d_rs (d_lg (d_rl (dsb (ds_same h0 h1)))))
  exact d2i (d2m k (dbe k)) (d2m h0 h1)
theorem d_above (h0 : x_dis n0) (h1 : x_dis n1) : d2 (f_X3_above n0 n1) := by
  unfold f_X3_above
  exact d2i (d2m h0 h1) (d2i (d2m h0 h1) (d2m (d_rl h0) (d_lg h1)))
theorem d_notBelow (h0 : x_dis n0) (h1 : x_dis n1) : d2 (f_X3_notBelow n0 n1) := by
  unfold f_X3_notBelow
  exact d2m (d_rl h0) (d_lg h1)
theorem d_greater (h0 : x_dis n0) (h1 : x_dis n1) : d2 (f_X3_greater n0 n1) := by
  unfold f_X3_greater
  exact d2i (d2m h0 h1) (d2i (d2m h0 h1) (d2m (d_rs h0) (d_ls h1)))
theorem d_notLess (h0 : x_dis n0) (h1 : x_dis n1) : d2 (f_X3_notLess n0 n1) := by
  unfold f_X3_notLess
  exact d2m (d_rs h0) (d_ls h1)
theorem d_notSame (h0 : x_dis n0) (h1 : x_dis n1) : d2 (f_X3_notSame n0 n1) := by
  unfold f_X3_notSame
  exact d2i (d2i (d2m h0 h1) (d2i (d2m h0 (d_xc h1)) (d2m h0 (d_xc h1)))) (d2i (d2m (d_xc h0) h1) (d2i (d2m (d_xc h0) h1) (d2i (d2m (d_xc h0) (d_xc h1)) (d2m (d_xc h0) (d_xc h1)))))
theorem d_meet (h0 : x_dis n0) (h1 : x_dis n1) : d2 (f_X3_meet n0 n1) := by
  unfold f_X3_meet
  exact d2i (d2m h0 h1) (d2i (d2i (d2m h0 h1) (d2m h0 (d_lo h1))) (d2i (d2m (d_lo h0) h1) (d2m (d_lo h0) (d_lo h1))))
theorem d_notMeet (h0 : x_dis n0) (h1 : x_dis n1) : d2 (f_X3_notMeet n0 n1) := by
  unfold f_X3_notMeet
  exact d2i (d2i (d2i (d2m h0 h1) (d2m h0 (d_lz h1))) (d2i (d2m (d_lz h0) h1) (d2m (d_lz h0) (d_lz h1)))) (d2m h0 h1)
theorem d_apply (h0 : x_dis n0) (h1 : x_dis n1) : d2 (f_X3_apply n0 n1 r) := by
  unfold f_X3_apply
  exact d2i (d2e (d_same h0 h1)) (d2i (d2e (d_above h0 h1)) (d2i (d2e (d_notBelow h0 h1)) (d2i (d2e (d_meet h0 h1)) (d2i (d2e (d_notSame h0 h1)) (d2i (d2e (d_greater h0 h1)) (d2i (d2e (d_notLess h0 h1)) (d2i (d2s (d_above h1 h0)) (d2i (d2s (d_notBelow h1 h0)) (d2i (d2s (d_greater h1 h0)) (d2i (d2s (d_notLess h1 h0)) (d2i (d2e (d_notMeet h0 h1)) (d2m h0 h1))))))))))))
theorem d_learn (h0 : x_dis n0) (h1 : x_dis n1) : d2 (f_X3_learn n0 n1 r) := by
  unfold f_X3_learn
  obtain ⟨k0, k1⟩ := d_apply (r := r) h0 h1
  exact d2i (d2m k0 k1) (d2i (d2m (dn_settle k0) k1) (d2i (d2m (dn_settle k0) (dn_settle k1)) (d2m (dn_settle k0) (dn_settle k1))))
theorem s34 {T : Nm × Nm × Nm × Nm × Int32} {a b c d : Nm} {k : Int32} (e : T = (a, b, c, d, k)) (hc : x_dis c) (hd : x_dis d) : x_dis T.2.2.1 ∧ x_dis T.2.2.2.1 := by
  subst e
  exact ⟨hc, hd⟩
theorem d_tell (h2 : x_dis n2) (h3 : x_dis n3) : x_dis (f_X3_tell n0 n1 n2 n3 r p4).2.2.1 ∧ x_dis (f_X3_tell n0 n1 n2 n3 r p4).2.2.2.1 := by
  by_cases c : p4 = 0 ∨ ¬ f_X3_fitsNarrow n2 n3 r = 0
  · by_cases hL : (f_X3_learn n2 n3 r).2.2 = 0
    · exact s34 (te_fail n0 n1 n2 n3 c hL) h2 h3
    · obtain ⟨k0, k1⟩ := d_learn (r := r) h2 h3
      exact s34 (te_whole n0 n1 n2 n3 c hL) k0 k1
  · have c1 : ¬ p4 = 0 := fun h => c (Or.inl h)
    have c2 : f_X3_fitsNarrow n2 n3 r = 0 := Decidable.byContradiction fun h => c (Or.inr h)
    by_cases hs : f_X3_isSigned r = 0
    · obtain ⟨a, b, e⟩ := te_nar n0 n1 n2 n3 c1 c2 hs
      exact s34 e h2 h3
    · exact s34 (te_sgn n0 n1 n2 n3 c1 c2 hs) h2 h3
end DHO
def x_inv (sg : Nat → Nm) : Prop := ∀ k, k < 16 → x_dis (sg k)
section INV
variable {sg : Nat → Nm} {st : Md} {x1 x2 x3 x4 x5 : Nm} {p1 p2 p3 p4 p5 : Int32} {q2 q3 : Int64}
theorem iv_up {i : Nat} {n : Nm} (h : x_inv sg) (hn : x_dis n) : x_inv (va_up sg i n) := fun k hk => by
  by_cases c : k = i
  · rw [c, va_up_self]
    exact hn
  · rw [va_up_ne _ _ c]
    exact h k hk
theorem iv_i {α : Type} {c : Prop} [Decidable c] {r s : (Nat → Nm) × α} (hx : c → x_inv r.1) (hy : ¬ c → x_inv s.1) : x_inv (if c then r else s).1 := by
  by_cases q : c
  · rw [if_pos q]
    exact hx q
  · rw [if_neg q]
    exact hy q
theorem iv_m {α : Type} {s : Nat → Nm} {k : α} (h : x_inv s) : x_inv (s, k).1 := h
theorem d_any {n : Nm} : x_dis (f_X1_becomeAny n) := by
  rw [an_tup]
  exact ds_0 _
theorem iv_exact (h : x_inv sg) : x_inv (f_X0_exact sg x1 x2 x3 x4 x5 p1 q2).1 := by
  unfold f_X0_exact
  exact iv_i (fun _ => iv_m h) (fun _ => iv_m (iv_up h dex))
theorem iv_any (h : x_inv sg) : x_inv (f_X0_any sg x1 x2 x3 x4 x5 p1).1 := by
  unfold f_X0_any
  exact iv_i (fun _ => iv_m h) (fun _ => iv_m (iv_up h d_any))
theorem iv_3 {i : Nat} {a b : Nm} (h : x_inv sg) (ha : x_dis a) (hb : x_dis b) : x_inv (va_up (va_up (va_up sg i a) i b) i (f_X1_settle (va_up (va_up sg i a) i b i)).1) := by
  rw [va_up_self]
  exact iv_up (iv_up (iv_up h ha) hb) (dn_settle hb)
theorem iv_bits (h : x_inv sg) : x_inv (f_X0_bits sg x1 x2 x3 x4 x5 p1 q2 q3).1 := by
  unfold f_X0_bits
  exact iv_i (fun _ => iv_m h) (fun _ => iv_m (iv_3 h d_any (dsb (ds_mask _ _))))
theorem d_at {i : Nat} {n : Nm} (hn : x_dis n) : x_dis (va_up sg i n i) := by
  rw [va_up_self]
  exact hn
theorem iv_bounds (h : x_inv sg) : x_inv (f_X0_bounds sg x1 x2 x3 x4 x5 p1 q2 q3 p4).1 := by
  unfold f_X0_bounds
  exact iv_i (fun _ => iv_m h) (fun _ => iv_i (fun _ => iv_i (fun _ => iv_m (iv_3 h d_any (dsu (d_at d_any)))) (fun _ => iv_m h)) (fun _ => iv_i (fun _ => iv_m (iv_3 h d_any (dss (d_at d_any)))) (fun _ => iv_m h)))
theorem iv_operate (h : x_inv sg) : x_inv (f_X0_operate sg x1 x2 x3 x4 x5 p1 p2 p3 p4 p5).1 := by
  unfold f_X0_operate
  exact iv_i (fun _ => iv_m h) (fun _ => iv_i (fun _ => iv_m h) (fun c3 => iv_i (fun _ => iv_m h) (fun c4 => iv_i (fun _ => iv_m h) (fun _ => iv_i (fun _ => iv_m (iv_up h (dbe (dn_compute (h _ (nb_lt c3)) (h _ (nb_lt c4)))))) (fun _ => iv_m h)))))
theorem iv_holds (h : x_inv sg) : x_inv (f_X0_holds sg x1 x2 x3 x4 x5 p1 p2 p3 p4).1 := by
  unfold f_X0_holds
  exact iv_i (fun _ => iv_m h) (fun c2 => iv_i (fun _ => iv_m h) (fun c3 => iv_i (fun _ => iv_m h) (fun _ => iv_i (fun _ => iv_m h) (fun _ => iv_i (fun _ => iv_m (iv_up (iv_up h (d_tell (h _ (nb_lt c2)) (h _ (nb_lt c3))).1) (d_tell (h _ (nb_lt c2)) (h _ (nb_lt c3))).2)) (fun _ => iv_m h)))))
/-! look; the calls that throw -/
abbrev lk_ok (p2 : Int32) : Prop := p2 = 0 ∨ p2 = 1 ∨ p2 = 2 ∨ p2 = 3 ∨ p2 = 4 ∨ p2 = 5
theorem lk_of {p2 : Int32} (h0 : ¬ p2 < 0) (h1 : ¬ 6 ≤ p2) : lk_ok p2 := by
  have h1 : p2 ≤ 5 := by
    rw [Int32.le_iff_toInt_le] at h1 ⊢
    have e6 : (6 : Int32).toInt = 6 := by decide
    have e5 : (5 : Int32).toInt = 5 := by decide
    omega
  obtain ⟨j, hj, rfl⟩ := nI_of2 (M := 5) (n := 5) (by decide) h0 h1
  have q : ∀ j, j ≤ 5 → (nI j = 0 ∨ nI j = 1 ∨ nI j = 2 ∨ nI j = 3 ∨ nI j = 4 ∨ nI j = 5) := by decide +kernel
  exact q j hj
theorem ml_look (hr : x_rel sg st) (c : ¬ f_X0_isNumber p1 = 0) (h : lk_ok p2) : f_M_look st p1 p2 = (0, f_X0_look sg x1 x2 x3 x4 x5 p1 p2) := by
  have e := hr _ (nb_lt c)
  rcases h with rfl | rfl | rfl | rfl | rfl | rfl
  · have a : f_X0_look sg x1 x2 x3 x4 x5 p1 0 = (sg p1.toNatClampNeg).1 := if_pos rfl
    rw [a, e]
    exact (if_neg c).trans ((if_neg (by decide)).trans ((if_neg (by decide)).trans (if_pos rfl)))
  · have a : f_X0_look sg x1 x2 x3 x4 x5 p1 1 = (sg p1.toNatClampNeg).2.1 := (if_neg (by decide)).trans (if_pos rfl)
    rw [a, e]
    exact (if_neg c).trans ((if_neg (by decide)).trans ((if_neg (by decide)).trans ((if_neg (by decide)).trans (if_pos rfl))))
  · have a : f_X0_look sg x1 x2 x3 x4 x5 p1 2 = (sg p1.toNatClampNeg).2.2.1 := (if_neg (by decide)).trans ((if_neg (by decide)).trans (if_pos rfl))
    rw [a, e]
    exact (if_neg c).trans ((if_neg (by decide)).trans ((if_neg (by decide)).trans ((if_neg (by decide)).trans ((if_neg (by decide)).trans (if_pos rfl)))))
  · have a : f_X0_look sg x1 x2 x3 x4 x5 p1 3 = (sg p1.toNatClampNeg).2.2.2.1 := (if_neg (by decide)).trans ((if_neg (by decide)).trans ((if_neg (by decide)).trans (if_pos rfl)))
    rw [a, e]
    exact (if_neg c).trans ((if_neg (by decide)).trans ((if_neg (by decide)).trans ((if_neg (by decide)).trans ((if_neg (by decide)).trans ((if_neg (by decide)).trans (if_pos rfl))))))
  · have a : f_X0_look sg x1 x2 x3 x4 x5 p1 4 = (sg p1.toNatClampNeg).2.2.2.2.1 := (if_neg (by decide)).trans ((if_neg (by decide)).trans ((if_neg (by decide)).trans ((if_neg (by decide)).trans (if_pos rfl))))
    rw [a, e]
    exact (if_neg c).trans ((if_neg (by decide)).trans ((if_neg (by decide)).trans ((if_neg (by decide)).trans ((if_neg (by decide)).trans ((if_neg (by decide)).trans ((if_neg (by decide)).trans (if_pos rfl)))))))
  · have a : f_X0_look sg x1 x2 x3 x4 x5 p1 5 = (sg p1.toNatClampNeg).2.2.2.2.2 := (if_neg (by decide)).trans ((if_neg (by decide)).trans ((if_neg (by decide)).trans ((if_neg (by decide)).trans ((if_neg (by decide)).trans (if_pos rfl)))))
    rw [a, e]
    exact (if_neg c).trans ((if_neg (by decide)).trans ((if_neg (by decide)).trans ((if_neg (by decide)).trans ((if_neg (by decide)).trans ((if_neg (by decide)).trans ((if_neg (by decide)).trans (if_neg (by decide))))))))
theorem ml_look_x (h : f_X0_isNumber p1 = 0 ∨ ¬ lk_ok p2) : f_M_look st p1 p2 = (1, 0) := by
  by_cases c : f_X0_isNumber p1 = 0
  · exact if_pos c
  · have h : ¬ lk_ok p2 := h.elim (fun q => absurd q c) id
    by_cases c0 : p2 < 0
    · exact (if_neg c).trans (if_pos c0)
    · by_cases c6 : 6 ≤ p2
      · exact (if_neg c).trans ((if_neg c0).trans (if_pos c6))
      · exact absurd (lk_of c0 c6) h
theorem ml_has_x (c : f_X0_isNumber p1 = 0) : f_M_has st p1 q2 = (1, 0) := if_pos c
theorem ml_covers_x (h : f_X0_isNumber p1 = 0 ∨ f_X0_isNumber p2 = 0) : f_M_covers st p1 p2 = (1, 0) := by
  by_cases c : f_X0_isNumber p1 = 0
  · exact if_pos c
  · exact (if_neg c).trans (if_pos (h.elim (fun q => absurd q c) id))
end INV
abbrev cL_law : ByteArray := code
