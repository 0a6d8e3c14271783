/-! a number that a long is in settles, and keeps it -/
def x_mem (c : Int64) (n : Nm) : Prop := (∀ i, i < 64 → (uN n.2.1).testBit i = false → (uN c).testBit i = (uN n.1).testBit i) ∧ (∀ i, i < 64 → (uN n.2.1).testBit i = true → (uN n.1).testBit i = false) ∧ uN n.2.2.1 ≤ uN c ∧ uN c ≤ uN n.2.2.2.1 ∧ n.2.2.2.2.1.toInt ≤ c.toInt ∧ c.toInt ≤ n.2.2.2.2.2.toInt
section MEM
variable {c a b l g e f : Int64}
theorem sub_le {x y : Int64} (h : ∀ i, i < 64 → (uN x).testBit i = true → (uN y).testBit i = true) : uN x ≤ uN y := by
  have e : x &&& y = x := by
    apply uN_ext
    intro i hi
    rw [tb_and]
    cases hx : (uN x).testBit i
    · rfl
    · rw [h i hi hx]
      rfl
  have e2 : uN x = (uN x &&& uN y) := by rw [← uN_an, e]
  rw [e2]
  exact Nat.and_le_right
theorem gr_le {x y : Int64} (h1 : uN x ≤ uN c) (h2 : uN y ≤ uN c) : uN (f_M_greater x y) ≤ uN c := by
  rw [un_greater]
  split
  · exact h1
  · exact h2
theorem le_ge {x y : Int64} (h1 : uN c ≤ uN x) (h2 : uN c ≤ uN y) : uN c ≤ uN (f_M_lesser x y) := by
  rw [un_lesser]
  split
  · exact h1
  · exact h2
theorem mk_mem (h1 : ∀ i, i < 64 → (uN b).testBit i = false → (uN c).testBit i = (uN a).testBit i) (h2 : ∀ i, i < 64 → (uN b).testBit i = true → (uN a).testBit i = false) (h3 : uN l ≤ uN c) (h4 : uN c ≤ uN g) (h5 : e.toInt ≤ c.toInt) (h6 : c.toInt ≤ f.toInt) : x_mem c (a, b, l, g, e, f) := ⟨h1, h2, h3, h4, h5, h6⟩
theorem mem_B {n : Nm} (h : x_mem c n) : x_mem c (f_X1_boundByBits n) := by
  obtain ⟨a, b, l, g, e, f⟩ := n
  obtain ⟨h1, h2, h3, h4, h5, h6⟩ := h
  dsimp only at h1 h2 h3 h4 h5 h6
  rw [bb_eq]
  refine mk_mem h1 h2 (gr_le h3 (sub_le fun i hi ha => ?_)) (le_ge h4 (sub_le fun i hi hc => ?_)) h5 h6
  · cases hb : (uN b).testBit i
    · rw [h1 i hi hb]
      exact ha
    · rw [h2 i hi hb] at ha
      cases ha
  · rw [tb_or]
    cases hb : (uN b).testBit i
    · rw [← h1 i hi hb, hc]
      rfl
    · rw [Bool.or_true]
theorem mem_S {n : Nm} (h : x_mem c n) : x_mem c (f_X1_boundSignedByUnsigned n) := by
  obtain ⟨a, b, l, g, e, f⟩ := n
  obtain ⟨h1, h2, h3, h4, h5, h6⟩ := h
  dsimp only at h1 h2 h3 h4 h5 h6
  by_cases s : l < 0 ↔ g < 0
  · rw [bs_pos s]
    rw [un_lt0, un_lt0] at s
    have il := uN_int l
    have ig := uN_int g
    have ic := uN_int c
    have bl := uN_lt l
    have bg := uN_lt g
    have bc := uN_lt c
    have k1 : l.toInt ≤ c.toInt := by
      rw [il, ic]
      split <;> split <;> omega
    have k2 : c.toInt ≤ g.toInt := by
      rw [ig, ic]
      split <;> split <;> omega
    refine ⟨h1, h2, h3, h4, ?_, ?_⟩
    · show (if l < e then e else l).toInt ≤ c.toInt
      split
      · exact h5
      · exact k1
    · show c.toInt ≤ (if g < f then g else f).toInt
      split
      · exact k2
      · exact h6
  · rw [bs_neg s]
    exact ⟨h1, h2, h3, h4, h5, h6⟩
theorem mem_U {n : Nm} (h : x_mem c n) : x_mem c (f_X1_boundUnsignedBySigned n) := by
  obtain ⟨a, b, l, g, e, f⟩ := n
  obtain ⟨h1, h2, h3, h4, h5, h6⟩ := h
  dsimp only at h1 h2 h3 h4 h5 h6
  by_cases s : e < 0 ↔ f < 0
  · rw [bu_pos s]
    rw [un_lt0, un_lt0] at s
    have ie := uN_int e
    have jf := uN_int f
    have ic := uN_int c
    have be := uN_lt e
    have bf := uN_lt f
    have bc := uN_lt c
    rw [ie, ic] at h5
    rw [jf, ic] at h6
    have k1 : uN e ≤ uN c := by
      split at h5 <;> split at h5 <;> split at h6 <;> split at h6 <;> omega
    have k2 : uN c ≤ uN f := by
      split at h5 <;> split at h5 <;> split at h6 <;> split at h6 <;> omega
    rw [← ie, ← ic] at h5
    rw [← jf, ← ic] at h6
    exact mk_mem h1 h2 (gr_le h3 k1) (le_ge h4 k2) h5 h6
  · rw [bu_neg s]
    exact ⟨h1, h2, h3, h4, h5, h6⟩
theorem mem_X {n : Nm} (h : x_mem c n) : f_X1_isCrossed n = 0 := by
  obtain ⟨h1, h2, h3, h4, h5, h6⟩ := h
  have k : n.2.2.2.2.1 ≤ n.2.2.2.2.2 := by
    rw [Int64.le_iff_toInt_le]
    omega
  exact (if_pos (un_a0.mpr (by omega))).trans (if_pos ((lg_cmp_le _ _).mpr k))
theorem shared {l g c : Int64} (h3 : uN l ≤ uN c) (h4 : uN c ≤ uN g) {i : Nat} (hi : i < 64) (ho : (uN (x_open (l ^^^ g))).testBit i = false) : (uN c).testBit i = (uN l).testBit i := by
  rcases x_open_sp (l ^^^ g) with ⟨d0, o0⟩ | ⟨h, d1, d2, o1⟩
  · have : l ^^^ g = 0 := uN_inj d0
    have e : uN l = uN g := by
      have q : ∀ j, (uN l).testBit j = (uN g).testBit j := by
        intro j
        have t := tb_xor l g j
        rw [d0, Nat.zero_testBit] at t
        revert t
        cases (uN l).testBit j <;> cases (uN g).testBit j <;> decide
      exact Nat.eq_of_testBit_eq q
    have : uN c = uN l := by omega
    rw [this]
  · rw [o1, Nat.testBit_two_pow_sub_one] at ho
    have hw : ¬ i < h + 1 := of_decide_eq_false ho
    have e : uN l / 2 ^ (h + 1) = uN g / 2 ^ (h + 1) := by
      apply Nat.eq_of_testBit_eq
      intro j
      rw [Nat.testBit_div_two_pow, Nat.testBit_div_two_pow]
      have t := tb_xor l g (j + (h + 1))
      rw [Nat.testBit_lt_two_pow (Nat.lt_of_lt_of_le d2 (Nat.pow_le_pow_right (by decide) (by omega)))] at t
      revert t
      cases (uN l).testBit (j + (h + 1)) <;> cases (uN g).testBit (j + (h + 1)) <;> decide
    have e2 : uN c / 2 ^ (h + 1) = uN l / 2 ^ (h + 1) := by
      have q1 := Nat.div_le_div_right (c := 2 ^ (h + 1)) h3
      have q2 := Nat.div_le_div_right (c := 2 ^ (h + 1)) h4
      omega
    have t1 : (uN c / 2 ^ (h + 1)).testBit (i - (h + 1)) = (uN c).testBit (i - (h + 1) + (h + 1)) := by rw [Nat.testBit_div_two_pow]
    have t2 : (uN l / 2 ^ (h + 1)).testBit (i - (h + 1)) = (uN l).testBit (i - (h + 1) + (h + 1)) := by rw [Nat.testBit_div_two_pow]
    rw [Nat.sub_add_cancel (by omega)] at t1 t2
    rw [← t1, ← t2, e2]
theorem mem_L {n : Nm} (h : x_mem c n) : (f_X1_learnSharedHighBits n).2 = 1 ∧ x_mem c (f_X1_learnSharedHighBits n).1 := by
  obtain ⟨a, b, l, g, e, f⟩ := n
  obtain ⟨h1, h2, h3, h4, h5, h6⟩ := h
  dsimp only at h1 h2 h3 h4 h5 h6
  have hz : ((a ^^^ l) &&& (b ^^^ (-1))) &&& (x_open (l ^^^ g) ^^^ (-1)) = 0 := by
    apply uN_ext
    intro i hi
    rw [tb_and, tb_and, tb_xor, tb_xor, tb_xor, tb_m1 i hi]
    show _ = (0 : Nat).testBit i
    rw [Nat.zero_testBit]
    cases hb : (uN b).testBit i
    · cases ho : (uN (x_open (l ^^^ g))).testBit i
      · rw [← h1 i hi hb, shared h3 h4 hi ho]
        cases (uN l).testBit i <;> rfl
      · cases (uN a).testBit i <;> cases (uN l).testBit i <;> rfl
    · cases (uN a).testBit i <;> cases (uN l).testBit i <;> cases (uN (x_open (l ^^^ g))).testBit i <;> rfl
  have eL : f_X1_learnSharedHighBits (a, b, l, g, e, f) = (((a &&& x_open (l ^^^ g)) ||| (l &&& (x_open (l ^^^ g) ^^^ (-1))), b &&& x_open (l ^^^ g), l, g, e, f), 1) := lsh_eq.trans (if_pos ((lg_cmp_eq _ _).mpr hz))
  rw [sp_fst eL, sp_snd eL]
  refine ⟨rfl, ?_, ?_, h3, h4, h5, h6⟩
  · intro i hi hb
    have hb : (uN (b &&& x_open (l ^^^ g))).testBit i = false := hb
    show (uN c).testBit i = (uN ((a &&& x_open (l ^^^ g)) ||| (l &&& (x_open (l ^^^ g) ^^^ (-1))))).testBit i
    rw [tb_and] at hb
    rw [tb_or, tb_and, tb_and, tb_xor, tb_m1 i hi]
    cases ho : (uN (x_open (l ^^^ g))).testBit i
    · rw [shared h3 h4 hi ho]
      cases (uN a).testBit i <;> cases (uN l).testBit i <;> rfl
    · rw [ho, Bool.and_true] at hb
      rw [h1 i hi hb]
      cases (uN a).testBit i <;> cases (uN l).testBit i <;> rfl
  · intro i hi hb
    have hb : (uN (b &&& x_open (l ^^^ g))).testBit i = true := hb
    show (uN ((a &&& x_open (l ^^^ g)) ||| (l &&& (x_open (l ^^^ g) ^^^ (-1))))).testBit i = false
    rw [tb_and] at hb
    rw [tb_or, tb_and, tb_and, tb_xor, tb_m1 i hi]
    cases ho : (uN (x_open (l ^^^ g))).testBit i
    · rw [ho, Bool.and_false] at hb
      cases hb
    · rw [ho, Bool.and_true] at hb
      rw [h2 i hi hb]
      cases (uN l).testBit i <;> rfl
theorem mem_settle {n : Nm} (h : x_mem c n) : (f_X1_settle n).2 = 1 ∧ x_mem c (f_X1_settle n).1 := by
  have b1 := mem_B h
  have s1 := mem_S b1
  have u1 := mem_U s1
  obtain ⟨f1, l1⟩ := mem_L u1
  have b2 := mem_B l1
  have s2 := mem_S b2
  have u2 := mem_U s2
  obtain ⟨f2, l2⟩ := mem_L u2
  have b3 := mem_B l2
  have s3 := mem_S b3
  have u3 := mem_U s3
  obtain ⟨f3, l3⟩ := mem_L u3
  have n1 : ∀ {x : Int32}, x = 1 → ¬ x = 0 := fun q => by rw [q]; exact g_e10
  have e2 : f_X1_settle n = ((f_X1_learnSharedHighBits (f_X1_boundUnsignedBySigned (f_X1_boundSignedByUnsigned (f_X1_boundByBits ((f_X1_learnSharedHighBits (f_X1_boundUnsignedBySigned (f_X1_boundSignedByUnsigned (f_X1_boundByBits ((f_X1_learnSharedHighBits (f_X1_boundUnsignedBySigned (f_X1_boundSignedByUnsigned (f_X1_boundByBits n)))).1))))).1))))).1, 1) := (if_pos (mem_X b1)).trans ((if_pos (mem_X s1)).trans ((if_pos (mem_X u1)).trans ((if_neg (n1 f1)).trans ((if_pos (mem_X b2)).trans ((if_pos (mem_X s2)).trans ((if_pos (mem_X u2)).trans ((if_neg (n1 f2)).trans ((if_pos (mem_X b3)).trans ((if_pos (mem_X s3)).trans ((if_pos (mem_X u3)).trans (if_neg (n1 f3))))))))))))
  rw [sp_fst e2, sp_snd e2]
  exact ⟨rfl, l3⟩
end MEM
