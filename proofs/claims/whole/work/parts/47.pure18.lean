def m_wh (S : Md) (r p2 p3 : Int32) : Md × Int32 := if (f_M_tells S r).2 = 0 then ((f_M_tells S r).1, 0) else (f_M_copy (f_M_copy (f_M_tells S r).1 16 p2) 17 p3, 1)
theorem m_fold (S : Md) (r p2 p3 : Int32) : (if (f_M_tells S r).2 = 0 then ((f_M_tells S r).1, (0 : Int32)) else (f_M_copy (f_M_copy (f_M_tells S r).1 16 p2) 17 p3, 1)) = m_wh S r p2 p3 := rfl
theorem p_eta (p : Md × Int32) : (p.1, p.2) = p := rfl
theorem fn_s (S : Md) {r : Int32} (h : f_X3_isSigned r = 0) : f_X3_fitsNarrow (md_at S 16) (md_at S 17) r = if f_X0_isAbove (S.2.2.2.1 16) 4294967295 = 0 then (if f_X0_isAbove (S.2.2.2.1 17) 4294967295 = 0 then 1 else 0) else 0 := if_pos h
theorem fn_n (S : Md) {r : Int32} (h : ¬ f_X3_isSigned r = 0) : f_X3_fitsNarrow (md_at S 16) (md_at S 17) r = if f_X0_isAbove (S.2.2.2.1 16) 2147483647 = 0 then (if f_X0_isAbove (S.2.2.2.1 17) 2147483647 = 0 then 1 else 0) else 0 := if_neg h
theorem mh_eq (st : Md) {r p2 p3 p4 : Int32} (c2 : ¬ f_X0_isNumber p2 = 0) (c3 : ¬ f_X0_isNumber p3 = 0) (cn : ¬ p2 = p3) (h0 : ¬ r < 0) (h1 : r ≤ 11) : f_M_holds st r p2 p3 p4 = if p4 = 0 then m_wh (f_M_copy (f_M_copy st p2 16) p3 17) r p2 p3 else if f_X3_fitsNarrow (md_at (f_M_copy (f_M_copy st p2 16) p3 17) 16) (md_at (f_M_copy (f_M_copy st p2 16) p3 17) 17) r = 0 then (if f_X3_isSigned r = 0 then f_M_tells (f_M_narrow (f_M_narrow (f_M_copy (f_M_copy st p2 16) p3 17) 16) 17) r else (f_M_copy (f_M_copy st p2 16) p3 17, 1)) else m_wh (f_M_copy (f_M_copy st p2 16) p3 17) r p2 p3 := by
  unfold f_M_holds
  rw [un_is, un_is, if_neg c2, if_neg c3, if_neg cn, if_neg h0, if_pos h1]
  generalize f_M_copy (f_M_copy st p2 16) p3 17 = S
  simp only [m_fold, p_eta, un_below, i16, i17]
  have sg : ∀ {A B C : Md × Int32}, ∀ s : f_X3_isSigned r = 1, (if f_X0_isAbove (S.2.2.2.1 16) 2147483647 = 0 then (if f_X0_isAbove (S.2.2.2.1 17) 2147483647 = 0 then (if p4 = 0 then A else A) else if p4 = 0 then A else B) else if p4 = 0 then A else B) = if p4 = 0 then A else if f_X3_fitsNarrow (md_at S 16) (md_at S 17) r = 0 then (if f_X3_isSigned r = 0 then C else B) else A := by
    intro A B C s
    have hn : ¬ f_X3_isSigned r = 0 := by rw [s]; exact g_e10
    rw [fn_n S hn, if_neg hn]
    by_cases b1 : f_X0_isAbove (S.2.2.2.1 16) 2147483647 = 0 <;> by_cases b2 : f_X0_isAbove (S.2.2.2.1 17) 2147483647 = 0 <;> by_cases b3 : p4 = 0 <;> simp only [b1, b2, b3, if_true, if_false, g_e10]
  by_cases h5 : r = 5
  · rw [if_pos h5]
    exact sg (by rw [h5]; decide)
  rw [if_neg h5]
  by_cases h6 : r = 6
  · rw [if_pos h6]
    exact sg (by rw [h6]; decide)
  rw [if_neg h6]
  by_cases h9 : r = 9
  · rw [if_pos h9]
    exact sg (by rw [h9]; decide)
  rw [if_neg h9]
  by_cases h10 : r = 10
  · rw [if_pos h10]
    exact sg (by rw [h10]; decide)
  rw [if_neg h10]
  have hs : f_X3_isSigned r = 0 := (if_neg h5).trans ((if_neg h6).trans ((if_neg h9).trans (if_neg h10)))
  rw [fn_s S hs, if_pos hs]
  by_cases b1 : f_X0_isAbove (S.2.2.2.1 16) 4294967295 = 0 <;> by_cases b2 : f_X0_isAbove (S.2.2.2.1 17) 4294967295 = 0 <;> by_cases b3 : p4 = 0 <;> simp only [b1, b2, b3, if_true, if_false, g_e10]
section HOLDS
variable {sg : Nat → Nm} {st : Md} {x1 x2 x3 x4 x5 : Nm}
theorem te_whole (n0 n1 n2 n3 : Nm) {r p4 : Int32} (h : p4 = 0 ∨ ¬ f_X3_fitsNarrow n2 n3 r = 0) (hL : ¬ (f_X3_learn n2 n3 r).2.2 = 0) : f_X3_tell n0 n1 n2 n3 r p4 = ((f_X3_learn n2 n3 r).1, (f_X3_learn n2 n3 r).2.1, (f_X3_learn n2 n3 r).1, (f_X3_learn n2 n3 r).2.1, 1) := by
  unfold f_X3_tell
  by_cases c : p4 = 0
  · simp only [ml_become, c, hL, if_true, if_false]
  · have h' := h.resolve_left c
    simp only [ml_become, c, h', hL, if_false]
theorem te_fail (n0 n1 n2 n3 : Nm) {r p4 : Int32} (h : p4 = 0 ∨ ¬ f_X3_fitsNarrow n2 n3 r = 0) (hL : (f_X3_learn n2 n3 r).2.2 = 0) : f_X3_tell n0 n1 n2 n3 r p4 = ((f_X3_learn n2 n3 r).1, (f_X3_learn n2 n3 r).2.1, n2, n3, 0) := by
  unfold f_X3_tell
  by_cases c : p4 = 0
  · simp only [ml_become, c, hL, if_true]
  · have h' := h.resolve_left c
    simp only [ml_become, c, h', hL, if_false, if_true]
theorem te_sgn (n0 n1 n2 n3 : Nm) {r p4 : Int32} (c : ¬ p4 = 0) (h : f_X3_fitsNarrow n2 n3 r = 0) (hs : ¬ f_X3_isSigned r = 0) : f_X3_tell n0 n1 n2 n3 r p4 = (n2, n3, n2, n3, 1) := by
  unfold f_X3_tell
  simp only [ml_become, c, h, hs, if_false, if_true]
theorem te_nar (n0 n1 n2 n3 : Nm) {r p4 : Int32} (c : ¬ p4 = 0) (h : f_X3_fitsNarrow n2 n3 r = 0) (hs : f_X3_isSigned r = 0) : ∃ a b, f_X3_tell n0 n1 n2 n3 r p4 = (a, b, n2, n3, if (f_X3_learn (f_X1_narrow n2) (f_X1_narrow n3) r).2.2 = 0 then 0 else 1) := by
  unfold f_X3_tell
  by_cases q : (f_X3_learn (f_X1_narrow n2) (f_X1_narrow n3) r).2.2 = 0
  · simp only [ml_become, c, h, hs, q, if_false, if_true]
    exact ⟨_, _, rfl⟩
  · simp only [ml_become, c, h, hs, q, if_false, if_true]
    exact ⟨_, _, rfl⟩
theorem xt_01 (R : Nm × Nm × Int32) : (x_tl R).2.2 = 0 ∨ (x_tl R).2.2 = 1 := by
  unfold x_tl
  split
  · exact Or.inl rfl
  · split
    · exact Or.inl rfl
    · split
      · exact Or.inl rfl
      · exact Or.inr rfl
theorem up_same (hr : x_rel sg st) {i : Nat} : x_rel (va_up sg i (sg i)) st := by
  intro k hk
  by_cases c : k = i
  · rw [c, va_up_self]
    rw [c] at hk
    exact hr _ hk
  · rw [va_up_ne _ _ c]
    exact hr k hk
theorem ml_holds (hr : x_rel sg st) (p1 p2 p3 p4 : Int32) : (f_M_holds st p1 p2 p3 p4).2 = (f_X0_holds sg x1 x2 x3 x4 x5 p1 p2 p3 p4).2.2.2 ∧ x_rel (f_X0_holds sg x1 x2 x3 x4 x5 p1 p2 p3 p4).1 (f_M_holds st p1 p2 p3 p4).1 := by
  have no : f_X0_holds sg x1 x2 x3 x4 x5 p1 p2 p3 p4 = (sg, x4, x5, 0) → f_M_holds st p1 p2 p3 p4 = (st, 0) → (f_M_holds st p1 p2 p3 p4).2 = (f_X0_holds sg x1 x2 x3 x4 x5 p1 p2 p3 p4).2.2.2 ∧ x_rel (f_X0_holds sg x1 x2 x3 x4 x5 p1 p2 p3 p4).1 (f_M_holds st p1 p2 p3 p4).1 := by
    intro eX eM
    rw [sp_fst eX, sp_snd (sp_snd (sp_snd eX)), sp_fst eM, sp_snd eM]
    exact ⟨rfl, hr⟩
  by_cases c2 : f_X0_isNumber p2 = 0
  · exact no (if_pos c2) (if_pos c2)
  by_cases c3 : f_X0_isNumber p3 = 0
  · exact no ((if_neg c2).trans (if_pos c3)) ((if_neg c2).trans (if_pos c3))
  by_cases cn : p2 = p3
  · exact no ((if_neg c2).trans ((if_neg c3).trans (if_pos cn))) ((if_neg c2).trans ((if_neg c3).trans (if_pos cn)))
  by_cases cl : p1 < 0
  · exact no ((if_neg c2).trans ((if_neg c3).trans ((if_neg cn).trans (if_pos cl)))) ((if_neg c2).trans ((if_neg c3).trans ((if_neg cn).trans (if_pos cl))))
  by_cases cg : p1 ≤ 11
  case neg => exact no ((if_neg c2).trans ((if_neg c3).trans ((if_neg cn).trans ((if_neg cl).trans (if_neg cg))))) ((if_neg c2).trans ((if_neg c3).trans ((if_neg cn).trans ((if_neg cl).trans (if_neg cg)))))
  have eX : f_X0_holds sg x1 x2 x3 x4 x5 p1 p2 p3 p4 = (va_up (va_up sg p2.toNatClampNeg (f_X3_tell x4 x5 (sg p2.toNatClampNeg) (sg p3.toNatClampNeg) p1 p4).2.2.1) p3.toNatClampNeg (f_X3_tell x4 x5 (sg p2.toNatClampNeg) (sg p3.toNatClampNeg) p1 p4).2.2.2.1, (f_X3_tell x4 x5 (sg p2.toNatClampNeg) (sg p3.toNatClampNeg) p1 p4).1, (f_X3_tell x4 x5 (sg p2.toNatClampNeg) (sg p3.toNatClampNeg) p1 p4).2.1, (f_X3_tell x4 x5 (sg p2.toNatClampNeg) (sg p3.toNatClampNeg) p1 p4).2.2.2.2) := (if_neg c2).trans ((if_neg c3).trans ((if_neg cn).trans ((if_neg cl).trans (if_pos cg))))
  have l2 := nb_lt c2
  have l3 := nb_lt c3
  have nij := nb_ne c2 c3 cn
  have a16 : md_at (f_M_copy (f_M_copy st p2 16) p3 17) 16 = sg p2.toNatClampNeg := by
    rw [ml_copy, ml_copy, i16, i17, md_at_ne _ _ (show (16 : Nat) ≠ 17 by decide), md_at_set, hr _ l2]
  have a17 : md_at (f_M_copy (f_M_copy st p2 16) p3 17) 17 = sg p3.toNatClampNeg := by
    rw [ml_copy, ml_copy, i16, i17, md_at_set, md_at_ne _ _ (show p3.toNatClampNeg ≠ 16 by omega), hr _ l3]
  have ak : ∀ k, k < 16 → md_at (f_M_copy (f_M_copy st p2 16) p3 17) k = md_at st k := by
    intro k hk
    rw [ml_copy, ml_copy, i16, i17, md_at_ne _ _ (show k ≠ 17 by omega), md_at_ne _ _ (show k ≠ 16 by omega)]
  have keep : ∀ S : Md, (∀ k, k < 16 → md_at S k = md_at st k) → x_rel (va_up (va_up sg p2.toNatClampNeg (sg p2.toNatClampNeg)) p3.toNatClampNeg (sg p3.toNatClampNeg)) S := by
    intro S hS k hk
    rw [hS k hk, ← hr k hk]
    by_cases q3 : k = p3.toNatClampNeg
    · rw [q3, va_up_self]
    · rw [va_up_ne _ _ q3]
      by_cases q2 : k = p2.toNatClampNeg
      · rw [q2, va_up_self]
      · rw [va_up_ne _ _ q2]
  have eM := mh_eq st (r := p1) (p4 := p4) c2 c3 cn cl cg
  rw [a16, a17] at eM
  rw [sp_fst eX, sp_snd (sp_snd (sp_snd eX)), eM]
  have whole : (p4 = 0 ∨ ¬ f_X3_fitsNarrow (sg p2.toNatClampNeg) (sg p3.toNatClampNeg) p1 = 0) → (m_wh (f_M_copy (f_M_copy st p2 16) p3 17) p1 p2 p3).2 = (f_X3_tell x4 x5 (sg p2.toNatClampNeg) (sg p3.toNatClampNeg) p1 p4).2.2.2.2 ∧ x_rel (va_up (va_up sg p2.toNatClampNeg (f_X3_tell x4 x5 (sg p2.toNatClampNeg) (sg p3.toNatClampNeg) p1 p4).2.2.1) p3.toNatClampNeg (f_X3_tell x4 x5 (sg p2.toNatClampNeg) (sg p3.toNatClampNeg) p1 p4).2.2.2.1) (m_wh (f_M_copy (f_M_copy st p2 16) p3 17) p1 p2 p3).1 := by
    intro hw
    obtain ⟨t1, t2, t3⟩ := ml_tells (f_M_copy (f_M_copy st p2 16) p3 17) cl cg
    rw [a16, a17] at t1 t2
    unfold m_wh
    by_cases q : (f_X3_learn (sg p2.toNatClampNeg) (sg p3.toNatClampNeg) p1).2.2 = 0
    · have eT := te_fail x4 x5 (sg p2.toNatClampNeg) (sg p3.toNatClampNeg) hw q
      rw [sp_fst (sp_snd (sp_snd eT)), sp_fst (sp_snd (sp_snd (sp_snd eT))), sp_snd (sp_snd (sp_snd (sp_snd eT))), if_pos (t1.trans q)]
      exact ⟨rfl, keep _ (fun k hk => (t3 k (by omega) (by omega)).trans (ak k hk))⟩
    · have eT := te_whole x4 x5 (sg p2.toNatClampNeg) (sg p3.toNatClampNeg) hw q
      rw [sp_fst (sp_snd (sp_snd eT)), sp_fst (sp_snd (sp_snd (sp_snd eT))), sp_snd (sp_snd (sp_snd (sp_snd eT))), if_neg (fun z => q (t1.symm.trans z))]
      refine ⟨rfl, ?_⟩
      obtain ⟨u1, u2⟩ := t2.resolve_left q
      dsimp only
      rw [ml_copy, ml_copy, i16, i17, u1, md_at_ne _ _ (show (17 : Nat) ≠ p2.toNatClampNeg by omega), u2]
      intro k hk
      by_cases q3 : k = p3.toNatClampNeg
      · rw [q3, va_up_self, md_at_set]
      · rw [va_up_ne _ _ q3, md_at_ne _ _ q3]
        by_cases q2 : k = p2.toNatClampNeg
        · rw [q2, va_up_self, md_at_set]
        · rw [va_up_ne _ _ q2, md_at_ne _ _ q2, t3 k (by omega) (by omega), ak k hk]
          exact hr k hk
  by_cases c4 : p4 = 0
  · rw [if_pos c4]
    exact whole (Or.inl c4)
  rw [if_neg c4]
  by_cases cf : f_X3_fitsNarrow (sg p2.toNatClampNeg) (sg p3.toNatClampNeg) p1 = 0
  · rw [if_pos cf]
    by_cases cs : f_X3_isSigned p1 = 0
    · rw [if_pos cs]
      obtain ⟨a, b, eT⟩ := te_nar x4 x5 (sg p2.toNatClampNeg) (sg p3.toNatClampNeg) c4 cf cs
      obtain ⟨t1, t2, t3⟩ := ml_tells (f_M_narrow (f_M_narrow (f_M_copy (f_M_copy st p2 16) p3 17) 16) 17) cl cg
      have b16 : md_at (f_M_narrow (f_M_narrow (f_M_copy (f_M_copy st p2 16) p3 17) 16) 17) 16 = f_X1_narrow (sg p2.toNatClampNeg) := by
        rw [ml_narrow, ml_narrow, i16, i17, md_at_ne _ _ (show (16 : Nat) ≠ 17 by decide), md_at_set, a16]
      have b17 : md_at (f_M_narrow (f_M_narrow (f_M_copy (f_M_copy st p2 16) p3 17) 16) 17) 17 = f_X1_narrow (sg p3.toNatClampNeg) := by
        rw [ml_narrow, ml_narrow, i16, i17, md_at_set, md_at_ne _ _ (show (17 : Nat) ≠ 16 by decide), a17]
      have bk : ∀ k, k < 16 → md_at (f_M_narrow (f_M_narrow (f_M_copy (f_M_copy st p2 16) p3 17) 16) 17) k = md_at st k := by
        intro k hk
        rw [ml_narrow, ml_narrow, i16, i17, md_at_ne _ _ (show k ≠ 17 by omega), md_at_ne _ _ (show k ≠ 16 by omega), ak k hk]
      rw [b16, b17] at t1
      rw [sp_fst (sp_snd (sp_snd eT)), sp_fst (sp_snd (sp_snd (sp_snd eT))), sp_snd (sp_snd (sp_snd (sp_snd eT)))]
      refine ⟨?_, keep _ (fun k hk => (t3 k (by omega) (by omega)).trans (bk k hk))⟩
      rw [t1]
      rcases xt_01 (f_X3_apply (f_X1_narrow (sg p2.toNatClampNeg)) (f_X1_narrow (sg p3.toNatClampNeg)) p1) with z | z
      · rw [← le_eq] at z
        rw [z, if_pos rfl]
      · rw [← le_eq] at z
        rw [z, if_neg g_e10]
    · rw [if_neg cs]
      have eT := te_sgn x4 x5 (sg p2.toNatClampNeg) (sg p3.toNatClampNeg) c4 cf cs
      rw [sp_fst (sp_snd (sp_snd eT)), sp_fst (sp_snd (sp_snd (sp_snd eT))), sp_snd (sp_snd (sp_snd (sp_snd eT)))]
      exact ⟨rfl, keep _ ak⟩
  · rw [if_neg cf]
    exact whole (Or.inr cf)
end HOLDS
