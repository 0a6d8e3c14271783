/-! the desk's numbers are the reference's first sixteen -/
def x_rel (sg : Nat → Nm) (st : Md) : Prop := ∀ k, k < 16 → sg k = md_at st k
section REL
variable {sg : Nat → Nm} {st : Md} {x1 x2 x3 x4 x5 : Nm}
theorem rel_up (hr : x_rel sg st) {i : Nat} {n : Nm} : x_rel (va_up sg i n) (md_set st i n) := by
  intro k hk
  by_cases c : k = i
  · rw [c, va_up_self, md_at_set]
  · rw [va_up_ne _ _ c, md_at_ne _ _ c]
    exact hr k hk
theorem nb16 {i : Int32} (h : ¬ f_X0_isNumber i = 0) : i.toNatClampNeg ≠ 16 ∧ i.toNatClampNeg ≠ 17 ∧ i.toNatClampNeg ≠ 18 := by
  have := nb_lt h
  omega
theorem ml_exact (hr : x_rel sg st) (p1 : Int32) (p2 : Int64) : (f_M_exact st p1 p2).2 = (f_X0_exact sg x1 x2 x3 x4 x5 p1 p2).2 ∧ x_rel (f_X0_exact sg x1 x2 x3 x4 x5 p1 p2).1 (f_M_exact st p1 p2).1 := by
  by_cases c : f_X0_isNumber p1 = 0
  · have eX : f_X0_exact sg x1 x2 x3 x4 x5 p1 p2 = (sg, 0) := if_pos c
    have eM : f_M_exact st p1 p2 = (st, f_M_is p1) := if_pos c
    rw [sp_fst eX, sp_snd eX, sp_fst eM, sp_snd eM]
    exact ⟨c, hr⟩
  · have eX : f_X0_exact sg x1 x2 x3 x4 x5 p1 p2 = (va_up sg p1.toNatClampNeg (f_X1_becomeExact (sg p1.toNatClampNeg) p2), 1) := if_neg c
    have eM : f_M_exact st p1 p2 = (f_M_setExact st p1 p2, f_M_is p1) := if_neg c
    rw [sp_fst eX, sp_snd eX, sp_fst eM, sp_snd eM, ml_setExact st p1 p2 (sg p1.toNatClampNeg)]
    refine ⟨?_, rel_up hr⟩
    rw [un_is]
    unfold f_X0_isNumber at c ⊢
    split at c
    · exact absurd rfl c
    · split at c
      · exact absurd rfl c
      · rename_i h1 h2
        rw [if_neg h1, if_neg h2]
theorem is_one {p1 : Int32} (c : ¬ f_X0_isNumber p1 = 0) : f_M_is p1 = 1 := by
  rw [un_is]
  unfold f_X0_isNumber at c ⊢
  split at c
  · exact absurd rfl c
  · split at c
    · exact absurd rfl c
    · rename_i h1 h2
      rw [if_neg h1, if_neg h2]
theorem ml_any (hr : x_rel sg st) (p1 : Int32) : (f_M_any st p1).2 = (f_X0_any sg x1 x2 x3 x4 x5 p1).2 ∧ x_rel (f_X0_any sg x1 x2 x3 x4 x5 p1).1 (f_M_any st p1).1 := by
  by_cases c : f_X0_isNumber p1 = 0
  · have eX : f_X0_any sg x1 x2 x3 x4 x5 p1 = (sg, 0) := if_pos c
    have eM : f_M_any st p1 = (st, f_M_is p1) := if_pos c
    rw [sp_fst eX, sp_snd eX, sp_fst eM, sp_snd eM]
    exact ⟨c, hr⟩
  · have eX : f_X0_any sg x1 x2 x3 x4 x5 p1 = (va_up sg p1.toNatClampNeg (f_X1_becomeAny (sg p1.toNatClampNeg)), 1) := if_neg c
    have eM : f_M_any st p1 = (f_M_setAny st p1, f_M_is p1) := if_neg c
    rw [sp_fst eX, sp_snd eX, sp_fst eM, sp_snd eM, ml_setAny st p1 (sg p1.toNatClampNeg)]
    exact ⟨is_one c, rel_up hr⟩
theorem ml_operate (hr : x_rel sg st) (p1 p2 p3 p4 p5 : Int32) : (f_M_operate st p1 p2 p3 p4 p5).2 = (f_X0_operate sg x1 x2 x3 x4 x5 p1 p2 p3 p4 p5).2.2.2.2 ∧ x_rel (f_X0_operate sg x1 x2 x3 x4 x5 p1 p2 p3 p4 p5).1 (f_M_operate st p1 p2 p3 p4 p5).1 := by
  have no : f_X0_operate sg x1 x2 x3 x4 x5 p1 p2 p3 p4 p5 = (sg, x1, x2, x3, 0) → f_M_operate st p1 p2 p3 p4 p5 = (st, 0) → (f_M_operate st p1 p2 p3 p4 p5).2 = (f_X0_operate sg x1 x2 x3 x4 x5 p1 p2 p3 p4 p5).2.2.2.2 ∧ x_rel (f_X0_operate sg x1 x2 x3 x4 x5 p1 p2 p3 p4 p5).1 (f_M_operate st p1 p2 p3 p4 p5).1 := by
    intro eX eM
    rw [sp_fst eX, sp_snd (sp_snd (sp_snd (sp_snd eX))), sp_fst eM, sp_snd eM]
    exact ⟨rfl, hr⟩
  by_cases c1 : f_X0_isNumber p1 = 0
  · exact no (if_pos c1) (if_pos c1)
  by_cases c3 : f_X0_isNumber p3 = 0
  · exact no ((if_neg c1).trans (if_pos c3)) ((if_neg c1).trans (if_pos c3))
  by_cases c4 : f_X0_isNumber p4 = 0
  · exact no ((if_neg c1).trans ((if_neg c3).trans (if_pos c4))) ((if_neg c1).trans ((if_neg c3).trans (if_pos c4)))
  by_cases cl : p2 < 0
  · exact no ((if_neg c1).trans ((if_neg c3).trans ((if_neg c4).trans (if_pos cl)))) ((if_neg c1).trans ((if_neg c3).trans ((if_neg c4).trans (if_pos cl))))
  by_cases cg : p2 ≤ 14
  case neg => exact no ((if_neg c1).trans ((if_neg c3).trans ((if_neg c4).trans ((if_neg cl).trans (if_neg cg))))) ((if_neg c1).trans ((if_neg c3).trans ((if_neg c4).trans ((if_neg cl).trans (if_neg cg)))))
  have eX : f_X0_operate sg x1 x2 x3 x4 x5 p1 p2 p3 p4 p5 = (va_up sg p1.toNatClampNeg (f_X1_become (sg p1.toNatClampNeg) (f_X2_compute x1 x2 x3 (sg p3.toNatClampNeg) (sg p4.toNatClampNeg) p2 p5).2.2), (f_X2_compute x1 x2 x3 (sg p3.toNatClampNeg) (sg p4.toNatClampNeg) p2 p5).1, (f_X2_compute x1 x2 x3 (sg p3.toNatClampNeg) (sg p4.toNatClampNeg) p2 p5).2.1, (f_X2_compute x1 x2 x3 (sg p3.toNatClampNeg) (sg p4.toNatClampNeg) p2 p5).2.2, 1) := (if_neg c1).trans ((if_neg c3).trans ((if_neg c4).trans ((if_neg cl).trans (if_pos cg))))
  have h3 := nb_lt c3
  have h4 := nb_lt c4
  have a16 : md_at (f_M_copy (f_M_copy st p3 16) p4 17) 16 = sg p3.toNatClampNeg := by
    rw [ml_copy, ml_copy, i16, i17, md_at_ne _ _ (show (16 : Nat) ≠ 17 by decide), md_at_set, hr _ h3]
  have a17 : md_at (f_M_copy (f_M_copy st p3 16) p4 17) 17 = sg p4.toNatClampNeg := by
    rw [ml_copy, ml_copy, i16, i17, md_at_set, md_at_ne _ _ (show p4.toNatClampNeg ≠ 16 by omega), hr _ h4]
  have ak : ∀ k, k < 16 → md_at (f_M_copy (f_M_copy st p3 16) p4 17) k = md_at st k := by
    intro k hk
    rw [ml_copy, ml_copy, i16, i17, md_at_ne _ _ (show k ≠ 17 by omega), md_at_ne _ _ (show k ≠ 16 by omega)]
  by_cases c5 : p5 = 0
  · have eM : f_M_operate st p1 p2 p3 p4 p5 = (f_M_copy (f_M_does (f_M_copy (f_M_copy st p3 16) p4 17) p2 p5) 18 p1, 1) := (if_neg c1).trans ((if_neg c3).trans ((if_neg c4).trans ((if_neg cl).trans ((if_pos cg).trans (if_pos c5)))))
    rw [sp_fst eX, sp_snd (sp_snd (sp_snd (sp_snd eX))), sp_fst eM, sp_snd eM]
    refine ⟨rfl, ?_⟩
    obtain ⟨d1, d2⟩ := ml_does (f_M_copy (f_M_copy st p3 16) p4 17) cl cg p5
    rw [ml_become, cmp_eq, if_pos c5, ml_copy, i18, d2, a16, a17]
    exact rel_up (fun k hk => by rw [d1 k hk, ak k hk]; exact hr k hk)
  · have eM : f_M_operate st p1 p2 p3 p4 p5 = (f_M_copy (f_M_narrow (f_M_does (f_M_narrow (f_M_narrow (f_M_copy (f_M_copy st p3 16) p4 17) 16) 17) p2 p5) 18) 18 p1, 1) := (if_neg c1).trans ((if_neg c3).trans ((if_neg c4).trans ((if_neg cl).trans ((if_pos cg).trans (if_neg c5)))))
    rw [sp_fst eX, sp_snd (sp_snd (sp_snd (sp_snd eX))), sp_fst eM, sp_snd eM]
    refine ⟨rfl, ?_⟩
    obtain ⟨d1, d2⟩ := ml_does (f_M_narrow (f_M_narrow (f_M_copy (f_M_copy st p3 16) p4 17) 16) 17) cl cg p5
    have b16 : md_at (f_M_narrow (f_M_narrow (f_M_copy (f_M_copy st p3 16) p4 17) 16) 17) 16 = f_X1_narrow (sg p3.toNatClampNeg) := by
      rw [ml_narrow, ml_narrow, i16, i17, md_at_ne _ _ (show (16 : Nat) ≠ 17 by decide), md_at_set, a16]
    have b17 : md_at (f_M_narrow (f_M_narrow (f_M_copy (f_M_copy st p3 16) p4 17) 16) 17) 17 = f_X1_narrow (sg p4.toNatClampNeg) := by
      rw [ml_narrow, ml_narrow, i16, i17, md_at_set, md_at_ne _ _ (show (17 : Nat) ≠ 16 by decide), a17]
    have bk : ∀ k, k < 16 → md_at (f_M_narrow (f_M_narrow (f_M_copy (f_M_copy st p3 16) p4 17) 16) 17) k = md_at st k := by
      intro k hk
      rw [ml_narrow, ml_narrow, i16, i17, md_at_ne _ _ (show k ≠ 17 by omega), md_at_ne _ _ (show k ≠ 16 by omega), ak k hk]
    rw [ml_become, cmp_eq, if_neg c5, ml_copy, ml_narrow, i18, md_at_set, d2, b16, b17]
    refine rel_up (fun k hk => ?_)
    rw [md_at_ne _ _ (show k ≠ 18 by omega), d1 k hk, bk k hk]
    exact hr k hk
end REL
