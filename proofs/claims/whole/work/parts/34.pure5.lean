def g_set (B S U : Nm → Nm) (L : Nm → Nm × Int32) (X : Nm → Int32) (n0 : Nm) : Nm × Int32 :=
  if (X (B n0)) = 0 then (if (X (S (B n0))) = 0 then (if (X (U (S (B n0)))) = 0 then (if ((L (U (S (B n0)))).2) = 0 then (((L (U (S (B n0)))).1), 0)
        else if (X (B ((L (U (S (B n0)))).1))) = 0 then (if (X (S (B ((L (U (S (B n0)))).1)))) = 0 then (if (X (U (S (B ((L (U (S (B n0)))).1))))) = 0 then (if ((L (U (S (B ((L (U (S (B n0)))).1))))).2) = 0 then (((L (U (S (B ((L (U (S (B n0)))).1))))).1), 0)
              else if (X (B ((L (U (S (B ((L (U (S (B n0)))).1))))).1))) = 0 then (if (X (S (B ((L (U (S (B ((L (U (S (B n0)))).1))))).1)))) = 0 then (if (X (U (S (B ((L (U (S (B ((L (U (S (B n0)))).1))))).1))))) = 0 then (if ((L (U (S (B ((L (U (S (B ((L (U (S (B n0)))).1))))).1))))).2) = 0 then (((L (U (S (B ((L (U (S (B ((L (U (S (B n0)))).1))))).1))))).1), 0)
                    else (((L (U (S (B ((L (U (S (B ((L (U (S (B n0)))).1))))).1))))).1), 1))
                  else ((U (S (B ((L (U (S (B ((L (U (S (B n0)))).1))))).1)))), 0))
                else ((S (B ((L (U (S (B ((L (U (S (B n0)))).1))))).1))), 0))
              else ((B ((L (U (S (B ((L (U (S (B n0)))).1))))).1)), 0))
            else ((U (S (B ((L (U (S (B n0)))).1)))), 0))
          else ((S (B ((L (U (S (B n0)))).1))), 0))
        else ((B ((L (U (S (B n0)))).1)), 0))
      else ((U (S (B n0))), 0))
    else ((S (B n0)), 0))
  else ((B n0), 0)
def g_mod (PB PS PU PT : Md → Int32 → Md × Int32) (st : Md) (p1 : Int32) : Md × Int32 :=
  if ((PB st p1).2) = 0 then (((PB st p1).1), 0)
  else if ((PS ((PB st p1).1) p1).2) = 0 then (((PS ((PB st p1).1) p1).1), 0)
  else if ((PU ((PS ((PB st p1).1) p1).1) p1).2) = 0 then (((PU ((PS ((PB st p1).1) p1).1) p1).1), 0)
  else if ((PT ((PU ((PS ((PB st p1).1) p1).1) p1).1) p1).2) = 0 then (((PT ((PU ((PS ((PB st p1).1) p1).1) p1).1) p1).1), 0)
  else if ((PB ((PT ((PU ((PS ((PB st p1).1) p1).1) p1).1) p1).1) p1).2) = 0 then (((PB ((PT ((PU ((PS ((PB st p1).1) p1).1) p1).1) p1).1) p1).1), 0)
  else if ((PS ((PB ((PT ((PU ((PS ((PB st p1).1) p1).1) p1).1) p1).1) p1).1) p1).2) = 0 then (((PS ((PB ((PT ((PU ((PS ((PB st p1).1) p1).1) p1).1) p1).1) p1).1) p1).1), 0)
  else if ((PU ((PS ((PB ((PT ((PU ((PS ((PB st p1).1) p1).1) p1).1) p1).1) p1).1) p1).1) p1).2) = 0 then (((PU ((PS ((PB ((PT ((PU ((PS ((PB st p1).1) p1).1) p1).1) p1).1) p1).1) p1).1) p1).1), 0)
  else if ((PT ((PU ((PS ((PB ((PT ((PU ((PS ((PB st p1).1) p1).1) p1).1) p1).1) p1).1) p1).1) p1).1) p1).2) = 0 then (((PT ((PU ((PS ((PB ((PT ((PU ((PS ((PB st p1).1) p1).1) p1).1) p1).1) p1).1) p1).1) p1).1) p1).1), 0)
  else if ((PB ((PT ((PU ((PS ((PB ((PT ((PU ((PS ((PB st p1).1) p1).1) p1).1) p1).1) p1).1) p1).1) p1).1) p1).1) p1).2) = 0 then (((PB ((PT ((PU ((PS ((PB ((PT ((PU ((PS ((PB st p1).1) p1).1) p1).1) p1).1) p1).1) p1).1) p1).1) p1).1) p1).1), 0)
  else if ((PS ((PB ((PT ((PU ((PS ((PB ((PT ((PU ((PS ((PB st p1).1) p1).1) p1).1) p1).1) p1).1) p1).1) p1).1) p1).1) p1).1) p1).2) = 0 then (((PS ((PB ((PT ((PU ((PS ((PB ((PT ((PU ((PS ((PB st p1).1) p1).1) p1).1) p1).1) p1).1) p1).1) p1).1) p1).1) p1).1) p1).1), 0)
  else if ((PU ((PS ((PB ((PT ((PU ((PS ((PB ((PT ((PU ((PS ((PB st p1).1) p1).1) p1).1) p1).1) p1).1) p1).1) p1).1) p1).1) p1).1) p1).1) p1).2) = 0 then (((PU ((PS ((PB ((PT ((PU ((PS ((PB ((PT ((PU ((PS ((PB st p1).1) p1).1) p1).1) p1).1) p1).1) p1).1) p1).1) p1).1) p1).1) p1).1) p1).1), 0)
  else if ((PT ((PU ((PS ((PB ((PT ((PU ((PS ((PB ((PT ((PU ((PS ((PB st p1).1) p1).1) p1).1) p1).1) p1).1) p1).1) p1).1) p1).1) p1).1) p1).1) p1).1) p1).2) = 0 then (((PT ((PU ((PS ((PB ((PT ((PU ((PS ((PB ((PT ((PU ((PS ((PB st p1).1) p1).1) p1).1) p1).1) p1).1) p1).1) p1).1) p1).1) p1).1) p1).1) p1).1) p1).1), 0)
  else (((PT ((PU ((PS ((PB ((PT ((PU ((PS ((PB ((PT ((PU ((PS ((PB st p1).1) p1).1) p1).1) p1).1) p1).1) p1).1) p1).1) p1).1) p1).1) p1).1) p1).1) p1).1), 1)
theorem g_set_eq (n : Nm) : f_X1_settle n = g_set f_X1_boundByBits f_X1_boundSignedByUnsigned f_X1_boundUnsignedBySigned f_X1_learnSharedHighBits f_X1_isCrossed n := rfl
theorem g_mod_eq (st : Md) (i : Int32) : f_M_settle st i = g_mod f_M_byBits f_M_toSigned f_M_toUnsigned f_M_toBits st i := rfl
section GS
variable {B S U : Nm → Nm} {L : Nm → Nm × Int32} {X : Nm → Int32} {PB PS PU PT : Md → Int32 → Md × Int32} {AT : Md → Nm} {SET : Md → Nm → Md} {i : Int32}
theorem g_e10 : ¬ (1 : Int32) = 0 := by decide
set_option maxHeartbeats 8000000 in
theorem g_rel (hB : ∀ st, PB st i = (SET st (B (AT st)), if X (B (AT st)) = 0 then 1 else 0)) (hS : ∀ st, PS st i = (SET st (S (AT st)), if X (S (AT st)) = 0 then 1 else 0)) (hU : ∀ st, PU st i = (SET st (U (AT st)), if X (U (AT st)) = 0 then 1 else 0))
    (hT : ∀ st, X (AT st) = 0 → PT st i = (SET st (L (AT st)).1, (L (AT st)).2)) (as : ∀ st n, AT (SET st n) = n) (s2 : ∀ st n n', SET (SET st n) n' = SET st n') (st : Md) :
    g_mod PB PS PU PT st i = (SET st (g_set B S U L X (AT st)).1, (g_set B S U L X (AT st)).2) := by
  unfold g_mod g_set
  by_cases h1_1 : X (B (AT st)) = 0
  case neg => simp only [hB, hS, hU, as, s2, g_e10, if_true, if_false, h1_1]
  by_cases h1_2 : X (S (B (AT st))) = 0
  case neg => simp only [hB, hS, hU, as, s2, g_e10, if_true, if_false, h1_1, h1_2]
  by_cases h1_3 : X (U (S (B (AT st)))) = 0
  case neg => simp only [hB, hS, hU, as, s2, g_e10, if_true, if_false, h1_1, h1_2, h1_3]
  have t1 : PT (SET st (U (S (B (AT st))))) i = (SET st ((L (U (S (B (AT st)))))).1, ((L (U (S (B (AT st)))))).2) := by
    have q := hT (SET st (U (S (B (AT st))))) (by rw [as]; exact h1_3)
    rw [as, s2] at q
    exact q
  by_cases h1_4 : (L (U (S (B (AT st))))).2 = 0
  case pos => simp only [hB, hS, hU, as, s2, g_e10, if_true, if_false, h1_1, h1_2, h1_3, t1, h1_4]
  by_cases h2_1 : X (B ((L (U (S (B (AT st))))).1)) = 0
  case neg => simp only [hB, hS, hU, as, s2, g_e10, if_true, if_false, h1_1, h1_2, h1_3, t1, h1_4, h2_1]
  by_cases h2_2 : X (S (B ((L (U (S (B (AT st))))).1))) = 0
  case neg => simp only [hB, hS, hU, as, s2, g_e10, if_true, if_false, h1_1, h1_2, h1_3, t1, h1_4, h2_1, h2_2]
  by_cases h2_3 : X (U (S (B ((L (U (S (B (AT st))))).1)))) = 0
  case neg => simp only [hB, hS, hU, as, s2, g_e10, if_true, if_false, h1_1, h1_2, h1_3, t1, h1_4, h2_1, h2_2, h2_3]
  have t2 : PT (SET st (U (S (B ((L (U (S (B (AT st))))).1))))) i = (SET st ((L (U (S (B ((L (U (S (B (AT st))))).1)))))).1, ((L (U (S (B ((L (U (S (B (AT st))))).1)))))).2) := by
    have q := hT (SET st (U (S (B ((L (U (S (B (AT st))))).1))))) (by rw [as]; exact h2_3)
    rw [as, s2] at q
    exact q
  by_cases h2_4 : (L (U (S (B ((L (U (S (B (AT st))))).1))))).2 = 0
  case pos => simp only [hB, hS, hU, as, s2, g_e10, if_true, if_false, h1_1, h1_2, h1_3, t1, h1_4, h2_1, h2_2, h2_3, t2, h2_4]
  by_cases h3_1 : X (B ((L (U (S (B ((L (U (S (B (AT st))))).1))))).1)) = 0
  case neg => simp only [hB, hS, hU, as, s2, g_e10, if_true, if_false, h1_1, h1_2, h1_3, t1, h1_4, h2_1, h2_2, h2_3, t2, h2_4, h3_1]
  by_cases h3_2 : X (S (B ((L (U (S (B ((L (U (S (B (AT st))))).1))))).1))) = 0
  case neg => simp only [hB, hS, hU, as, s2, g_e10, if_true, if_false, h1_1, h1_2, h1_3, t1, h1_4, h2_1, h2_2, h2_3, t2, h2_4, h3_1, h3_2]
  by_cases h3_3 : X (U (S (B ((L (U (S (B ((L (U (S (B (AT st))))).1))))).1)))) = 0
  case neg => simp only [hB, hS, hU, as, s2, g_e10, if_true, if_false, h1_1, h1_2, h1_3, t1, h1_4, h2_1, h2_2, h2_3, t2, h2_4, h3_1, h3_2, h3_3]
  have t3 : PT (SET st (U (S (B ((L (U (S (B ((L (U (S (B (AT st))))).1))))).1))))) i = (SET st ((L (U (S (B ((L (U (S (B ((L (U (S (B (AT st))))).1))))).1)))))).1, ((L (U (S (B ((L (U (S (B ((L (U (S (B (AT st))))).1))))).1)))))).2) := by
    have q := hT (SET st (U (S (B ((L (U (S (B ((L (U (S (B (AT st))))).1))))).1))))) (by rw [as]; exact h3_3)
    rw [as, s2] at q
    exact q
  by_cases h3_4 : (L (U (S (B ((L (U (S (B ((L (U (S (B (AT st))))).1))))).1))))).2 = 0
  case pos => simp only [hB, hS, hU, as, s2, g_e10, if_true, if_false, h1_1, h1_2, h1_3, t1, h1_4, h2_1, h2_2, h2_3, t2, h2_4, h3_1, h3_2, h3_3, t3, h3_4]
  simp only [hB, hS, hU, as, s2, g_e10, if_true, if_false, h1_1, h1_2, h1_3, t1, h1_4, h2_1, h2_2, h2_3, t2, h2_4, h3_1, h3_2, h3_3, t3, h3_4]
end GS
theorem ml_settle (st : Md) (i : Int32) : f_M_settle st i = (md_set st i.toNatClampNeg (f_X1_settle (md_at st i.toNatClampNeg)).1, (f_X1_settle (md_at st i.toNatClampNeg)).2) := by
  rw [g_set_eq, g_mod_eq]
  exact g_rel (AT := fun st => md_at st i.toNatClampNeg) (SET := fun st n => md_set st i.toNatClampNeg n) (fun st => ml_byBits st i) (fun st => ml_toSigned st i) (fun st => ml_toUnsigned st i) (fun st h => ml_toBits st i h) (fun st n => md_at_set st _ n) (fun st n n' => md_set2 st _ n n') st
