theorem wm_627 : (.instantiable RX0 3 : Cond) ∈ wsG := wG_of 74 (by decide +kernel) (by decide +kernel)
theorem wm_628 : (.instantiable RM 7 : Cond) ∈ wsG := wG_of 602 (by decide +kernel) (by decide +kernel)
theorem wm_629 : (.classLink RL 8 RX0 : Cond) ∈ wsG := wG_of 73 (by decide +kernel) (by decide +kernel)
theorem wm_630 : (.code yX0_init cX0_init 2 none : Cond) ∈ wsG := wG_of 77 (by decide +kernel) (by decide +kernel)
theorem wm_631 : (.methodLink RL 23 yX0_init : Cond) ∈ wsG := wG_of 75 (by decide +kernel) (by decide +kernel)
theorem wm_632 : (.instanceMethod yX0_init : Cond) ∈ wsG := wG_of 76 (by decide +kernel) (by decide +kernel)
theorem wm_633 : (.classLink RL 24 RM : Cond) ∈ wsG := wG_of 601 (by decide +kernel) (by decide +kernel)
theorem wm_634 : (.code yM_init cM_init 1 none : Cond) ∈ wsG := wG_of 605 (by decide +kernel) (by decide +kernel)
theorem wm_635 : (.methodLink RL 26 yM_init : Cond) ∈ wsG := wG_of 603 (by decide +kernel) (by decide +kernel)
theorem wm_636 : (.instanceMethod yM_init : Cond) ∈ wsG := wG_of 604 (by decide +kernel) (by decide +kernel)
theorem dL_law_0 : decode cL_law 0 = .ok (.new 8, 3) := by decide +kernel
theorem dL_law_3 : decode cL_law 3 = .ok (.dup, 1) := by decide +kernel
theorem dL_law_4 : decode cL_law 4 = .ok (.invokespecial 23, 3) := by decide +kernel
theorem dL_law_7 : decode cL_law 7 = .ok (.astore_n 1, 1) := by decide +kernel
theorem dL_law_8 : decode cL_law 8 = .ok (.new 24, 3) := by decide +kernel
theorem dL_law_11 : decode cL_law 11 = .ok (.dup, 1) := by decide +kernel
theorem dL_law_12 : decode cL_law 12 = .ok (.invokespecial 26, 3) := by decide +kernel
theorem dL_law_15 : decode cL_law 15 = .ok (.astore_n 2, 1) := by decide +kernel
theorem dL_law_16 : decode cL_law 16 = .ok (.iconst 1, 1) := by decide +kernel
theorem dL_law_17 : decode cL_law 17 = .ok (.newarray .long, 2) := by decide +kernel
theorem dL_law_19 : decode cL_law 19 = .ok (.astore_n 3, 1) := by decide +kernel
theorem dL_law_20 : decode cL_law 20 = .ok (.iconst 0, 1) := by decide +kernel
theorem dL_law_21 : decode cL_law 21 = .ok (.istore 4, 2) := by decide +kernel
theorem lw_arrV {c : ClassId} {N : Nat} {f g : Nat → Value} (h : ∀ j, j < N → f j = g j) : arrV c N f = arrV c N g := by
  have e : (fun j : Fin N => f j.val) = (fun j : Fin N => g j.val) := funext fun j => h j.1 j.2
  show ({ cls := c, slots := Array.ofFn (n := N) fun j => f j.val, vm := .none } : Cell) = { cls := c, slots := Array.ofFn (n := N) fun j => g j.val, vm := .none }
  rw [e]
theorem lw_N {s : State} {args : Array Value} (hts : ∀ w ∈ lw_tbl, w.before args s = true) : sp_N s := by
  refine ⟨?_, List.forall_mem_cons.mpr ⟨va_AO.of (hts _ (List.mem_of_getElem? (i := 82) (by decide +kernel) : (.arrayOver (.object RX1) : Cond) ∈ lw_tbl)), fun _ h => absurd h List.not_mem_nil⟩⟩
  exact List.forall_mem_cons.mpr ⟨va_Nw.of rfl (hts _ (List.mem_of_getElem? (i := 85) (by decide +kernel) : (.methodLinkNest RX0 17 yX2_init "RangeDesk" : Cond) ∈ lw_tbl)), List.forall_mem_cons.mpr ⟨va_Nw.of rfl (hts _ (List.mem_of_getElem? (i := 144) (by decide +kernel) : (.methodLinkNest RX0 24 yX3_init "RangeDesk" : Cond) ∈ lw_tbl)), List.forall_mem_cons.mpr ⟨va_Nw.of rfl (hts _ (List.mem_of_getElem? (i := 157) (by decide +kernel) : (.methodLinkNest RX0 29 yX1_init "RangeDesk" : Cond) ∈ lw_tbl)), List.forall_mem_cons.mpr ⟨va_Nw.of rfl (hts _ (List.mem_of_getElem? (i := 220) (by decide +kernel) : (.methodLinkNest RX1 48 yX0_isAbove "RangeDesk" : Cond) ∈ lw_tbl)), List.forall_mem_cons.mpr ⟨va_Nw.of rfl (hts _ (List.mem_of_getElem? (i := 91) (by decide +kernel) : (.methodLinkNest RX2 11 yX1_init "RangeDesk" : Cond) ∈ lw_tbl)), List.forall_mem_cons.mpr ⟨va_Nw.of rfl (hts _ (List.mem_of_getElem? (i := 321) (by decide +kernel) : (.methodLinkNest RX2 99 yX0_isAbove "RangeDesk" : Cond) ∈ lw_tbl)), List.forall_mem_cons.mpr ⟨va_Nw.of rfl (hts _ (List.mem_of_getElem? (i := 369) (by decide +kernel) : (.methodLinkNest RX2 147 yX0_unsignedMin "RangeDesk" : Cond) ∈ lw_tbl)), List.forall_mem_cons.mpr ⟨va_Nw.of rfl (hts _ (List.mem_of_getElem? (i := 376) (by decide +kernel) : (.methodLinkNest RX2 150 yX0_unsignedMax "RangeDesk" : Cond) ∈ lw_tbl)), List.forall_mem_cons.mpr ⟨va_Nw.of rfl (hts _ (List.mem_of_getElem? (i := 149) (by decide +kernel) : (.methodLinkNest RX3 11 yX1_init "RangeDesk" : Cond) ∈ lw_tbl)), List.forall_mem_cons.mpr ⟨va_Nw.of rfl (hts _ (List.mem_of_getElem? (i := 433) (by decide +kernel) : (.methodLinkNest RX3 143 yX0_isAbove "RangeDesk" : Cond) ∈ lw_tbl)), fun _ h => absurd h List.not_mem_nil⟩⟩⟩⟩⟩⟩⟩⟩⟩⟩
theorem va_D_fst {A : Nat → Prop} {w w' : va_W} (h : w.map (·.1) = w'.map (·.1)) (hD : va_D A w) : va_D A w' := by
  have key : ∀ (k : Nat) (q : Nat × va_E), w'[k]? = some q → ∃ q0, w[k]? = some q0 ∧ q0.1 = q.1 := fun k q hq => by
    have e : (w'.map (·.1))[k]? = some q.1 := by rw [List.getElem?_map, hq]; rfl
    rw [← h, List.getElem?_map] at e
    cases hw : w[k]? with
    | none => rw [hw] at e; cases e
    | some q0 => rw [hw] at e; exact ⟨q0, rfl, Option.some.inj e⟩
  refine ⟨fun i j p q hi hj hpq => ?_, fun k q hk => ?_⟩
  · obtain ⟨p0, h1, e1⟩ := key i p hi
    obtain ⟨q0, h2, e2⟩ := key j q hj
    exact hD.1 i j p0 q0 h1 h2 (by rw [e1, e2]; exact hpq)
  · obtain ⟨q0, h1, e1⟩ := key k q hk
    rw [← e1]
    exact hD.2 k q0 h1
theorem dk_arr {cA : ClassId} {f g : Nat → Option Nat} (h : ∀ k, k < 16 → f k = g k) : vp_cell cA (16, .inr (.inr (.inr (.inr f)))) = vp_cell cA (16, .inr (.inr (.inr (.inr g)))) := by
  show arrV cA 16 (fun j => va_rf (f j)) = arrV cA 16 (fun j => va_rf (g j))
  exact lw_arrV (fun j hj => congrArg va_rf (h j hj))
theorem dk_make {D : va_G} {H : Heap} {pre : Nat × va_E} {post : va_W} {a : Nat} {cA : ClassId} {f g : Nat → Option Nat} (h : ∀ k, k < 16 → f k = g k) (hP : va_P D vwCl (pre :: (a, .inl (cA, 16, .inr (.inr (.inr (.inr f))))) :: post) H) : va_P D vwCl (pre :: (a, .inl (cA, 16, .inr (.inr (.inr (.inr g))))) :: post) H := by
  intro k e hk
  match k, hk with
  | 0, hk => exact hP 0 e hk
  | 1, hk =>
    cases hk
    have q := hP 1 _ rfl
    have q : H[a]? = some (vp_cell cA (16, .inr (.inr (.inr (.inr f))))) := q
    show H[a]? = some (vp_cell cA (16, .inr (.inr (.inr (.inr g)))))
    rw [← dk_arr h]
    exact q
  | k + 2, hk => exact hP (k + 2) e hk
def dk_q (a0 : Nat) (u : Nat × Nat × Nat × Nat × Nat × Nat × Nat × Nat × Nat × Nat × Nat × Nat × Nat × Nat × Nat × Nat × Nat × Nat × Nat × Nat × Nat × Nat × Nat × Nat) : Nat → Nat := fun k => [a0, u.1, u.2.1, u.2.2.1, u.2.2.2.1, u.2.2.2.2.1, u.2.2.2.2.2.1, u.2.2.2.2.2.2.1, u.2.2.2.2.2.2.2.1].getD k 0
def dk_ad (u : Nat × Nat × Nat × Nat × Nat × Nat × Nat × Nat × Nat × Nat × Nat × Nat × Nat × Nat × Nat × Nat × Nat × Nat × Nat × Nat × Nat × Nat × Nat × Nat) : Nat → Nat := fun k => [u.2.2.2.2.2.2.2.2.1, u.2.2.2.2.2.2.2.2.2.1, u.2.2.2.2.2.2.2.2.2.2.1, u.2.2.2.2.2.2.2.2.2.2.2.1, u.2.2.2.2.2.2.2.2.2.2.2.2.1, u.2.2.2.2.2.2.2.2.2.2.2.2.2.1, u.2.2.2.2.2.2.2.2.2.2.2.2.2.2.1, u.2.2.2.2.2.2.2.2.2.2.2.2.2.2.2.1, u.2.2.2.2.2.2.2.2.2.2.2.2.2.2.2.2.1, u.2.2.2.2.2.2.2.2.2.2.2.2.2.2.2.2.2.1, u.2.2.2.2.2.2.2.2.2.2.2.2.2.2.2.2.2.2.1, u.2.2.2.2.2.2.2.2.2.2.2.2.2.2.2.2.2.2.2.1, u.2.2.2.2.2.2.2.2.2.2.2.2.2.2.2.2.2.2.2.2.1, u.2.2.2.2.2.2.2.2.2.2.2.2.2.2.2.2.2.2.2.2.2.1, u.2.2.2.2.2.2.2.2.2.2.2.2.2.2.2.2.2.2.2.2.2.2.1, u.2.2.2.2.2.2.2.2.2.2.2.2.2.2.2.2.2.2.2.2.2.2.2].getD k 0
def nx0 : Nx := (nm0, nm0, nm0, nm0, nm0)
def md0 : Md := (fun _ => 0, fun _ => 0, fun _ => 0, fun _ => 0, fun _ => 0, fun _ => 0)
theorem dk_up (u : Nat × Nat × Nat × Nat × Nat × Nat × Nat × Nat × Nat × Nat × Nat × Nat × Nat × Nat × Nat × Nat × Nat × Nat × Nat × Nat × Nat × Nat × Nat × Nat) : ∀ k, k < 16 → (va_up (va_up (va_up (va_up (va_up (va_up (va_up (va_up (va_up (va_up (va_up (va_up (va_up (va_up (va_up (va_up (fun _ => none) 0 (some u.2.2.2.2.2.2.2.2.1)) 1 (some u.2.2.2.2.2.2.2.2.2.1)) 2 (some u.2.2.2.2.2.2.2.2.2.2.1)) 3 (some u.2.2.2.2.2.2.2.2.2.2.2.1)) 4 (some u.2.2.2.2.2.2.2.2.2.2.2.2.1)) 5 (some u.2.2.2.2.2.2.2.2.2.2.2.2.2.1)) 6 (some u.2.2.2.2.2.2.2.2.2.2.2.2.2.2.1)) 7 (some u.2.2.2.2.2.2.2.2.2.2.2.2.2.2.2.1)) 8 (some u.2.2.2.2.2.2.2.2.2.2.2.2.2.2.2.2.1)) 9 (some u.2.2.2.2.2.2.2.2.2.2.2.2.2.2.2.2.2.1)) 10 (some u.2.2.2.2.2.2.2.2.2.2.2.2.2.2.2.2.2.2.1)) 11 (some u.2.2.2.2.2.2.2.2.2.2.2.2.2.2.2.2.2.2.2.1)) 12 (some u.2.2.2.2.2.2.2.2.2.2.2.2.2.2.2.2.2.2.2.2.1)) 13 (some u.2.2.2.2.2.2.2.2.2.2.2.2.2.2.2.2.2.2.2.2.2.1)) 14 (some u.2.2.2.2.2.2.2.2.2.2.2.2.2.2.2.2.2.2.2.2.2.2.1)) 15 (some u.2.2.2.2.2.2.2.2.2.2.2.2.2.2.2.2.2.2.2.2.2.2.2)) k = some (dk_ad u k) := by
  intro k hk
  match k, hk with
  | 0, _ => rfl
  | 1, _ => rfl
  | 2, _ => rfl
  | 3, _ => rfl
  | 4, _ => rfl
  | 5, _ => rfl
  | 6, _ => rfl
  | 7, _ => rfl
  | 8, _ => rfl
  | 9, _ => rfl
  | 10, _ => rfl
  | 11, _ => rfl
  | 12, _ => rfl
  | 13, _ => rfl
  | 14, _ => rfl
  | 15, _ => rfl
  | k + 16, hk => exact absurd hk (by omega)
theorem dk_birth {D : va_G} {A : Nat → Prop} {H : Heap} {a0 : Nat} {u : Nat × Nat × Nat × Nat × Nat × Nat × Nat × Nat × Nat × Nat × Nat × Nat × Nat × Nat × Nat × Nat × Nat × Nat × Nat × Nat × Nat × Nat × Nat × Nat} {cA : ClassId} (hP : va_P D vwCl ([(a0, .inr (0, [.ref u.1, .ref u.2.1, .ref u.2.2.2.2.2.1])), (u.1, .inl (cA, 16, .inr (.inr (.inr (.inr (va_up (va_up (va_up (va_up (va_up (va_up (va_up (va_up (va_up (va_up (va_up (va_up (va_up (va_up (va_up (va_up (fun _ => none) 0 (some u.2.2.2.2.2.2.2.2.1)) 1 (some u.2.2.2.2.2.2.2.2.2.1)) 2 (some u.2.2.2.2.2.2.2.2.2.2.1)) 3 (some u.2.2.2.2.2.2.2.2.2.2.2.1)) 4 (some u.2.2.2.2.2.2.2.2.2.2.2.2.1)) 5 (some u.2.2.2.2.2.2.2.2.2.2.2.2.2.1)) 6 (some u.2.2.2.2.2.2.2.2.2.2.2.2.2.2.1)) 7 (some u.2.2.2.2.2.2.2.2.2.2.2.2.2.2.2.1)) 8 (some u.2.2.2.2.2.2.2.2.2.2.2.2.2.2.2.2.1)) 9 (some u.2.2.2.2.2.2.2.2.2.2.2.2.2.2.2.2.2.1)) 10 (some u.2.2.2.2.2.2.2.2.2.2.2.2.2.2.2.2.2.2.1)) 11 (some u.2.2.2.2.2.2.2.2.2.2.2.2.2.2.2.2.2.2.2.1)) 12 (some u.2.2.2.2.2.2.2.2.2.2.2.2.2.2.2.2.2.2.2.2.1)) 13 (some u.2.2.2.2.2.2.2.2.2.2.2.2.2.2.2.2.2.2.2.2.2.1)) 14 (some u.2.2.2.2.2.2.2.2.2.2.2.2.2.2.2.2.2.2.2.2.2.2.1)) 15 (some u.2.2.2.2.2.2.2.2.2.2.2.2.2.2.2.2.2.2.2.2.2.2.2))))))), (u.2.1, .inr (2, [.ref u.2.2.1, .ref u.2.2.2.1, .ref u.2.2.2.2.1])), (u.2.2.1, .inr (1, nm_fs nm0)), (u.2.2.2.1, .inr (1, nm_fs nm0)), (u.2.2.2.2.1, .inr (1, nm_fs nm0)), (u.2.2.2.2.2.1, .inr (3, [.ref u.2.2.2.2.2.2.1, .ref u.2.2.2.2.2.2.2.1])), (u.2.2.2.2.2.2.1, .inr (1, nm_fs nm0)), (u.2.2.2.2.2.2.2.1, .inr (1, nm_fs nm0)), (u.2.2.2.2.2.2.2.2.1, .inr (1, nm_fs nm0)), (u.2.2.2.2.2.2.2.2.2.1, .inr (1, nm_fs nm0)), (u.2.2.2.2.2.2.2.2.2.2.1, .inr (1, nm_fs nm0)), (u.2.2.2.2.2.2.2.2.2.2.2.1, .inr (1, nm_fs nm0)), (u.2.2.2.2.2.2.2.2.2.2.2.2.1, .inr (1, nm_fs nm0)), (u.2.2.2.2.2.2.2.2.2.2.2.2.2.1, .inr (1, nm_fs nm0)), (u.2.2.2.2.2.2.2.2.2.2.2.2.2.2.1, .inr (1, nm_fs nm0)), (u.2.2.2.2.2.2.2.2.2.2.2.2.2.2.2.1, .inr (1, nm_fs nm0)), (u.2.2.2.2.2.2.2.2.2.2.2.2.2.2.2.2.1, .inr (1, nm_fs nm0)), (u.2.2.2.2.2.2.2.2.2.2.2.2.2.2.2.2.2.1, .inr (1, nm_fs nm0)), (u.2.2.2.2.2.2.2.2.2.2.2.2.2.2.2.2.2.2.1, .inr (1, nm_fs nm0)), (u.2.2.2.2.2.2.2.2.2.2.2.2.2.2.2.2.2.2.2.1, .inr (1, nm_fs nm0)), (u.2.2.2.2.2.2.2.2.2.2.2.2.2.2.2.2.2.2.2.2.1, .inr (1, nm_fs nm0)), (u.2.2.2.2.2.2.2.2.2.2.2.2.2.2.2.2.2.2.2.2.2.1, .inr (1, nm_fs nm0)), (u.2.2.2.2.2.2.2.2.2.2.2.2.2.2.2.2.2.2.2.2.2.2.1, .inr (1, nm_fs nm0)), (u.2.2.2.2.2.2.2.2.2.2.2.2.2.2.2.2.2.2.2.2.2.2.2, .inr (1, nm_fs nm0))]) H) (hD : va_D A ([(a0, .inr (0, [.ref u.1, .ref u.2.1, .ref u.2.2.2.2.2.1])), (u.1, .inl (cA, 16, .inr (.inr (.inr (.inr (va_up (va_up (va_up (va_up (va_up (va_up (va_up (va_up (va_up (va_up (va_up (va_up (va_up (va_up (va_up (va_up (fun _ => none) 0 (some u.2.2.2.2.2.2.2.2.1)) 1 (some u.2.2.2.2.2.2.2.2.2.1)) 2 (some u.2.2.2.2.2.2.2.2.2.2.1)) 3 (some u.2.2.2.2.2.2.2.2.2.2.2.1)) 4 (some u.2.2.2.2.2.2.2.2.2.2.2.2.1)) 5 (some u.2.2.2.2.2.2.2.2.2.2.2.2.2.1)) 6 (some u.2.2.2.2.2.2.2.2.2.2.2.2.2.2.1)) 7 (some u.2.2.2.2.2.2.2.2.2.2.2.2.2.2.2.1)) 8 (some u.2.2.2.2.2.2.2.2.2.2.2.2.2.2.2.2.1)) 9 (some u.2.2.2.2.2.2.2.2.2.2.2.2.2.2.2.2.2.1)) 10 (some u.2.2.2.2.2.2.2.2.2.2.2.2.2.2.2.2.2.2.1)) 11 (some u.2.2.2.2.2.2.2.2.2.2.2.2.2.2.2.2.2.2.2.1)) 12 (some u.2.2.2.2.2.2.2.2.2.2.2.2.2.2.2.2.2.2.2.2.1)) 13 (some u.2.2.2.2.2.2.2.2.2.2.2.2.2.2.2.2.2.2.2.2.2.1)) 14 (some u.2.2.2.2.2.2.2.2.2.2.2.2.2.2.2.2.2.2.2.2.2.2.1)) 15 (some u.2.2.2.2.2.2.2.2.2.2.2.2.2.2.2.2.2.2.2.2.2.2.2))))))), (u.2.1, .inr (2, [.ref u.2.2.1, .ref u.2.2.2.1, .ref u.2.2.2.2.1])), (u.2.2.1, .inr (1, nm_fs nm0)), (u.2.2.2.1, .inr (1, nm_fs nm0)), (u.2.2.2.2.1, .inr (1, nm_fs nm0)), (u.2.2.2.2.2.1, .inr (3, [.ref u.2.2.2.2.2.2.1, .ref u.2.2.2.2.2.2.2.1])), (u.2.2.2.2.2.2.1, .inr (1, nm_fs nm0)), (u.2.2.2.2.2.2.2.1, .inr (1, nm_fs nm0)), (u.2.2.2.2.2.2.2.2.1, .inr (1, nm_fs nm0)), (u.2.2.2.2.2.2.2.2.2.1, .inr (1, nm_fs nm0)), (u.2.2.2.2.2.2.2.2.2.2.1, .inr (1, nm_fs nm0)), (u.2.2.2.2.2.2.2.2.2.2.2.1, .inr (1, nm_fs nm0)), (u.2.2.2.2.2.2.2.2.2.2.2.2.1, .inr (1, nm_fs nm0)), (u.2.2.2.2.2.2.2.2.2.2.2.2.2.1, .inr (1, nm_fs nm0)), (u.2.2.2.2.2.2.2.2.2.2.2.2.2.2.1, .inr (1, nm_fs nm0)), (u.2.2.2.2.2.2.2.2.2.2.2.2.2.2.2.1, .inr (1, nm_fs nm0)), (u.2.2.2.2.2.2.2.2.2.2.2.2.2.2.2.2.1, .inr (1, nm_fs nm0)), (u.2.2.2.2.2.2.2.2.2.2.2.2.2.2.2.2.2.1, .inr (1, nm_fs nm0)), (u.2.2.2.2.2.2.2.2.2.2.2.2.2.2.2.2.2.2.1, .inr (1, nm_fs nm0)), (u.2.2.2.2.2.2.2.2.2.2.2.2.2.2.2.2.2.2.2.1, .inr (1, nm_fs nm0)), (u.2.2.2.2.2.2.2.2.2.2.2.2.2.2.2.2.2.2.2.2.1, .inr (1, nm_fs nm0)), (u.2.2.2.2.2.2.2.2.2.2.2.2.2.2.2.2.2.2.2.2.2.1, .inr (1, nm_fs nm0)), (u.2.2.2.2.2.2.2.2.2.2.2.2.2.2.2.2.2.2.2.2.2.2.1, .inr (1, nm_fs nm0)), (u.2.2.2.2.2.2.2.2.2.2.2.2.2.2.2.2.2.2.2.2.2.2.2, .inr (1, nm_fs nm0))])) : va_P D vwCl (dk_W (dk_q a0 u) cA (dk_ad u) (fun _ => nm0) nx0) H ∧ va_D A (dk_W (dk_q a0 u) cA (dk_ad u) (fun _ => nm0) nx0) :=
  ⟨dk_make (dk_up u) hP, va_D_fst (w := ([(a0, .inr (0, [.ref u.1, .ref u.2.1, .ref u.2.2.2.2.2.1])), (u.1, .inl (cA, 16, .inr (.inr (.inr (.inr (va_up (va_up (va_up (va_up (va_up (va_up (va_up (va_up (va_up (va_up (va_up (va_up (va_up (va_up (va_up (va_up (fun _ => none) 0 (some u.2.2.2.2.2.2.2.2.1)) 1 (some u.2.2.2.2.2.2.2.2.2.1)) 2 (some u.2.2.2.2.2.2.2.2.2.2.1)) 3 (some u.2.2.2.2.2.2.2.2.2.2.2.1)) 4 (some u.2.2.2.2.2.2.2.2.2.2.2.2.1)) 5 (some u.2.2.2.2.2.2.2.2.2.2.2.2.2.1)) 6 (some u.2.2.2.2.2.2.2.2.2.2.2.2.2.2.1)) 7 (some u.2.2.2.2.2.2.2.2.2.2.2.2.2.2.2.1)) 8 (some u.2.2.2.2.2.2.2.2.2.2.2.2.2.2.2.2.1)) 9 (some u.2.2.2.2.2.2.2.2.2.2.2.2.2.2.2.2.2.1)) 10 (some u.2.2.2.2.2.2.2.2.2.2.2.2.2.2.2.2.2.2.1)) 11 (some u.2.2.2.2.2.2.2.2.2.2.2.2.2.2.2.2.2.2.2.1)) 12 (some u.2.2.2.2.2.2.2.2.2.2.2.2.2.2.2.2.2.2.2.2.1)) 13 (some u.2.2.2.2.2.2.2.2.2.2.2.2.2.2.2.2.2.2.2.2.2.1)) 14 (some u.2.2.2.2.2.2.2.2.2.2.2.2.2.2.2.2.2.2.2.2.2.2.1)) 15 (some u.2.2.2.2.2.2.2.2.2.2.2.2.2.2.2.2.2.2.2.2.2.2.2))))))), (u.2.1, .inr (2, [.ref u.2.2.1, .ref u.2.2.2.1, .ref u.2.2.2.2.1])), (u.2.2.1, .inr (1, nm_fs nm0)), (u.2.2.2.1, .inr (1, nm_fs nm0)), (u.2.2.2.2.1, .inr (1, nm_fs nm0)), (u.2.2.2.2.2.1, .inr (3, [.ref u.2.2.2.2.2.2.1, .ref u.2.2.2.2.2.2.2.1])), (u.2.2.2.2.2.2.1, .inr (1, nm_fs nm0)), (u.2.2.2.2.2.2.2.1, .inr (1, nm_fs nm0)), (u.2.2.2.2.2.2.2.2.1, .inr (1, nm_fs nm0)), (u.2.2.2.2.2.2.2.2.2.1, .inr (1, nm_fs nm0)), (u.2.2.2.2.2.2.2.2.2.2.1, .inr (1, nm_fs nm0)), (u.2.2.2.2.2.2.2.2.2.2.2.1, .inr (1, nm_fs nm0)), (u.2.2.2.2.2.2.2.2.2.2.2.2.1, .inr (1, nm_fs nm0)), (u.2.2.2.2.2.2.2.2.2.2.2.2.2.1, .inr (1, nm_fs nm0)), (u.2.2.2.2.2.2.2.2.2.2.2.2.2.2.1, .inr (1, nm_fs nm0)), (u.2.2.2.2.2.2.2.2.2.2.2.2.2.2.2.1, .inr (1, nm_fs nm0)), (u.2.2.2.2.2.2.2.2.2.2.2.2.2.2.2.2.1, .inr (1, nm_fs nm0)), (u.2.2.2.2.2.2.2.2.2.2.2.2.2.2.2.2.2.1, .inr (1, nm_fs nm0)), (u.2.2.2.2.2.2.2.2.2.2.2.2.2.2.2.2.2.2.1, .inr (1, nm_fs nm0)), (u.2.2.2.2.2.2.2.2.2.2.2.2.2.2.2.2.2.2.2.1, .inr (1, nm_fs nm0)), (u.2.2.2.2.2.2.2.2.2.2.2.2.2.2.2.2.2.2.2.2.1, .inr (1, nm_fs nm0)), (u.2.2.2.2.2.2.2.2.2.2.2.2.2.2.2.2.2.2.2.2.2.1, .inr (1, nm_fs nm0)), (u.2.2.2.2.2.2.2.2.2.2.2.2.2.2.2.2.2.2.2.2.2.2.1, .inr (1, nm_fs nm0)), (u.2.2.2.2.2.2.2.2.2.2.2.2.2.2.2.2.2.2.2.2.2.2.2, .inr (1, nm_fs nm0))])) rfl hD⟩
def md_r (r0 : Nat) (v : Nat × Nat × Nat × Nat × Nat × Nat) : Nat → Nat := fun k => [r0, v.1, v.2.1, v.2.2.1, v.2.2.2.1, v.2.2.2.2.1, v.2.2.2.2.2].getD k 0
def md_cj (c1 c2 c3 c4 c5 c6 : ClassId) : Nat → ClassId := fun k => [c1, c1, c2, c3, c4, c5, c6].getD k c1
theorem lw_25 {w : va_W} {z : Nat × va_E} (h : w.length = 25) : [25].map (fun i => (w ++ [z])[i]?) = [z].map some := by
  show [(w ++ [z])[25]?] = [some z]
  rw [List.getElem?_append_right (Nat.le_of_eq h), h]
  rfl
theorem lw_order {D : va_G} {A : Nat → Prop} {H : Heap} {dk md ou : va_W} (h1 : dk.length = 25) (h2 : md.length = 7) (h3 : ou.length = 1) (hP : va_P D vwCl ((dk ++ md) ++ ou) H) (hD : va_D A ((dk ++ md) ++ ou)) : va_P D vwCl (md ++ (dk ++ ou)) H ∧ va_D A (md ++ (dk ++ ou)) := by
  rw [List.append_assoc] at hP hD
  have e : (List.range' 25 7 ++ (List.range' 0 25 ++ List.range' 32 1)).map (fun i => (dk ++ (md ++ ou))[i]?) = (md ++ (dk ++ ou)).map some := by
    rw [List.map_append, List.map_append, List.map_append, List.map_append, sp_mid h1 h2, sp_first h1]
    have e3 := sp_end (a := dk ++ md) (wc := ou) (k := 32) (n := 1) (by rw [List.length_append, h1, h2]) h3
    rw [List.append_assoc] at e3
    rw [e3]
  exact ⟨hP.sub _ (sp_fm e), hD.sub _ (by decide) e⟩
theorem lw_str {s : State} {args : Array Value} {k : Nat} {tx : String} {c : Nat} (hc : s.vm.findClass RX0 = some c) (h : (Cond.stringRef RX0 k tx).before args s = true) : ∃ q : Nat, vk_R RX0 k tx q s := by
  obtain ⟨_, _, _, a, _, _, _, _, _, hev⟩ := Cond.stringRef_spec hc h
  exact ⟨a, vk_R.of h hev⟩
theorem sxA_in : ∀ w ∈ sxA, w ∈ lw_tbl ∨ w ∈ flatC (Jvm.Cond.and given_1 narrow_1) := by decide +kernel
theorem lw_Zs {s : State} {b c : Nat} (hc : s.vm.findClass RX0 = some c) (hts : ∀ w ∈ lw_tbl, w.before #[Value.ref b] s = true) (hgv : (Jvm.Cond.and given_1 narrow_1).before #[Value.ref b] s = true) : sx_Z s :=
  ⟨fun w hw => sx_word (sxA_ok w hw) (State.WarmedH.refl s) (fun _ _ => rfl) ((sxA_in w hw).elim (hts w) (flat_of_before _ hgv w)), lw_str hc (hts _ (List.mem_of_getElem? (i := 551) (by decide +kernel) : (.stringRef RX0 75 "no such number" : Cond) ∈ lw_tbl)), lw_str hc (hts _ (List.mem_of_getElem? (i := 578) (by decide +kernel) : (.stringRef RX0 99 "no such what" : Cond) ∈ lw_tbl))⟩
set_option maxHeartbeats 4000000 in
set_option maxRecDepth 100000 in
theorem whole_start {p : Program} {e : Env} {s : State} {m : MethodId} {below : List Frame} {meth : Method} {c : Code} (l : Launch) (hl0 : l.stackTraces = false) {b L : Nat} {xs : Nat → Int32} (hL : L ≤ 3584) (C0 : lw_At p s m meth c b L xs) : W p l e room_1 s m #[Value.ref b] below meth c s.heap [] 0 0 (lw_Z below #[Value.ref b] s) (entryFrame m ([Value.ref b] : List Value).toArray 8) := by
  obtain ⟨hx, hb, hr, hml, hown, htT, hX, hbl, hlocks, hgv⟩ := id C0
  have hts : ∀ w ∈ wsG, w.before #[Value.ref b] s = true := fun w hw => htT w (wG_tbl hw)
  have C : sp_C p s m meth c #[Value.ref b] cL_law 8 RL ret wsG := ⟨hx, hb, hr, hml, hown, hts, hlocks, lw_N htT⟩
  have hA : ∀ z : Nat, s.heap.size ≤ z → (fun z : Nat => s.heap.size ≤ z) z := fun _ h => h
  have hbA : ¬ (fun z : Nat => s.heap.size ≤ z) b := Nat.not_le.mpr hbl
  obtain ⟨c0, iS0, hKn0⟩ := u_known (C := RX0) (T := TX0) (N := 3) (n := 3) hts inX0 (hts _ wm_627)
  obtain ⟨c1, iS1, hKn1⟩ := u_known (C := RX1) (T := TX1) (N := 6) (n := 6) hts inX1 (hts _ wm_106)
  obtain ⟨c2, iS2, hKn2⟩ := u_known (C := RX2) (T := TX2) (N := 3) (n := 3) hts inX2 (hts _ wm_121)
  obtain ⟨c3, iS3, hKn3⟩ := u_known (C := RX3) (T := TX3) (N := 2) (n := 2) hts inX3 (hts _ wm_126)
  obtain ⟨c4, iS4, hKn4⟩ := u_known (C := RM) (T := TM) (N := 7) (n := 7) hts inM (hts _ wm_628)
  have hZ : sx_Z s := lw_Zs hKn0.2.1 htT hgv
  obtain ⟨D, hKc⟩ : ∃ D : va_G, ∀ (k : Nat) (q : vw_C), vwCl[k]? = some q → u_Kn s q.1 q.2.1 q.2.2 (D.1 k) (D.2 k) := by
    refine ⟨(fun k => if k = 0 then c0 else if k = 1 then c1 else if k = 2 then c2 else if k = 3 then c3 else c4, fun k => if k = 0 then iS0 else if k = 1 then iS1 else if k = 2 then iS2 else if k = 3 then iS3 else iS4), ?_⟩
    intro k q hq
    match k, hq with
    | 0, hq => cases hq; exact hKn0
    | 1, hq => cases hq; exact hKn1
    | 2, hq => cases hq; exact hKn2
    | 3, hq => cases hq; exact hKn3
    | 4, hq => cases hq; exact hKn4
    | k + 5, hq => simp at hq
  have hS : va_S (fun z : Nat => s.heap.size ≤ z) s.heap s.heap [] := va_S.rf
  have hK : va_K D vwCl [] s := ⟨hKc, fun k q h => by simp at h⟩
  have hP : va_P D vwCl [] s.heap := sx_P0
  have hD : va_D (fun z : Nat => s.heap.size ≤ z) [] := sx_D0
  have hl := lv_entry ([.ref b]) (n := 8) (Nat.le_of_ble_eq_true rfl)
  rw [lg_entry_eq]
  generalize (lg_sl ([.ref b]) ++ List.replicate (8 - (lg_sl ([.ref b])).length) Slot.unset).toArray = ls at hl ⊢
  have hl : lv_has ls 8 [(0, .ref b)] := hl
  refine va_new (ci := 0) (fs := [.null, .null, .null]) (C := RX0) (T := TX0) (N := 3) hx hb hts inX0 tyX0 tyX0_ok hown (hts _ wm_629) (hts _ wm_627) (hts _ wm_4) hK hP hD hS hA rfl (fun j hj => by rcases (show j = 0 ∨ j = 1 ∨ j = 2 by omega) with rfl | rfl | rfl <;> rfl) (Nat.le_of_ble_eq_true rfl) (Nat.le_of_ble_eq_true rfl) dL_law_0 (fun a0 H hP hD hS => ?_)
  have hP : va_P D vwCl [(a0, .inr (0, [.null, .null, .null]))] H := hP
  have hD : va_D (fun z : Nat => s.heap.size ≤ z) [(a0, .inr (0, [.null, .null, .null]))] := hD
  refine lv_dup hx hb dL_law_3 rfl ?_
  have hFc := va_free (wc := [(a0, .inr (0, [.null, .null, .null]))]) hD hS hA [0] rfl
  refine va_callv (sp_runI (As := []) (rest := [.ref a0]) C (c_X0_init l D a0) (cwI 0 hts (gG wG_i wm_630) rfl rfl rfl (hts _ wm_4) (hts _ wm_631) (hts _ wm_632) rfl (by decide +kernel) ⟨Nat.le_of_ble_eq_true rfl, Nat.le_of_ble_eq_true rfl⟩) hK hP hD [0] (by decide) rfl [] rfl rfl hl.1 rfl (Nat.le_of_ble_eq_true rfl) dL_law_4 ⟨Nat.le_of_ble_eq_true rfl, Nat.le_of_ble_eq_true rfl⟩) hS (fun q _ h => hFc q h) hFc (fun u t H1 locs ht hvm hw hB hz1 hk1 hS => ?_)
  obtain ⟨cA, hP1, hK1, hD1⟩ := hB
  rw [ht] at hP1
  have hK := va_K.moved hvm.symm hK1
  obtain ⟨hP, hD⟩ := va_join (wr := []) hP hD [0] [] rfl rfl (by decide) (by decide) hk1 hFc hP1 hD1
  obtain ⟨hQ, hE⟩ := dk_birth (a0 := a0) (u := u) hP hD
  generalize dk_ad u = ad at hQ hE
  generalize eq : dk_q a0 u = q at hQ hE
  have eq0 : a0 = q 0 := by rw [← eq]; rfl
  subst eq0
  refine lv_astore_n (lv' := [(1, .ref (q 0)), (0, .ref b)]) hx hb dL_law_7 rfl hl (by decide) rfl (fun ls hl => ?_)
  refine va_new (ci := 4) (fs := [.int 0, .null, .null, .null, .null, .null, .null]) (C := RM) (T := TM) (N := 7) hx hb hts inM tyM tyM_ok hown (hts _ wm_633) (hts _ wm_628) (hts _ wm_378) hK hQ hE hS hA rfl (fun j hj => by rcases (show j = 0 ∨ j = 1 ∨ j = 2 ∨ j = 3 ∨ j = 4 ∨ j = 5 ∨ j = 6 by omega) with rfl | rfl | rfl | rfl | rfl | rfl | rfl <;> rfl) (Nat.le_of_ble_eq_true rfl) (Nat.le_of_ble_eq_true rfl) dL_law_8 (fun r0 H hP hD hS => ?_)
  refine lv_dup hx hb dL_law_11 rfl ?_
  have hFc := va_free (wc := [(r0, .inr (4, [.int 0, .null, .null, .null, .null, .null, .null]))]) hD hS hA [25] (lw_25 dk_len)
  refine va_callv (sp_runI (As := []) (rest := [.ref r0]) C (c_M_init l D r0) (cwI 0 hts (gG wG_i wm_634) rfl rfl rfl (hts _ wm_378) (hts _ wm_635) (hts _ wm_636) rfl (by decide +kernel) ⟨Nat.le_of_ble_eq_true rfl, Nat.le_of_ble_eq_true rfl⟩) hK hP hD [25] (by decide) (lw_25 dk_len) [] rfl rfl hl.1 rfl (Nat.le_of_ble_eq_true rfl) dL_law_12 ⟨Nat.le_of_ble_eq_true rfl, Nat.le_of_ble_eq_true rfl⟩) hS (fun q _ h => hFc q h) hFc (fun v t H1 locs ht hvm hw hB hz1 hk1 hS => ?_)
  obtain ⟨cj1, cj2, cj3, cj4, cj5, cj6, hP1, hK1, hD1⟩ := hB
  rw [ht] at hP1
  have hK := va_K.app (va_K.moved hvm.symm hK1) hK
  obtain ⟨hP, hD⟩ := va_join (wr := dk_W q cA ad (fun _ => nm0) nx0) hP hD [25] (List.range' 0 25) (lw_25 dk_len) (sp_first dk_len) (by decide) (by decide) hk1 hFc hP1 hD1
  have hQ : va_P D vwCl (dk_W q cA ad (fun _ => nm0) nx0 ++ md_W (md_r r0 v) (md_cj cj1 cj2 cj3 cj4 cj5 cj6) 0 md0) H1 := hP
  have hE : va_D (fun z : Nat => s.heap.size ≤ z) (dk_W q cA ad (fun _ => nm0) nx0 ++ md_W (md_r r0 v) (md_cj cj1 cj2 cj3 cj4 cj5 cj6) 0 md0) := hD
  have hK : va_K D vwCl ([(md_cj cj1 cj2 cj3 cj4 cj5 cj6 1, .long), (md_cj cj1 cj2 cj3 cj4 cj5 cj6 2, .long), (md_cj cj1 cj2 cj3 cj4 cj5 cj6 3, .long), (md_cj cj1 cj2 cj3 cj4 cj5 cj6 4, .long), (md_cj cj1 cj2 cj3 cj4 cj5 cj6 5, .long), (md_cj cj1 cj2 cj3 cj4 cj5 cj6 6, .long), (cA, .object RX1)]) s := hK
  generalize md_cj cj1 cj2 cj3 cj4 cj5 cj6 = cj at hQ hE hK
  generalize er : md_r r0 v = r at hQ hE
  have er0 : r0 = r 0 := by rw [← er]; rfl
  subst er0
  refine lv_astore_n (lv' := [(2, .ref (r 0)), (1, .ref (q 0)), (0, .ref b)]) hx hb dL_law_15 rfl hl (by decide) rfl (fun ls hl => ?_)
  refine lv_iconst (v := 1) hx hb dL_law_16 (by decide) ?_
  refine va_newa (atype := .long) (a0 := (1, .inr (.inl (fun _ => 0)))) (ty := .long) (n := 1) (N' := 1) hx hb (hts _ wm_539) rfl hK hQ hE hS hA (fun _ => rfl) (by decide) (by decide) (by decide) (Nat.le_of_ble_eq_true rfl) (Nat.le_of_ble_eq_true rfl) dL_law_17 (fun o cO H hK hP hD hS => ?_)
  obtain ⟨hP, hD⟩ := lw_order dk_len md_len rfl hP hD
  refine lv_astore_n (lv' := [(3, .ref o), (2, .ref (r 0)), (1, .ref (q 0)), (0, .ref b)]) hx hb dL_law_19 rfl hl (by decide) rfl (fun ls hl => ?_)
  refine lv_iconst (v := 0) hx hb dL_law_20 (by decide) ?_
  refine lv_istore (lv' := [(4, .int 0), (3, .ref o), (2, .ref (r 0)), (1, .ref (q 0)), (0, .ref b)]) hx hb dL_law_21 hl (by decide) rfl (fun ls hl => ?_)
  refine W.widen (k := 33 + 0) (n := 272 + 6 * 0) (by omega) (by omega) ?_
  exact law_loop p l e s m below meth c b D q cA ad r cj o cO hL ⟨C, hX, hbl, hK, hZ, hl0⟩ (L + 1) 0 (by omega) (by omega) (fun _ => nm0) nx0 0 md0 (fun _ => 0) _ _ ls (fun k _ => rfl) (fun k _ => ds_0 0) hP hD hS (lv_sub hl [0, 4, 3, 2, 1] rfl)
