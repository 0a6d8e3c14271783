def nw_M : List (String × Nat × MethodName × String) := [(RX0, 17, yX2_init, "RangeDesk"), (RX0, 24, yX3_init, "RangeDesk"), (RX0, 29, yX1_init, "RangeDesk"), (RX1, 48, yX0_isAbove, "RangeDesk"), (RX2, 11, yX1_init, "RangeDesk"), (RX2, 99, yX0_isAbove, "RangeDesk"), (RX2, 147, yX0_unsignedMin, "RangeDesk"), (RX2, 150, yX0_unsignedMax, "RangeDesk"), (RX3, 11, yX1_init, "RangeDesk"), (RX3, 143, yX0_isAbove, "RangeDesk")]
def nw_A : List String := [RX1]
/-! the standard contract: a method's start (its cells, the tables, the nest's words), its end (the same addresses, new contents) -/
def sp_N (U : State) : Prop := (∀ q ∈ nw_M, va_Nw (.methodLinkNest q.1 q.2.1 q.2.2.1 q.2.2.2) U) ∧ ∀ C ∈ nw_A, va_AO C U
theorem sp_N.warm {s U : State} (hW : s.WarmedH U.vm) (h : sp_N s) : sp_N U := ⟨fun q hq => va_Nw.warmM hW (h.1 q hq), fun C hC => va_AO.moved hW.alike (h.2 C hC)⟩
theorem sp_N.same {s U : State} (hv : s.vm = U.vm) (h : sp_N s) : sp_N U := ⟨fun q hq => va_Nw.same rfl hv (h.1 q hq), fun C hC => va_AO.moved (hv ▸ Vm.Alike.refl s.vm) (h.2 C hC)⟩
def sp_P (D : va_G) (av : List Value) (wc : va_W) (tys : List (ClassId × FieldType)) (sz : Nat) : Array Value → State → Prop :=
  va_Pc av (fun U => U.heap.size = sz ∧ va_P D vwCl wc U.heap ∧ va_K D vwCl tys U ∧ va_D (fun _ => True) wc ∧ sp_N U)
theorem sp_blind (D : va_G) (av : List Value) (wc : va_W) (tys : List (ClassId × FieldType)) (sz : Nat) : FrameBlind (sp_P D av wc tys sz) := fun a U g mk q => by
  obtain ⟨q0, q1, qP, qK, qD, qN⟩ := q
  exact ⟨q0, q1, qP, va_K.moved (u := U) (U := U.calling g mk a) (Vm.Alike.refl U.vm) qK, qD, sp_N.same rfl qN⟩
def sp_W (D : va_G) (A : Nat → Prop) (w1 : va_W) (tys : List (ClassId × FieldType)) (t : State) : Prop := va_P D vwCl w1 t.heap ∧ va_K D vwCl tys t ∧ va_D A w1
def sp_Qv (D : va_G) (wc w1 : va_W) (tys : List (ClassId × FieldType)) (sz : Nat) : Array Value → State → Outcome → State → Prop := va_Qv (fun _ : Unit => True) (fun _ t => sp_W D (va_A wc sz) w1 tys t) (va_A wc sz)
def sp_Qi (D : va_G) (wc w1 : va_W) (tys : List (ClassId × FieldType)) (r : Int32) (sz : Nat) : Array Value → State → Outcome → State → Prop := va_Qi (fun x (_ : Unit) => x = r) (fun _ t => sp_W D (va_A wc sz) w1 tys t) (va_A wc sz)
def sp_Qz (D : va_G) (wc w1 : va_W) (tys : List (ClassId × FieldType)) (r : Int32) (sz : Nat) : Array Value → State → Outcome → State → Prop := va_Qi (fun x (_ : Unit) => x = r ∧ (x = 0 ∨ x = 1)) (fun _ t => sp_W D (va_A wc sz) w1 tys t) (va_A wc sz)
def sp_Ql (D : va_G) (wc w1 : va_W) (tys : List (ClassId × FieldType)) (r : Int64) (sz : Nat) : Array Value → State → Outcome → State → Prop := va_Ql (fun x (_ : Unit) => x = r) (fun _ t => sp_W D (va_A wc sz) w1 tys t) (va_A wc sz)
def sp_Qr (D : va_G) (wc w1 : va_W) (tys : List (ClassId × FieldType)) (r : Nat) (sz : Nat) : Array Value → State → Outcome → State → Prop := va_Qr (fun _ : Unit => True) (fun _ x t => x = r ∧ sp_W D (va_A wc sz) w1 tys t) (va_A wc sz)
abbrev sp_M (l : Launch) (y : MethodName) (ws : List Cond) (rm : Room) (D : va_G) (av : List Value) (wc : va_W) (tys : List (ClassId × FieldType)) (Qs : Nat → Array Value → State → Outcome → State → Prop) : Prop :=
  ∀ sz : Nat, Met l y ws rm (sp_P D av wc tys sz) (Qs sz) 0 0 (va_A wc sz)
def sp_C (p : Program) (s : State) (m : MethodId) (meth : Method) (c : Code) (args : Array Value) (cc : ByteArray) (nL : Nat) (own : String) (ret : Option FieldType) (ws : List Cond) : Prop :=
  p.tables.exec = Jvm.exec ∧ c.code = cc ∧ meth.sig.returnType = ret ∧ c.maxLocals = nL ∧ s.vm.findClass own = some m.cls ∧ (∀ w ∈ ws, w.before args s = true) ∧ meth.locks = false ∧ sp_N s
theorem sp_ofW {l : Launch} {y : MethodName} {ws ws' : List Cond} {rm : Room} {D : va_G} {av : List Value} {wc : va_W} {tys : List (ClassId × FieldType)} {Qs : Nat → Array Value → State → Outcome → State → Prop} {mc ms : Nat} {cc : ByteArray} {nL : Nat} {ret : Option FieldType} {own : String}
    (hy : plainName y.cls = true) (ho : y.cls = own) (hw : ws = Cond.code y cc nL ret :: ws') (hlen : (lg_sl av).length ≤ nL)
    (body : ∀ (p : Program) (e : Env) (s : State) (m : MethodId) (below : List Frame) (meth : Method) (c : Code) (A : Nat → Prop) (ls : Array Slot), A = va_A wc s.heap.size → meth.name = y.name → sp_C p s m meth c av.toArray cc nL own ret ws → (∀ q : Nat, s.heap.size ≤ q → A q) → va_P D vwCl wc s.heap → va_K D vwCl tys s → va_D A wc → va_S A s.heap s.heap [] → lv_has ls nL (lv_args 0 av) →
      W p l e rm s m av.toArray below meth c s.heap [] 0 0 (MQ below (Qs s.heap.size) av.toArray s mc ms (va_A wc s.heap.size)) (F0 m 0 ls [])) :
    ∀ sz : Nat, Met l y ws rm (sp_P D av wc tys sz) (Qs sz) mc ms (va_A wc sz) := by
  intro sz
  refine Met.ofW (cc := cc) (maxL := nL) (ret := ret) hy hw ?_
  intro p e s m args below meth c s₁ B hml hv
  obtain ⟨rfl, hsz, hP, hK, hD0, hN⟩ := hv
  have hts := atoms_spec (ws := ws) B.pre
  have hown : s.vm.findClass y.cls = some m.cls := findClass_of_methodNamed B.named
  have hnm : meth.name = y.name := (name_of_methodNamed B.named B.method).1
  subst ho
  subst hsz
  have hl := lv_entry av (n := nL) hlen
  rw [lg_entry_eq]
  generalize (lg_sl av ++ List.replicate (nL - (lg_sl av).length) Slot.unset).toArray = ls at hl ⊢
  exact body p e s m below meth c _ ls rfl hnm ⟨B.exec, B.bytes, B.returns, hml, hown, hts, B.notSynchronized, hN⟩ (fun q h => Or.inr h) hP hK (hD0.self (sz := s.heap.size)) va_S.rf hl
/-- callee's cells come back at the same addresses -/
def sp_upd : va_W → List Nat → va_W → va_W
  | ws, i :: is, q :: qs => sp_upd (ws.set i q) is qs
  | ws, _, _ => ws
theorem sp_fm {α β : Type} {f : α → Option β} : ∀ {is : List α} {wc : List β}, is.map f = wc.map some → is.filterMap f = wc
  | [], [], _ => rfl
  | [], _ :: _, h => by simp at h
  | _ :: _, [], h => by simp at h
  | i :: is, q :: wc, h => by
    simp only [List.map_cons, List.cons.injEq] at h
    rw [List.filterMap_cons_some h.1, sp_fm h.2]
theorem sp_upd_fst : ∀ (is : List Nat) (ws wc w1 : va_W), is.map (fun i => ws[i]?) = wc.map some → w1.map (·.1) = wc.map (·.1) → (sp_upd ws is w1).map (·.1) = ws.map (·.1)
  | [], ws, wc, w1, _, _ => by unfold sp_upd; rfl
  | i :: is, ws, [], w1, h, _ => by simp at h
  | i :: is, ws, q :: wc, [], _, h => by simp at h
  | i :: is, ws, q :: wc, q1 :: w1, h, ha => by
    simp only [List.map_cons, List.cons.injEq] at h ha
    have e1 : (ws.set i q1).map (·.1) = ws.map (·.1) := by
      rw [List.map_set]
      apply List.ext_getElem?
      intro k
      by_cases hk : k = i
      · subst hk
        have hl := (List.getElem?_eq_some_iff.mp h.1).1
        rw [List.getElem?_set_self (by simpa using hl), List.getElem?_map, h.1, ha.1]
        rfl
      · rw [List.getElem?_set_ne (Ne.symm hk)]
    show (sp_upd (ws.set i q1) is w1).map (·.1) = ws.map (·.1)
    rw [← e1]
    have hl : i < ws.length := (List.getElem?_eq_some_iff.mp h.1).1
    refine sp_upd_fst is (ws.set i q1) (is.filterMap fun j => (ws.set i q1)[j]?) w1 ?_ ?_
    · have : ∀ (js : List Nat) (v : va_W), js.map (fun j => ws[j]?) = v.map some → js.map (fun j => (ws.set i q1)[j]?) = (js.filterMap fun j => (ws.set i q1)[j]?).map some := by
        intro js
        induction js with
        | nil => intro v _; rfl
        | cons j js ih =>
          intro v hv
          cases v with
          | nil => simp at hv
          | cons x v =>
            simp only [List.map_cons, List.cons.injEq] at hv
            have hj : j < (ws.set i q1).length := by rw [List.length_set]; exact (List.getElem?_eq_some_iff.mp hv.1).1
            have hx : (ws.set i q1)[j]? = some ((ws.set i q1)[j]) := List.getElem?_eq_getElem hj
            rw [List.map_cons, ih v hv.2, List.filterMap_cons_some hx, List.map_cons, hx]
      exact this is wc h.2
    · have : ∀ (js : List Nat) (v : va_W), js.map (fun j => ws[j]?) = v.map some → (js.filterMap fun j => (ws.set i q1)[j]?).map (·.1) = v.map (·.1) := by
        intro js
        induction js with
        | nil => intro v hv; cases v with
          | nil => rfl
          | cons x v => simp at hv
        | cons j js ih =>
          intro v hv
          cases v with
          | nil => simp at hv
          | cons x v =>
            simp only [List.map_cons, List.cons.injEq] at hv
            by_cases hji : j = i
            · subst hji
              have hx : (ws.set j q1)[j]? = some q1 := List.getElem?_set_self hl
              have hxq : x = q := by
                have := hv.1.symm.trans h.1
                exact Option.some.inj this
              rw [List.filterMap_cons_some hx, List.map_cons, List.map_cons, ih v hv.2, ha.1, hxq]
            · have hx : (ws.set i q1)[j]? = some x := by rw [List.getElem?_set_ne (Ne.symm hji)]; exact hv.1
              rw [List.filterMap_cons_some hx, List.map_cons, List.map_cons, ih v hv.2]
      rw [this is wc h.2]
      exact ha.2
/-- a cell of the new world was in the old one at a place that the callee didn't have, or is the callee's -/
theorem sp_upd_mem : ∀ (is : List Nat) (ws w1 : va_W) (k : Nat) (q : Nat × va_E), is.length = w1.length → (sp_upd ws is w1)[k]? = some q → (k ∉ is ∧ ws[k]? = some q) ∨ q ∈ w1
  | [], ws, w1, k, q, _, h => Or.inl ⟨List.not_mem_nil, by unfold sp_upd at h; exact h⟩
  | i :: is, ws, [], k, q, hl, _ => by simp at hl
  | i :: is, ws, q1 :: w1, k, q, hl, h => by
    have h' : (sp_upd (ws.set i q1) is w1)[k]? = some q := h
    rcases sp_upd_mem is (ws.set i q1) w1 k q (by simpa using hl) h' with ⟨h1, h2⟩ | h1
    · by_cases hk : k = i
      · subst hk
        have hlt : k < (ws.set k q1).length := (List.getElem?_eq_some_iff.mp h2).1
        rw [List.getElem?_set_self (by simpa using hlt)] at h2
        cases h2
        exact Or.inr List.mem_cons_self
      · rw [List.getElem?_set_ne (Ne.symm hk)] at h2
        exact Or.inl ⟨by simp [hk, h1], h2⟩
    · exact Or.inr (List.mem_cons_of_mem _ h1)
theorem sp_D_fst {A : Nat → Prop} {ws ws' : va_W} (e : ws'.map (·.1) = ws.map (·.1)) (h : va_D A ws) : va_D A ws' := by
  have key : ∀ (k : Nat) (q : Nat × va_E), ws'[k]? = some q → ∃ q0, ws[k]? = some q0 ∧ q0.1 = q.1 := by
    intro k q hk
    have h1 : (ws'.map (·.1))[k]? = some q.1 := by rw [List.getElem?_map, hk]; rfl
    rw [e, List.getElem?_map] at h1
    cases h2 : ws[k]? with
    | none => rw [h2] at h1; cases h1
    | some q0 => rw [h2] at h1; exact ⟨q0, rfl, Option.some.inj h1⟩
  refine ⟨fun i j x y hx hy hxy => ?_, fun k q hk => ?_⟩
  · obtain ⟨x0, a1, a2⟩ := key i x hx
    obtain ⟨y0, b1, b2⟩ := key j y hy
    exact h.1 i j x0 y0 a1 b1 (a2.trans (hxy.trans b2.symm))
  · obtain ⟨q0, a1, a2⟩ := key k q hk
    rw [← a2]
    exact h.2 k q0 a1
theorem sp_join {A : Nat → Prop} {D : va_G} {cl : List vw_C} {ws wc w1 : va_W} {H H1 : Heap} (hP : va_P D cl ws H) (hD : va_D A ws) (is : List Nat) (hC : is.map (fun i => ws[i]?) = wc.map some) (ha : w1.map (·.1) = wc.map (·.1))
    (hk : ∀ q : Nat, q < H.size → ¬ va_A wc H.size q → H1[q]? = H[q]?) (hP1 : va_P D cl w1 H1) : va_P D cl (sp_upd ws is w1) H1 ∧ va_D A (sp_upd ws is w1) := by
  refine ⟨fun k q hq => ?_, sp_D_fst (sp_upd_fst is ws wc w1 hC ha) hD⟩
  have hlen : is.length = w1.length := by
    have h1 := congrArg List.length hC
    have h2 := congrArg List.length ha
    simp only [List.length_map] at h1 h2
    omega
  rcases sp_upd_mem is ws w1 k q hlen hq with ⟨h1, h2⟩ | h1
  · have hl := (hP k q h2).lt
    refine (hP k q h2).kept (hk q.1 hl fun h => ?_)
    rcases h with ⟨k2, e, h⟩ | h
    · obtain ⟨i, h3, h4⟩ := va_in_of is hC h
      have := hD.1 k i q (q.1, e) h2 h4 rfl
      subst this
      exact h1 (List.mem_of_getElem? h3)
    · omega
  · obtain ⟨j, hj⟩ := List.getElem?_of_mem h1
    exact hP1 j q hj
section SPR
variable {p : Program} {l : Launch} {e : Env} {R : Room} {s : State} {m : MethodId} {args : Array Value} {below : List Frame} {meth : Method} {c : Code} {H : Heap} {locs : List Loc} {cells slots : Nat} {Q : State → Prop}
variable {cc : ByteArray} {nL : Nat} {own : String} {Ts : List Cond} {D : va_G} {A : Nat → Prop} {ws wc w1 : va_W} {tys tys1 : List (ClassId × FieldType)} {pc : Nat} {ls : Array Slot} {H0 : Heap} {rest st0 : List Value} {a : Array Value}
theorem sp_vret (C : sp_C p s m meth c args cc nL own none Ts) (hA : A = va_A wc s.heap.size) (hP : va_P D vwCl w1 H) (hK : va_K D vwCl tys s) (hD : va_D A w1) (hS : va_S A s.heap H locs) (hdg : decode cc pc = .ok (.return_, 1)) :
    W p l e R s m args below meth c H locs cells slots (MQ below (sp_Qv D wc w1 tys s.heap.size) args s cells slots (va_A wc s.heap.size)) (F0 m pc ls []) := by
  subst hA
  exact W.vret C.1 C.2.1 C.2.2.1 (fun t ht hW => ⟨⟨(), rfl, trivial, by rw [ht]; exact hP, va_K.moved hW.alike hK, hD⟩, hS.F ht⟩) hS.2.2 hdg C.2.2.2.2.2.2.1
theorem sp_iret {v : Int32} (C : sp_C p s m meth c args cc nL own (some .int) Ts) (hA : A = va_A wc s.heap.size) (hP : va_P D vwCl w1 H) (hK : va_K D vwCl tys s) (hD : va_D A w1) (hS : va_S A s.heap H locs) (hdg : decode cc pc = .ok (.ireturn, 1)) :
    W p l e R s m args below meth c H locs cells slots (MQ below (sp_Qi D wc w1 tys v s.heap.size) args s cells slots (va_A wc s.heap.size)) (F0 m pc ls [.int v]) := by
  subst hA
  exact W.iret C.1 C.2.1 C.2.2.1 (fun t ht hW => ⟨⟨v, (), rfl, rfl, by rw [ht]; exact hP, va_K.moved hW.alike hK, hD⟩, hS.F ht⟩) hS.2.2 hdg C.2.2.2.2.2.2.1
theorem sp_n01 {v : Int32} (h : v = 0 ∨ v = 1) : narrow .boolean (.int v) = .int v := by
  rcases h with rfl | rfl <;> rfl
theorem sp_zret {v : Int32} (C : sp_C p s m meth c args cc nL own (some .boolean) Ts) (hA : A = va_A wc s.heap.size) (hP : va_P D vwCl w1 H) (hK : va_K D vwCl tys s) (hD : va_D A w1) (hS : va_S A s.heap H locs) (hv : v = 0 ∨ v = 1) (hdg : decode cc pc = .ok (.ireturn, 1)) :
    W p l e R s m args below meth c H locs cells slots (MQ below (sp_Qz D wc w1 tys v s.heap.size) args s cells slots (va_A wc s.heap.size)) (F0 m pc ls [.int v]) := by
  subst hA
  exact W.zret C.1 C.2.1 C.2.2.1 (sp_n01 hv) (fun t ht hW => ⟨⟨v, (), rfl, ⟨rfl, hv⟩, by rw [ht]; exact hP, va_K.moved hW.alike hK, hD⟩, hS.F ht⟩) hS.2.2 hdg C.2.2.2.2.2.2.1
theorem sp_lret {v : Int64} (C : sp_C p s m meth c args cc nL own (some .long) Ts) (hA : A = va_A wc s.heap.size) (hP : va_P D vwCl w1 H) (hK : va_K D vwCl tys s) (hD : va_D A w1) (hS : va_S A s.heap H locs) (hdg : decode cc pc = .ok (.lreturn, 1)) :
    W p l e R s m args below meth c H locs cells slots (MQ below (sp_Ql D wc w1 tys v s.heap.size) args s cells slots (va_A wc s.heap.size)) (F0 m pc ls [.long v]) := by
  subst hA
  exact W.lret C.1 C.2.1 C.2.2.1 (fun t ht hW => ⟨⟨v, (), rfl, rfl, by rw [ht]; exact hP, va_K.moved hW.alike hK, hD⟩, hS.F ht⟩) hS.2.2 hdg C.2.2.2.2.2.2.1
theorem sp_aret {v : Nat} {nm : String} (C : sp_C p s m meth c args cc nL own (some (.object nm)) Ts) (hA : A = va_A wc s.heap.size) (hP : va_P D vwCl w1 H) (hK : va_K D vwCl tys s) (hD : va_D A w1) (hS : va_S A s.heap H locs) (hdg : decode cc pc = .ok (.areturn, 1)) :
    W p l e R s m args below meth c H locs cells slots (MQ below (sp_Qr D wc w1 tys v s.heap.size) args s cells slots (va_A wc s.heap.size)) (F0 m pc ls [.ref v]) := by
  subst hA
  exact W.aret C.1 C.2.1 C.2.2.1 (Or.inl ⟨_, rfl⟩) (Or.inr ⟨_, rfl⟩) (fun t ht hW => ⟨⟨(), v, rfl, trivial, rfl, by rw [ht]; exact hP, va_K.moved hW.alike hK, hD⟩, hS.F ht⟩) hS.2.2 hdg C.2.2.2.2.2.2.1
/-! behind a call -/
theorem sp_callv (run : va_Run p l e R s m args below meth c H locs cells slots 0 0 (F0 m pc ls st0) rest (sp_Qv D wc w1 tys1 H.size a) (va_A wc H.size)) (hP : va_P D vwCl ws H) (hD : va_D A ws) (hS : va_S A H0 H locs) (hA : ∀ q, H0.size ≤ q → A q) (is : List Nat) (hC : is.map (fun i => ws[i]?) = wc.map some) (ha : w1.map (·.1) = wc.map (·.1))
    (kk : ∀ (H1 : Heap) (locs1 : List Loc), va_P D vwCl (sp_upd ws is w1) H1 → va_D A (sp_upd ws is w1) → va_S A H0 H1 locs1 → W p l e R s m args below meth c H1 locs1 cells slots Q (F0 m (pc + 3) ls rest)) : W p l e R s m args below meth c H locs cells slots Q (F0 m pc ls st0) := by
  have hF := va_free (wc := wc) hD hS hA is hC
  refine va_callv run hS (fun q _ h => hF q h) hF (fun u t H1 locs1 ht hvm hw hB hz1 hk1 hS => ?_)
  obtain ⟨hP1, -, -⟩ := hB
  rw [ht] at hP1
  obtain ⟨hP2, hD2⟩ := sp_join hP hD is hC ha hk1 hP1
  exact kk H1 locs1 hP2 hD2 hS
theorem sp_calli {r : Int32} (run : va_Run p l e R s m args below meth c H locs cells slots 0 0 (F0 m pc ls st0) rest (sp_Qi D wc w1 tys1 r H.size a) (va_A wc H.size)) (hP : va_P D vwCl ws H) (hD : va_D A ws) (hS : va_S A H0 H locs) (hA : ∀ q, H0.size ≤ q → A q) (is : List Nat) (hC : is.map (fun i => ws[i]?) = wc.map some) (ha : w1.map (·.1) = wc.map (·.1))
    (kk : ∀ (H1 : Heap) (locs1 : List Loc), va_P D vwCl (sp_upd ws is w1) H1 → va_D A (sp_upd ws is w1) → va_S A H0 H1 locs1 → W p l e R s m args below meth c H1 locs1 cells slots Q (F0 m (pc + 3) ls (.int r :: rest))) : W p l e R s m args below meth c H locs cells slots Q (F0 m pc ls st0) := by
  have hF := va_free (wc := wc) hD hS hA is hC
  refine va_calli run hS (fun q _ h => hF q h) hF (fun x u t H1 locs1 ht hvm hw hB hz1 hk1 hS => ?_)
  obtain ⟨hP1, -, -⟩ := hB
  rw [ht] at hP1
  obtain ⟨hP2, hD2⟩ := sp_join hP hD is hC ha hk1 hP1
  have hw : x = r := hw
  subst hw
  exact kk H1 locs1 hP2 hD2 hS
theorem sp_callz {r : Int32} (run : va_Run p l e R s m args below meth c H locs cells slots 0 0 (F0 m pc ls st0) rest (sp_Qz D wc w1 tys1 r H.size a) (va_A wc H.size)) (hP : va_P D vwCl ws H) (hD : va_D A ws) (hS : va_S A H0 H locs) (hA : ∀ q, H0.size ≤ q → A q) (is : List Nat) (hC : is.map (fun i => ws[i]?) = wc.map some) (ha : w1.map (·.1) = wc.map (·.1))
    (kk : ∀ (H1 : Heap) (locs1 : List Loc), (r = 0 ∨ r = 1) → va_P D vwCl (sp_upd ws is w1) H1 → va_D A (sp_upd ws is w1) → va_S A H0 H1 locs1 → W p l e R s m args below meth c H1 locs1 cells slots Q (F0 m (pc + 3) ls (.int r :: rest))) : W p l e R s m args below meth c H locs cells slots Q (F0 m pc ls st0) := by
  have hF := va_free (wc := wc) hD hS hA is hC
  refine va_calli run hS (fun q _ h => hF q h) hF (fun x u t H1 locs1 ht hvm hw hB hz1 hk1 hS => ?_)
  obtain ⟨hP1, -, -⟩ := hB
  rw [ht] at hP1
  obtain ⟨hP2, hD2⟩ := sp_join hP hD is hC ha hk1 hP1
  obtain ⟨hw, hz⟩ := hw
  have hw : x = r := hw
  subst hw
  exact kk H1 locs1 hz hP2 hD2 hS
theorem sp_calll {r : Int64} (run : va_Run p l e R s m args below meth c H locs cells slots 0 0 (F0 m pc ls st0) rest (sp_Ql D wc w1 tys1 r H.size a) (va_A wc H.size)) (hP : va_P D vwCl ws H) (hD : va_D A ws) (hS : va_S A H0 H locs) (hA : ∀ q, H0.size ≤ q → A q) (is : List Nat) (hC : is.map (fun i => ws[i]?) = wc.map some) (ha : w1.map (·.1) = wc.map (·.1))
    (kk : ∀ (H1 : Heap) (locs1 : List Loc), va_P D vwCl (sp_upd ws is w1) H1 → va_D A (sp_upd ws is w1) → va_S A H0 H1 locs1 → W p l e R s m args below meth c H1 locs1 cells slots Q (F0 m (pc + 3) ls (.long r :: rest))) : W p l e R s m args below meth c H locs cells slots Q (F0 m pc ls st0) := by
  have hF := va_free (wc := wc) hD hS hA is hC
  refine va_calll run hS (fun q _ h => hF q h) hF (fun x u t H1 locs1 ht hvm hw hB hz1 hk1 hS => ?_)
  obtain ⟨hP1, -, -⟩ := hB
  rw [ht] at hP1
  obtain ⟨hP2, hD2⟩ := sp_join hP hD is hC ha hk1 hP1
  have hw : x = r := hw
  subst hw
  exact kk H1 locs1 hP2 hD2 hS
theorem sp_callr {r : Nat} (run : va_Run p l e R s m args below meth c H locs cells slots 0 0 (F0 m pc ls st0) rest (sp_Qr D wc w1 tys1 r H.size a) (va_A wc H.size)) (hP : va_P D vwCl ws H) (hD : va_D A ws) (hS : va_S A H0 H locs) (hA : ∀ q, H0.size ≤ q → A q) (is : List Nat) (hC : is.map (fun i => ws[i]?) = wc.map some) (ha : w1.map (·.1) = wc.map (·.1))
    (kk : ∀ (H1 : Heap) (locs1 : List Loc), va_P D vwCl (sp_upd ws is w1) H1 → va_D A (sp_upd ws is w1) → va_S A H0 H1 locs1 → W p l e R s m args below meth c H1 locs1 cells slots Q (F0 m (pc + 3) ls (.ref r :: rest))) : W p l e R s m args below meth c H locs cells slots Q (F0 m pc ls st0) := by
  have hF := va_free (wc := wc) hD hS hA is hC
  refine va_callr run hS (fun q _ h => hF q h) hF (fun u x t H1 locs1 ht hvm hw hB hz1 hk1 hS => ?_)
  obtain ⟨hx, hP1, -, -⟩ := hB
  rw [ht] at hP1
  obtain ⟨hP2, hD2⟩ := sp_join hP hD is hC ha hk1 hP1
  subst hx
  exact kk H1 locs1 hP2 hD2 hS
/-! the run of a call -/
variable {y : MethodName} {bytes : ByteArray} {maxL mc ms n index : Nat} {ret ret0 : Option FieldType} {wsc : List Cond} {rm : Room} {Cn host : String} {b : Addr} {As : List Value} {tysc : List (ClassId × FieldType)} {Qs : Nat → Array Value → State → Outcome → State → Prop}
theorem sp_preS {av : List Value} (C : sp_C p s m meth c args cc nL own ret0 Ts) (hK : va_K D vwCl tys s) (hP : va_P D vwCl ws H) (hD : va_D A ws) (is : List Nat) (hnd : va_nd is = true) (hC : is.map (fun i => ws[i]?) = wc.map some) (iT : List Nat) (hT : iT.filterMap (fun i => tys[i]?) = tysc) : PreS s H (sp_P D av wc tysc H.size) av :=
  ⟨sp_blind _ _ _ _ _, fun U hU hW => ⟨rfl, by rw [hU], by rw [hU]; exact hP.sub is (sp_fm hC), va_K.moved hW.alike (hK.sub iT hT), (hD.sub is hnd hC).weaken (fun _ _ _ _ => trivial), sp_N.warm hW C.2.2.2.2.2.2.2⟩⟩
theorem sp_runV (C : sp_C p s m meth c args cc nL own ret0 Ts) (hM : ∀ sz : Nat, Met l y wsc rm (sp_P D (.ref b :: As) wc tysc sz) (Qs sz) mc ms (va_A wc sz)) (cw : CallW R s args own Cn index y bytes maxL ret wsc rm mc ms n) (hK : va_K D vwCl tys s) (hP : va_P D vwCl ws H) (hD : va_D A ws) (is : List Nat) (hnd : va_nd is = true) (hC : is.map (fun i => ws[i]?) = wc.map some) (iT : List Nat) (hT : iT.filterMap (fun i => tys[i]?) = tysc)
    (q0 ci : Nat) {fs : List Value} {q : vw_C} (hc : vwCl[ci]? = some q) (hq : q.1 = Cn) (he : wc[q0]? = some (b, .inr (ci, fs))) (hn : As.length = n) (hsize : ls.size = nL) (hstack : st0 = As.reverse ++ .ref b :: rest) (hW : (rest.map fun v => v.category).sum ≤ 8) (hdg : decode cc pc = .ok (.invokevirtual index, 3)) (hf : cells + mc ≤ R.cells ∧ slots + ms ≤ R.slots) :
    va_Run p l e R s m args below meth c H locs cells slots mc ms (F0 m pc ls st0) rest (Qs H.size (Value.ref b :: As).toArray) (va_A wc H.size) := by
  have hpre : PreS s H (sp_P D (.ref b :: As) wc tysc H.size) (.ref b :: As) := sp_preS C hK hP hD is hnd hC iT hT
  have hrec := va_recv hK (hP.sub is (sp_fm hC)) hc he
  rw [hq] at hrec
  exact va_runV ⟨C.1, C.2.1, C.2.2.2.1, C.2.2.2.2.1, C.2.2.2.2.2.1⟩ (hM H.size) cw ⟨hpre.1, hrec, hpre.2⟩ rfl hn hsize hstack (lv_room hW) hdg hf
theorem sp_runVN (C : sp_C p s m meth c args cc nL own ret0 Ts) (hM : ∀ sz : Nat, Met l y wsc rm (sp_P D (.ref b :: As) wc tysc sz) (Qs sz) mc ms (va_A wc sz)) (cw : va_CN R s args own index y host bytes maxL ret wsc rm mc ms n ∧ (Cond.instanceMethod y).before args s = true ∧ (Cond.selects Cn y y).before args s = true) (hK : va_K D vwCl tys s) (hP : va_P D vwCl ws H) (hD : va_D A ws) (is : List Nat) (hnd : va_nd is = true) (hC : is.map (fun i => ws[i]?) = wc.map some) (iT : List Nat) (hT : iT.filterMap (fun i => tys[i]?) = tysc)
    (q0 ci : Nat) {fs : List Value} {q : vw_C} (hc : vwCl[ci]? = some q) (hq : q.1 = Cn) (he : wc[q0]? = some (b, .inr (ci, fs))) (hn : As.length = n) (hsize : ls.size = nL) (hstack : st0 = As.reverse ++ .ref b :: rest) (hW : (rest.map fun v => v.category).sum ≤ 8) (hdg : decode cc pc = .ok (.invokevirtual index, 3)) (hf : cells + mc ≤ R.cells ∧ slots + ms ≤ R.slots) :
    va_Run p l e R s m args below meth c H locs cells slots mc ms (F0 m pc ls st0) rest (Qs H.size (Value.ref b :: As).toArray) (va_A wc H.size) := by
  have hpre : PreS s H (sp_P D (.ref b :: As) wc tysc H.size) (.ref b :: As) := sp_preS C hK hP hD is hnd hC iT hT
  have hrec := va_recv hK (hP.sub is (sp_fm hC)) hc he
  rw [hq] at hrec
  exact va_runVN ⟨C.1, C.2.1, C.2.2.2.1, C.2.2.2.2.1, C.2.2.2.2.2.1⟩ (hM H.size) cw ⟨hpre.1, hrec, hpre.2⟩ rfl hn hsize hstack (lv_room hW) hdg hf
theorem sp_runS (C : sp_C p s m meth c args cc nL own ret0 Ts) (hM : ∀ sz : Nat, Met l y wsc rm (sp_P D As wc tysc sz) (Qs sz) mc ms (va_A wc sz)) (cw : CallB R s args own index y bytes maxL ret wsc rm mc ms n ∧ (Cond.static y).before args s = true) (hK : va_K D vwCl tys s) (hP : va_P D vwCl ws H) (hD : va_D A ws) (is : List Nat) (hnd : va_nd is = true) (hC : is.map (fun i => ws[i]?) = wc.map some) (iT : List Nat) (hT : iT.filterMap (fun i => tys[i]?) = tysc)
    (hn : As.length = n) (hsize : ls.size = nL) (hstack : st0 = As.reverse ++ rest) (hW : (rest.map fun v => v.category).sum ≤ 8) (hdg : decode cc pc = .ok (.invokestatic index, 3)) (hf : cells + mc ≤ R.cells ∧ slots + ms ≤ R.slots) :
    va_Run p l e R s m args below meth c H locs cells slots mc ms (F0 m pc ls st0) rest (Qs H.size As.toArray) (va_A wc H.size) :=
  va_runS ⟨C.1, C.2.1, C.2.2.2.1, C.2.2.2.2.1, C.2.2.2.2.2.1⟩ (hM H.size) cw (sp_preS C hK hP hD is hnd hC iT hT) rfl hn hsize hstack (lv_room hW) hdg hf
theorem sp_runSN (C : sp_C p s m meth c args cc nL own ret0 Ts) (hM : ∀ sz : Nat, Met l y wsc rm (sp_P D As wc tysc sz) (Qs sz) mc ms (va_A wc sz)) (cw : va_CN R s args own index y host bytes maxL ret wsc rm mc ms n ∧ (Cond.static y).before args s = true ∧ True) (hK : va_K D vwCl tys s) (hP : va_P D vwCl ws H) (hD : va_D A ws) (is : List Nat) (hnd : va_nd is = true) (hC : is.map (fun i => ws[i]?) = wc.map some) (iT : List Nat) (hT : iT.filterMap (fun i => tys[i]?) = tysc)
    (hn : As.length = n) (hsize : ls.size = nL) (hstack : st0 = As.reverse ++ rest) (hW : (rest.map fun v => v.category).sum ≤ 8) (hdg : decode cc pc = .ok (.invokestatic index, 3)) (hf : cells + mc ≤ R.cells ∧ slots + ms ≤ R.slots) :
    va_Run p l e R s m args below meth c H locs cells slots mc ms (F0 m pc ls st0) rest (Qs H.size As.toArray) (va_A wc H.size) :=
  va_runSN ⟨C.1, C.2.1, C.2.2.2.1, C.2.2.2.2.1, C.2.2.2.2.2.1⟩ (hM H.size) cw (sp_preS C hK hP hD is hnd hC iT hT) rfl hn hsize hstack (lv_room hW) hdg hf
theorem sp_runIN (C : sp_C p s m meth c args cc nL own ret0 Ts) (hM : ∀ sz : Nat, Met l y wsc rm (sp_P D (.ref b :: As) wc tysc sz) (Qs sz) mc ms (va_A wc sz)) (cw : va_CN R s args own index y host bytes maxL none wsc rm mc ms n ∧ y.name = "<init>" ∧ (Cond.instanceMethod y).before args s = true) (hK : va_K D vwCl tys s) (hP : va_P D vwCl ws H) (hD : va_D A ws) (is : List Nat) (hnd : va_nd is = true) (hC : is.map (fun i => ws[i]?) = wc.map some) (iT : List Nat) (hT : iT.filterMap (fun i => tys[i]?) = tysc)
    (hn : As.length = n) (hsize : ls.size = nL) (hstack : st0 = As.reverse ++ .ref b :: rest) (hW : (rest.map fun v => v.category).sum ≤ 8) (hdg : decode cc pc = .ok (.invokespecial index, 3)) (hf : cells + mc ≤ R.cells ∧ slots + ms ≤ R.slots) :
    va_Run p l e R s m args below meth c H locs cells slots mc ms (F0 m pc ls st0) rest (Qs H.size (Value.ref b :: As).toArray) (va_A wc H.size) :=
  va_runIN ⟨C.1, C.2.1, C.2.2.2.1, C.2.2.2.2.1, C.2.2.2.2.2.1⟩ (hM H.size) cw (sp_preS C hK hP hD is hnd hC iT hT) rfl hn hsize hstack (lv_room hW) hdg hf
theorem sp_runI (C : sp_C p s m meth c args cc nL own ret0 Ts) (hM : ∀ sz : Nat, Met l y wsc rm (sp_P D (.ref b :: As) wc tysc sz) (Qs sz) mc ms (va_A wc sz)) (cw : CallB R s args own index y bytes maxL none wsc rm mc ms n ∧ y.name = "<init>" ∧ (Cond.instanceMethod y).before args s = true) (hK : va_K D vwCl tys s) (hP : va_P D vwCl ws H) (hD : va_D A ws) (is : List Nat) (hnd : va_nd is = true) (hC : is.map (fun i => ws[i]?) = wc.map some) (iT : List Nat) (hT : iT.filterMap (fun i => tys[i]?) = tysc)
    (hn : As.length = n) (hsize : ls.size = nL) (hstack : st0 = As.reverse ++ .ref b :: rest) (hW : (rest.map fun v => v.category).sum ≤ 8) (hdg : decode cc pc = .ok (.invokespecial index, 3)) (hf : cells + mc ≤ R.cells ∧ slots + ms ≤ R.slots) :
    va_Run p l e R s m args below meth c H locs cells slots mc ms (F0 m pc ls st0) rest (Qs H.size (Value.ref b :: As).toArray) (va_A wc H.size) :=
  va_runI ⟨C.1, C.2.1, C.2.2.2.1, C.2.2.2.2.1, C.2.2.2.2.2.1⟩ (hM H.size) cw (sp_preS C hK hP hD is hnd hC iT hT) rfl hn hsize hstack (lv_room hW) hdg hf
end SPR
/-! a number: value, mask, unsigned bounds, signed bounds; its cell; the sixteen of a desk -/
abbrev Nm : Type := Int64 × Int64 × Int64 × Int64 × Int64 × Int64
def nm_fs (n : Nm) : List Value := [.long n.1, .long n.2.1, .long n.2.2.1, .long n.2.2.2.1, .long n.2.2.2.2.1, .long n.2.2.2.2.2]
def nm0 : Nm := (0, 0, 0, 0, 0, 0)
def np_pool (ci : Nat) (ad : Nat → Nat) (sg : Nat → Nm) : va_W := (List.range 16).map (fun k => (ad k, .inr (ci, nm_fs (sg k))))
theorem np_get {ci : Nat} {ad : Nat → Nat} {sg : Nat → Nm} {k : Nat} (hk : k < 16) : (np_pool ci ad sg)[k]? = some (ad k, .inr (ci, nm_fs (sg k))) := by
  unfold np_pool
  rw [List.getElem?_map, List.getElem?_range hk]
  rfl
theorem np_len {ci : Nat} {ad : Nat → Nat} {sg : Nat → Nm} : (np_pool ci ad sg).length = 16 := by
  unfold np_pool
  rw [List.length_map, List.length_range]
theorem np_at {X : va_W} {c k : Nat} {ci : Nat} {ad : Nat → Nat} {sg : Nat → Nm} (hX : X.length = c) (hk : k < 16) : (X ++ np_pool ci ad sg)[c + k]? = some (ad k, .inr (ci, nm_fs (sg k))) := by
  subst hX
  rw [List.getElem?_append_right (by omega), Nat.add_sub_cancel_left]
  exact np_get hk
theorem np_set {X : va_W} {c k : Nat} {ci : Nat} {ad : Nat → Nat} {sg : Nat → Nm} {n : Nm} (hX : X.length = c) (hk : k < 16) : (X ++ np_pool ci ad sg).set (c + k) (ad k, .inr (ci, nm_fs n)) = X ++ np_pool ci ad (va_up sg k n) := by
  subst hX
  apply List.ext_getElem?
  intro j
  by_cases hj : j = X.length + k
  · subst hj
    rw [List.getElem?_set_self (by rw [List.length_append, np_len]; omega), np_at rfl hk, va_up_self]
  · rw [List.getElem?_set_ne (Ne.symm hj)]
    by_cases h1 : j < X.length
    · rw [List.getElem?_append_left h1, List.getElem?_append_left h1]
    · rw [List.getElem?_append_right (by omega), List.getElem?_append_right (by omega)]
      by_cases h2 : j - X.length < 16
      · rw [np_get h2, np_get h2, va_up_ne sg n (show j - X.length ≠ k by omega)]
      · rw [List.getElem?_eq_none (by rw [np_len]; omega), List.getElem?_eq_none (by rw [np_len]; omega)]
theorem np_same {X : va_W} {c k : Nat} {ci : Nat} {ad : Nat → Nat} {sg : Nat → Nm} (hX : X.length = c) (hk : k < 16) : (X ++ np_pool ci ad sg).set (c + k) (ad k, .inr (ci, nm_fs (sg k))) = X ++ np_pool ci ad sg := by
  rw [np_set hX hk]
  congr 2
  funext j
  by_cases hj : j = k
  · rw [hj, va_up_self]
  · rw [va_up_ne sg _ hj]
theorem sp_c0 {ws : va_W} : ([] : List Nat).map (fun i => ws[i]?) = ([] : va_W).map some := rfl
theorem sp_cc {ws wc : va_W} {i : Nat} {is : List Nat} {q : Nat × va_E} (h : ws[i]? = some q) (t : is.map (fun i => ws[i]?) = wc.map some) : (i :: is).map (fun i => ws[i]?) = (q :: wc).map some := by
  rw [List.map_cons, List.map_cons, t, h]
theorem sp_ne0 {x : Int64} (h : ¬ lg_cmp x 0 = 0) : ¬ x = 0 := fun e => h (by subst e; rfl)
theorem sp_f0 : ([] : va_W).map (·.1) = ([] : va_W).map (·.1) := rfl
theorem sp_fc {a : Nat} {x y : va_E} {w1 wc : va_W} (h : w1.map (·.1) = wc.map (·.1)) : ((a, x) :: w1).map (·.1) = ((a, y) :: wc).map (·.1) := by
  rw [List.map_cons, List.map_cons, h]
