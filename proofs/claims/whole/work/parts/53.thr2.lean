/-! its end: it threw, nothing old has changed, one new cell of six slots -/
def sx_Q (st : State) (o : Outcome) (t : State) : Prop := ∃ (q : Addr) (ce : Cell), o = .threw q ∧ st.WarmedH t.vm ∧ st.sameButNew ({ t with vm := st.vm } : State) [] 1 6 ∧ t.heap[q]? = some ce ∧ ce.vm = .none ∧ st.vm.findClass sxE = some ce.cls
def sx_Met (l : Launch) (y : MethodName) (ws : List Cond) (rm : Room) (Pc : Array Value → State → Prop) : Prop := MetFree l y (headSpec ws rm) Pc (fun _ _ _ _ _ => True) (fun _ st o t => sx_Q st o t)
def sx_MQ (below : List Frame) (s : State) : State → Prop := fun t => ∃ o, t.status = .running ∧ Ended t below o ∧ sx_Q s o t
def sx_P (D : va_G) (av : List Value) (wc : va_W) (tys : List (ClassId × FieldType)) (sz : Nat) : Array Value → State → Prop :=
  va_Pc av (fun U => U.heap.size = sz ∧ va_P D vwCl wc U.heap ∧ va_K D vwCl tys U ∧ va_D (fun _ => True) wc ∧ sp_N U ∧ sx_Z U)
theorem sx_Z.same {u U : State} (hv : u.vm = U.vm) (hh : u.heap = U.heap) (h : sx_Z u) : sx_Z U := h.moved (hv ▸ State.WarmedH.refl u) (fun q _ => by rw [hh])
theorem sx_blind (D : va_G) (av : List Value) (wc : va_W) (tys : List (ClassId × FieldType)) (sz : Nat) : FrameBlind (sx_P D av wc tys sz) := fun a U g mk q => by
  obtain ⟨q0, q1, qP, qK, qD, qN, qZ⟩ := q
  exact ⟨q0, q1, qP, va_K.moved (u := U) (U := U.calling g mk a) (Vm.Alike.refl U.vm) qK, qD, sp_N.same rfl qN, sx_Z.same (u := U) (U := U.calling g mk a) rfl rfl qZ⟩
theorem sx_ofW {l : Launch} {y : MethodName} {ws ws' : List Cond} {rm : Room} {D : va_G} {av : List Value} {wc : va_W} {tys : List (ClassId × FieldType)} {cc : ByteArray} {nL : Nat} {ret : Option FieldType} {own : String}
    (hy : plainName y.cls = true) (ho : y.cls = own) (hw : ws = Cond.code y cc nL ret :: ws') (hlen : (lg_sl av).length ≤ nL)
    (body : ∀ (p : Program) (e : Env) (s : State) (m : MethodId) (below : List Frame) (meth : Method) (c : Code) (ls : Array Slot), sp_C p s m meth c av.toArray cc nL own ret ws → c.exceptionTable.toList = [] → sx_Z s → va_P D vwCl wc s.heap → va_K D vwCl tys s → va_D (fun _ => True) wc → lv_has ls nL (lv_args 0 av) →
      W p l e rm s m av.toArray below meth c s.heap [] 0 0 (sx_MQ below s) (F0 m 0 ls [])) :
    ∀ sz : Nat, sx_Met l y ws rm (sx_P D av wc tys sz) := by
  intro sz
  have hin : Cond.code y cc nL ret ∈ ws := by rw [hw]; exact List.mem_cons_self
  refine MetFree.of_bodyS (code := cc) (maxLocals := nL) (ret := ret) hy ?_ ?_
  · intro args s m h hn
    obtain ⟨meth, c, h1, h2, h3, h4, h5, h6, -, -⟩ := Cond.code_spec hn (atoms_spec (ws := ws) h _ hin)
    exact ⟨meth, c, h1, h2, h3, h4, h5, h6⟩
  · intro p e s m args below meth c s₁ B hml hv _
    obtain ⟨rfl, hsz, hP, hK, hD0, hN, hZ⟩ := hv
    have hts := atoms_spec (ws := ws) B.pre
    have hown : s.vm.findClass y.cls = some m.cls := findClass_of_methodNamed B.named
    have X₀ := Stand.of_body B
    have hh0 : s₁.heap = s.heap := by rw [B.state]; rfl
    have htab : c.exceptionTable.toList = [] := by
      obtain ⟨meth', c', h1, h2, -, -, -, -, h7, -⟩ := Cond.code_spec B.named (hts _ hin)
      cases h1.symm.trans X₀.method
      cases h2.symm.trans X₀.code
      have h0 : c.exceptionTable.size = 0 := by simpa [Array.isEmpty] using h7
      exact List.eq_nil_of_length_eq_zero (by simpa using h0)
    subst ho
    have K : W p l e rm s m av.toArray below meth c s.heap [] 0 0 (sx_MQ below s) (entryFrame m av.toArray nL) := by
      have hl := lv_entry av (n := nL) hlen
      rw [lg_entry_eq]
      generalize (lg_sl av ++ List.replicate (nL - (lg_sl av).length) Slot.unset).toArray = ls at hl ⊢
      exact body p e s m below meth c ls ⟨B.exec, B.bytes, B.returns, hml, hown, hts, B.notSynchronized, hN⟩ htab hZ hP hK hD0 hl
    obtain ⟨t, a1, o, b1, b2, b3⟩ := K s₁ hh0 X₀
    exact ⟨t, o, a1, b1, b2, b3⟩
section SXR
variable {p : Program} {l : Launch} {e : Env} {R : Room} {s : State} {m : MethodId} {args : Array Value} {below : List Frame} {meth : Method} {c : Code} {H : Heap} {locs : List Loc} {cells slots : Nat} {Q : State → Prop}
variable {cc : ByteArray} {nL : Nat} {own : String} {Ts : List Cond} {D : va_G} {A : Nat → Prop} {ws wc w1 : va_W} {tys tys1 : List (ClassId × FieldType)} {pc : Nat} {ls : Array Slot} {H0 : Heap} {rest st0 : List Value} {a : Array Value}
theorem sx_throw {ret : Option FieldType} {text : String} {ik is : Nat} (C : sp_C p s m meth c args cc nL RX0 ret Ts) (hl0 : l.stackTraces = false) (hZ : sx_Z s) (hstr : ∃ q : Nat, vk_R RX0 is text q s) (hT : c.exceptionTable.toList = []) (hf : ∀ q ∈ locs, s.heap.size ≤ q.base) (hsz : s.heap.size ≤ H.size) (hsize : ls.size = nL)
    (hk : (Cond.classLink RX0 ik sxE).before args s = true) (hini : (Cond.initialized sxE).before args s = true)
    (d0 : decode cc pc = .ok (.new ik, 3)) (d3 : decode cc (pc + 3) = .ok (.dup, 1)) (d4 : decode cc (pc + 4) = .ok (.ldc is, 2)) (d6 : decode cc (pc + 6) = .ok (.invokespecial 77, 3)) (d9 : decode cc (pc + 9) = .ok (.athrow, 1))
    (hR : 5 < R.frames ∧ 82 ≤ R.locals ∧ 1 ≤ R.cells ∧ 6 ≤ R.slots) :
    W p l e R s m args below meth c H locs 0 0 (sx_MQ below s) (F0 m pc ls []) := by
  obtain ⟨q9, hstr⟩ := hstr
  have hx := C.1
  have hb := C.2.1
  have hown := C.2.2.2.2.1
  have hlocks : meth.locks = false := C.2.2.2.2.2.2.1
  have hat := hZ.use (a := args)
  refine va_forget hf ?_
  refine W.newc (n := 6) (C := sxE) hx hb hown hk (hat _ (by simp [sxA, Bundle.ownAtoms])) hini rfl d0 (by omega) (by omega) (fun cC kC h1 h2 h3 h4 => ?_)
  refine W.eq (g2 := F0 m (pc + 3) ls [.ref H.size]) rfl ?_
  refine lv_dup hx hb d3 rfl ?_
  refine va_ldcS hx hb hown hstr d4 ?_
  intro T hT9 X
  have htr : e.platform.stackTraces = false := by rw [X.admits.platform]; exact hl0
  obtain ⟨U, st, hrun, hend, hW, hsame, ce, hce, hO⟩ := X.ctorThrowS (own := RX0) (cls := sxE) (names := sxN) (ic := 77) hx htr hown (by decide +kernel) (by decide +kernel) hat (fun x hx9 => absurd hx9 List.not_mem_nil)
    (a := H.size) (cX := cC) (kX := kC) h1 h2 (by rw [hT9]; simp [freshCell]) hsz (msg := .ref q9) rfl (g := F0 m (pc + 3 + 1 + 2) ls [.ref q9, .ref H.size, .ref H.size]) rfl (hsize.trans C.2.2.2.1.symm) rfl rfl (rest := []) rfl
    (by rw [hb]; exact d6) (by rw [hb]; exact d9) (by rw [hT]; exact fun x hx9 => absurd hx9 List.not_mem_nil) hR.1 (Nat.le_trans (Nat.le_of_ble_eq_true rfl) hR.2.1)
  exact ⟨U, st, .threw H.size, hrun, hend, H.size, ce, rfl, hW, hsame, hce, hO.vm, hO.cls⟩
end SXR
