/-! a method with one handler: its contract, and its call -/
theorem sh_ofW {l : Launch} {y : MethodName} {ws ws' : List Cond} {rm : Room} {D : va_G} {av : List Value} {wc : va_W} {tys : List (ClassId × FieldType)} {Qs : Nat → Array Value → State → Outcome → State → Prop} {mc ms : Nat} {cc : ByteArray} {nL : Nat} {ret : Option FieldType} {own : String} {t1 t2 t3 t4 : Nat}
    (hy : plainName y.cls = true) (ho : y.cls = own) (hw : ws = Cond.codeWith y cc nL ret [(t1, t2, t3, t4)] :: ws') (hlen : (lg_sl av).length ≤ nL)
    (body : ∀ (p : Program) (e : Env) (s : State) (m : MethodId) (below : List Frame) (meth : Method) (c : Code) (A : Nat → Prop) (ls : Array Slot), A = va_A wc s.heap.size → sp_C p s m meth c av.toArray cc nL own ret ws → c.exceptionTable.toList = [⟨t1, t2, t3, t4⟩] → sx_Z s → (∀ q : Nat, s.heap.size ≤ q → A q) → va_P D vwCl wc s.heap → va_K D vwCl tys s → va_D A wc → va_S A s.heap s.heap [] → lv_has ls nL (lv_args 0 av) →
      W p l e rm s m av.toArray below meth c s.heap [] 0 0 (MQ below (Qs s.heap.size) av.toArray s mc ms (va_A wc s.heap.size)) (F0 m 0 ls [])) :
    ∀ sz : Nat, Met l y ws rm (sx_P D av wc tys sz) (Qs sz) mc ms (va_A wc sz) := by
  intro sz
  have hin : Cond.codeWith y cc nL ret [(t1, t2, t3, t4)] ∈ ws := by rw [hw]; exact List.mem_cons_self
  refine MetFree.of_bodyS (code := cc) (maxLocals := nL) (ret := ret) hy ?_ ?_
  · intro args s m h hn
    obtain ⟨m', meth, c, hn', h1, h2, h3, h4, -, h5, h6, -⟩ := Cond.codeWith_spec (atoms_spec (ws := ws) h _ hin)
    cases hn.symm.trans hn'
    exact ⟨meth, c, h1, h2, h3, h4, h5, h6⟩
  · intro p e s m args below meth c s₁ B hml hv _
    obtain ⟨rfl, hsz, hP, hK, hD0, hN, hZ⟩ := hv
    have hts := atoms_spec (ws := ws) B.pre
    have hown : s.vm.findClass y.cls = some m.cls := findClass_of_methodNamed B.named
    have X₀ := Stand.of_body B
    have hh0 : s₁.heap = s.heap := by rw [B.state]; rfl
    have htab : c.exceptionTable.toList = [⟨t1, t2, t3, t4⟩] := by
      obtain ⟨m', meth', c', hn', h1, h2, -, -, h7, -, -, -⟩ := Cond.codeWith_spec (hts _ hin)
      cases B.named.symm.trans hn'
      cases h1.symm.trans X₀.method
      cases h2.symm.trans X₀.code
      match hc : c.exceptionTable.toList, h7 with
      | [x], h7 =>
        simp only [List.map_cons, List.map_nil, List.cons.injEq, and_true, Prod.mk.injEq] at h7
        obtain ⟨e1, e2, e3, e4⟩ := h7
        rw [← e1, ← e2, ← e3, ← e4]
      | [], h7 => simp at h7
      | _ :: _ :: _, h7 => simp at h7
    subst ho
    subst hsz
    have K : W p l e rm s m av.toArray below meth c s.heap [] 0 0 (MQ below (Qs s.heap.size) av.toArray s mc ms (va_A wc s.heap.size)) (entryFrame m av.toArray nL) := by
      have hl := lv_entry av (n := nL) hlen
      rw [lg_entry_eq]
      generalize (lg_sl av ++ List.replicate (nL - (lg_sl av).length) Slot.unset).toArray = ls at hl ⊢
      exact body p e s m below meth c _ ls rfl ⟨B.exec, B.bytes, B.returns, hml, hown, hts, B.notSynchronized, hN⟩ htab hZ (fun q h => Or.inr h) hP hK (hD0.self (sz := s.heap.size)) va_S.rf hl
    obtain ⟨t, a1, o, b1, b2, b3⟩ := K s₁ hh0 X₀
    exact ⟨t, o, a1, b1, b2, ⟨b3.1, b3.2⟩⟩
section SHK
variable {p : Program} {l : Launch} {e : Env} {R : Room} {s : State} {m : MethodId} {args : Array Value} {below : List Frame} {meth : Method} {c : Code} {H : Heap} {locs : List Loc} {cells slots : Nat} {Q : State → Prop}
variable {cc : ByteArray} {nL : Nat} {own : String} {Ts : List Cond} {D : va_G} {A : Nat → Prop} {ws wc w1 : va_W} {tys tys1 : List (ClassId × FieldType)} {pc : Nat} {ls : Array Slot} {H0 : Heap} {rest st0 : List Value} {a : Array Value}
variable {y : MethodName} {bytes : ByteArray} {maxL mc ms n index : Nat} {ret ret0 : Option FieldType} {wsc : List Cond} {rm : Room} {Cn host : String} {b : Addr} {As : List Value} {tysc : List (ClassId × FieldType)} {Qs : Nat → Array Value → State → Outcome → State → Prop} {hds : List (Nat × Nat × Nat × Nat)}
theorem sh_runS (C : sp_C p s m meth c args cc nL own ret0 Ts) (hM : ∀ sz : Nat, Met l y wsc rm (sx_P D As wc tysc sz) (Qs sz) mc ms (va_A wc sz)) (hws : ∀ w ∈ wsc, ∀ (a' : Array Value) (U : State), s.WarmedH U.vm → w.before a' U = true) (hcw : Cond.codeWith y bytes maxL ret hds ∈ wsc) (hl : (Cond.methodLink own index y).before args s = true) (hstt : (Cond.static y).before args s = true) (hini : (Cond.initialized y.cls).before args s = true)
    (hy : y.cls ≠ "java/lang/invoke/MethodHandle" ∧ y.cls ≠ "java/lang/invoke/VarHandle") (hlen : ∀ sig, parseMethodDescriptor y.desc = some sig → n = sig.parameters.length) (hrc : rm.cells = mc) (hrs : rm.slots = ms) (hR : rm.frames + 1 ≤ R.frames ∧ 8 + (maxL + 11) + rm.locals ≤ R.locals)
    (hZ : sx_Z s) (hH : ∀ q : Nat, q < s.heap.size → H[q]? = s.heap[q]?) (hK : va_K D vwCl tys s) (hP : va_P D vwCl ws H) (hD : va_D A ws) (is : List Nat) (hnd : va_nd is = true) (hC : is.map (fun i => ws[i]?) = wc.map some) (iT : List Nat) (hT : iT.filterMap (fun i => tys[i]?) = tysc)
    (hn : As.length = n) (hsize : ls.size = nL) (hstack : st0 = As.reverse ++ rest) (hW : (rest.map fun v => v.category).sum ≤ 8) (hdg : decode cc pc = .ok (.invokestatic index, 3)) (hf : cells + mc ≤ R.cells ∧ slots + ms ≤ R.slots) :
    va_Run p l e R s m args below meth c H locs cells slots mc ms (F0 m pc ls st0) rest (Qs H.size As.toArray) (va_A wc H.size) := by
  have hpre : PreS s H (sx_P D As wc tysc H.size) As := sx_preS C hZ hH hK hP hD is hnd hC iT hT
  have hB : Back l R p e below s args y 3 8 (PreOf R mc ms (sx_P D As wc tysc H.size)) (PostOf (Qs H.size) mc ms (va_A wc H.size)) := by
    refine Back.of_freeWith (handlers := hds) (bytes := bytes) (maxL := maxL) (ret := ret) (E := fun _ _ _ _ L k n => k = mc ∧ n = ms ∧ ∀ q ∈ L, va_A wc H.size q.base) (hM H.size) hR.1 hR.2 ?_ ?_ (fun _ _ _ _ _ _ _ _ _ => trivial) ?_ ?_
    · intro m9 meth9 c9 P9 a9 X9 h9
      exact ⟨atoms_intro fun w hw => hws w hw _ _ X9.warmed, hws _ hcw _ _ X9.warmed, word_at X9.warmed (Or.inl (by first | rfl | simp [Cond.onTables, Cond.keeps, Cond.steady])) hini, by rw [show (headSpec wsc rm).room.cells = mc from hrc]; exact h9.1, by rw [show (headSpec wsc rm).room.slots = ms from hrs]; exact h9.2.1⟩
    · intro m9 meth9 c9 P9 a9 g9 mk9 X9 h9
      exact hpre.1 _ _ _ _ h9.2.2
    · intro a9 st9 o9 t9 h9
      obtain ⟨-, L, h1, h2⟩ := h9
      exact ⟨L, mc, ms, h1, rfl, rfl, h2⟩
    · intro m9 meth9 c9 P9 a9 g9 mk9 v9 t9 L9 k9 n9 X9 h9 hq9 hF9 hE9
      obtain ⟨e1, e2, hL⟩ := hE9
      subst e1
      subst e2
      exact ⟨g9, mk9, t9, L9, rfl, rfl, hq9.1, rfl, hL, rfl, rfl⟩
  intro T hT9 X
  obtain ⟨mk, methM, cM, hnamed, hmethM, -, -, -, -, -, -, hsigM⟩ := Cond.codeWith_spec (hws _ hcw args s (State.WarmedH.refl s))
  have hstatic : methM.isStatic = true := Cond.static_spec hnamed hmethM hstt
  obtain ⟨kP, hkP, -⟩ := className_of_methodNamed hnamed
  have hinitP : kP.init = .initialized := Cond.initialized_spec (findClass_of_methodNamed hnamed) hkP hini
  obtain ⟨vm₁, X₁, st1⟩ := X.invokestatic C.1 C.2.2.2.2.1 hl hnamed hmethM hstatic hkP hinitP hy (g := F0 m pc ls st0) rfl (argsL := As) (rest := rest) (hn.trans (hlen _ hsigM)) hstack (by rw [C.2.1]; exact hdg)
  obtain ⟨v, P2, X2, hpost, hsteps⟩ := hB m meth c ⟨T.setVm vm₁, locs, cells, slots⟩ (F0 m pc ls rest) (.invokestatic index) mk As.toArray X₁ rfl (hsize.trans C.2.2.2.1.symm) (by rw [C.2.1]; exact hdg) (lv_room hW) (X₁.named hnamed) ⟨hf.1, hf.2, hpre.2 (T.setVm vm₁) hT9 X₁.warmed⟩
  obtain ⟨U', l2, c2, s2⟩ := P2
  obtain ⟨g', mk', t, L, e1, e2, hq, h1, hL, h2, h3⟩ := hpost
  dsimp only [Pt.U, Pt.locs, Pt.cells, Pt.slots] at X2 e1 e2 h1 h2 h3 hsteps
  subst h1
  subst h2
  subst h3
  exact ⟨v, (T.setVm vm₁).calling g' mk' As.toArray, t, U', L, hT9, X2, hL, e1, e2, hq, fun target h => st1 _ fun acts => by rw [doInvoke_state]; exact hsteps.trans h⟩
end SHK
