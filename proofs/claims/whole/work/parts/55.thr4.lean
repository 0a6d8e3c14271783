/-! the call of a method that throws, in a method whose only handler catches it -/
theorem sx_kept {S t : State} {n k : Nat} (h : S.sameButNew t [] n k) {q : Nat} (hq : q < S.heap.size) : t.heap[q]? = S.heap[q]? := by
  obtain ⟨-, -, -, -, -, h6⟩ := h
  have h1 : S.heap[q]? = some (S.heap[q]) := Array.getElem?_eq_getElem hq
  obtain ⟨c', h2, h3, h4, h5⟩ := h6 q _ h1
  have h7 : c'.slots = (S.heap[q]).slots := Array.ext_getElem? fun i => h5 i List.not_mem_nil
  rw [h2, h1]
  congr 1
  rw [h3, h7]
section SXK
variable {p : Program} {l : Launch} {e : Env} {R : Room} {s : State} {m : MethodId} {args : Array Value} {below : List Frame} {meth : Method} {c : Code} {H : Heap} {locs : List Loc} {cells slots : Nat} {Q : State → Prop}
variable {cc : ByteArray} {nL : Nat} {own : String} {Ts : List Cond} {D : va_G} {A : Nat → Prop} {ws wc w1 : va_W} {tys tys1 : List (ClassId × FieldType)} {pc : Nat} {ls : Array Slot} {H0 : Heap} {rest st0 : List Value} {a : Array Value}
variable {y : MethodName} {bytes : ByteArray} {maxL mc ms n index : Nat} {ret ret0 : Option FieldType} {wsc : List Cond} {rm : Room} {Cn host : String} {b : Addr} {As : List Value} {tysc : List (ClassId × FieldType)} {Qs : Nat → Array Value → State → Outcome → State → Prop}
theorem sx_preS {av : List Value} (C : sp_C p s m meth c args cc nL own ret0 Ts) (hZ : sx_Z s) (hH : ∀ q : Nat, q < s.heap.size → H[q]? = s.heap[q]?) (hK : va_K D vwCl tys s) (hP : va_P D vwCl ws H) (hD : va_D A ws) (is : List Nat) (hnd : va_nd is = true) (hC : is.map (fun i => ws[i]?) = wc.map some) (iT : List Nat) (hT : iT.filterMap (fun i => tys[i]?) = tysc) : PreS s H (sx_P D av wc tysc H.size) av :=
  ⟨sx_blind _ _ _ _ _, fun U hU hW => ⟨rfl, by rw [hU], by rw [hU]; exact hP.sub is (sp_fm hC), va_K.moved hW.alike (hK.sub iT hT), (hD.sub is hnd hC).weaken (fun _ _ _ _ => trivial), sp_N.warm hW C.2.2.2.2.2.2.2, hZ.moved hW (fun q hq => by rw [hU]; exact hH q hq)⟩⟩
theorem sx_call (C : sp_C p s m meth c args cc nL own ret0 Ts) {x : ExceptionTableEntry} (htab : c.exceptionTable.toList = [x]) (hx : covers x pc = true) (h0 : x.catchType ≠ 0) (hlink : (Cond.classLink own x.catchType sxE).before args s = true)
    (hM : ∀ sz : Nat, sx_Met l y wsc rm (sx_P D (.ref b :: As) wc tysc sz)) (cw : CallW R s args own Cn index y bytes maxL ret wsc rm 1 6 n) (hZ : sx_Z s) (hH : ∀ q : Nat, q < s.heap.size → H[q]? = s.heap[q]?) (hK : va_K D vwCl tys s) (hP : va_P D vwCl ws H) (hD : va_D A ws) (is : List Nat) (hnd : va_nd is = true) (hC : is.map (fun i => ws[i]?) = wc.map some) (iT : List Nat) (hT : iT.filterMap (fun i => tys[i]?) = tysc)
    (q0 ci : Nat) {fs : List Value} {q : vw_C} (hc : vwCl[ci]? = some q) (hq : q.1 = Cn) (he : wc[q0]? = some (b, .inr (ci, fs))) (hn : As.length = n) (hsize : ls.size = nL) (hstack : st0 = As.reverse ++ .ref b :: rest) (hW : (rest.map fun v => v.category).sum ≤ 8) (hdg : decode cc pc = .ok (.invokevirtual index, 3)) (hf : cells + 1 ≤ R.cells ∧ slots + 6 ≤ R.slots) (hS : va_S A H0 H locs)
    (kk : ∀ (H1 : Heap) (z : Nat), va_P D vwCl ws H1 → va_S A H0 H1 locs → W p l e R s m args below meth c H1 locs (cells + 1) (slots + 6) Q (F0 m x.handlerPc ls [.ref z])) : W p l e R s m args below meth c H locs cells slots Q (F0 m pc ls st0) := by
  intro T hT9 X
  have hpre : PreS s H (sx_P D (.ref b :: As) wc tysc H.size) (.ref b :: As) := sx_preS C hZ hH hK hP hD is hnd hC iT hT
  obtain ⟨⟨hrc, hrs, hfr, hlo, hws, hcw, hcode, hini, hy, hlen, hl⟩, hin, hse⟩ := cw
  obtain ⟨cellB, hcB, hoB, hclB⟩ := va_recv hK (hP.sub is (sp_fm hC)) hc he
  rw [hq] at hclB
  obtain ⟨mk, methM, hnamed, hmethM, hstM, habM⟩ := Cond.instanceMethod_spec hin
  obtain ⟨methM', cM, hmethM', hcM, -, hlM, -, -, -, hsigM⟩ := Cond.code_spec hnamed hcode
  cases hmethM.symm.trans hmethM'
  obtain ⟨c2, r2, m2, q1, q2, q3, q4, kP, hkP, hkPi⟩ := Cond.selects_spec hse
  cases hclB.symm.trans q1
  cases (State.methodFound?_of_named hnamed hy).symm.trans q2
  cases hnamed.symm.trans q3
  have hselP : selectMethod e.platform s.vm cellB.cls mk = .method mk := by rw [Launch.admits_selectMethod X.admits]; exact q4
  obtain ⟨vm₁, X₁, st1⟩ := X.invokevirtual C.1 C.2.2.2.2.1 hl hnamed hmethM hstM hkP hkPi hy (a := b) (cell := cellB) (by rw [hT9]; exact hcB) (fun z h => by rw [h] at hoB; cases hoB) hselP hmethM habM hkP hkPi (g := F0 m pc ls st0) rfl (argsL := As) (rest := rest) (hn.trans (hlen _ hsigM)) hstack (by rw [C.2.1]; exact hdg)
  have hW1 := X₁.warmed
  have hn1 : (T.setVm vm₁).methodNamed? y = some mk := X₁.named hnamed
  obtain ⟨kY, hkY, -⟩ := className_of_methodNamed hn1
  have hinitY : kY.init = .initialized := Cond.initialized_spec (args := args) (first := T.setVm vm₁) (o := none) (idx := []) (findClass_of_methodNamed hn1) hkY (word_at (a' := args) hW1 (Or.inl (by first | rfl | simp [Cond.onTables, Cond.keeps, Cond.steady])) hini)
  obtain ⟨methY, cY, hmY, hcY, -, hlY, -, -, -, -⟩ := Cond.code_spec hn1 (hws _ hcw args (T.setVm vm₁) hW1)
  have h99 : 2 * (F0 m pc ls rest).monitorRoom + ((F0 m pc ls rest).stack.map fun v => v.category).sum ≤ 8 := lv_room hW
  have happ : (headSpec wsc rm).appliesLoose y e.platform ((T.setVm vm₁).calling (F0 m pc ls rest) mk (Value.ref b :: As).toArray) = true :=
    Spec.appliesLoose_calling (g := F0 m pc ls rest) X₁.here (by rw [C.2.1]; exact hdg) hn1 hkY hinitY
      (X₁.room_calling (g := F0 m pc ls rest) (R' := rm) (hsize.trans C.2.2.2.1.symm) hmY hcY hfr (by rw [hlY]; omega) (by rw [hrc]; exact hf.1) (by rw [hrs]; exact hf.2)) (atoms_intro fun w hw => hws w hw _ _ hW1)
  obtain ⟨mid, hmid⟩ := X₁.here.above
  have hfr9 : ((T.setVm vm₁).setTop (F0 m pc ls rest)).frames = (.java (F0 m pc ls rest) :: mid) ++ below := by rw [State.frames_setTop' _ X₁.here.top, hmid]; rfl
  obtain ⟨o, s₂, hsteps, -, hend, hqq⟩ := Steps.callFree (hM H.size) p X.admits X.cas X.clock (acts := []) hfr9 happ (hpre.1 _ _ (F0 m pc ls rest) mk (hpre.2 (T.setVm vm₁) hT9 hW1)) trivial
  rw [State.frames_setTop' _ X₁.here.top, X₁.tail] at hend
  obtain ⟨z, ce, rfl, hW2, hsame, hce, hcv, hcl⟩ := hqq
  obtain ⟨T', X', hW3, hs3, ht⟩ := X₁.outOfThrown (g := F0 m pc ls rest) rfl hend hW2 hsame
  have hce' : T'.heap[z]? = some ce := by rw [ht, Stand.throwing_heap] at hce; exact hce
  have hcl' : s.vm.findClass sxE = some ce.cls := by
    have : vm₁.findClass sxE = s.vm.findClass sxE := hW1.alike.findClass ..
    rw [← this]; exact hcl
  rw [List.append_nil] at X'
  obtain ⟨vm₂, X₂, st2⟩ := sx_caught X' (g := F0 m pc ls rest) rfl hce' hcv hcl' C.2.2.2.2.1 htab hx h0 hlink
  have hkeep : ∀ q9 : Nat, q9 < H.size → T'.heap[q9]? = H[q9]? := fun q9 h9 => by
    have := sx_kept hs3 (q := q9) (by show q9 < T.heap.size; rw [hT9]; exact h9)
    rw [← hT9]; exact this
  have hsz : H.size ≤ T'.heap.size := by rw [← hT9]; exact hs3.2.1
  obtain ⟨t, a1, b1⟩ := kk T'.heap z (fun k q9 h9 => (hP k q9 h9).kept (hkeep q9.1 (hP k q9 h9).lt)) ⟨Nat.le_trans hS.1 hsz, fun q9 h1 h2 => (hkeep q9 (Nat.lt_of_lt_of_le h1 hS.1)).trans (hS.2.1 q9 h1 h2), hS.2.2⟩ (T'.setVm vm₂) rfl X₂
  refine ⟨t, st1 _ (fun acts => ?_), b1⟩
  rw [doInvoke_state]
  rw [ht] at hsteps
  exact hsteps.trans (st2 t a1)
end SXK
