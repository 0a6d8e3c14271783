/-! a throw that a method's only handler catches -/
theorem sx_find {e : Env} {S : State} {g : JFrame} {q : Addr} {meth : Method} {c : Code} {ce : Cell} {x : ExceptionTableEntry} (hm : S.vm.method? g.method = some meth) (hc : meth.code = some c) (htab : c.exceptionTable.toList = [x]) (hx : covers x g.pc = true) (h0 : x.catchType ≠ 0)
    (hl : S.vm.ClassLinks e.platform g.method.cls x.catchType ce.cls) (hcell : S.heap[q]? = some ce) (hvm : ce.vm = .none) (hk : ∃ k, S.vm.classes[ce.cls]? = some k) (Q : Handler → Pre) (E : CtlPost) (d : Bool) (acts : List Action) :
    wp (findHandler g q) Q E e d acts S ↔ Q (.found x.handlerPc) d acts (S.setVm (S.vm.noted g.method.cls x.catchType (.cls ce.cls))) := by
  have hobj : ∀ k, ce.vm ≠ .statics k := fun k h => by rw [hvm] at h; cases h
  simp only [covers] at hx
  obtain ⟨r1, r2⟩ := (resolveClass_links e.toSetting hl).op (op := VmOp.resolveClass g.method.cls x.catchType) rfl
  have al : S.vm.Alike (S.vm.noted g.method.cls x.catchType (.cls ce.cls)) := (Vm.Alike.refl S.vm).noted _ _ _
  obtain ⟨k, hk⟩ := hk
  obtain ⟨k', hk', -⟩ := al.2.2 _ _ hk
  have hself : (S.vm.noted g.method.cls x.catchType (.cls ce.cls)).assignable ce.cls ce.cls = true := va_asg _ _
  rw [W.findHandler_eq hm hc, htab]
  simp [findHandler.go, hx, h0, r1, r2, hcell, hobj, hk', hself, VmOp.dirties, VmOp.acts]
section SXC
variable {p : Program} {l : Launch} {e : Env} {R : Room} {s : State} {m : MethodId} {args : Array Value} {below : List Frame} {meth : Method} {c : Code} {T : State} {locs : List Loc} {cells slots : Nat}
theorem sx_caught (X : Stand p l e R s m args below meth c T locs cells slots) {q : Addr} {g : JFrame} (hg : g.method = m) {ce : Cell} (hcell : T.heap[q]? = some ce) (hvm : ce.vm = .none) (hcls : s.vm.findClass sxE = some ce.cls) {own : String} (hown : s.vm.findClass own = some m.cls) {x : ExceptionTableEntry} (htab : c.exceptionTable.toList = [x]) (hx : covers x g.pc = true) (h0 : x.catchType ≠ 0)
    (hlink : (Cond.classLink own x.catchType sxE).before args s = true) :
    ∃ vm', Stand p l e R s m args below meth c (T.setVm vm') locs cells slots ∧ ∀ target, Steps p.tables e below ((T.setVm vm').setTop { g with pc := x.handlerPc, stack := [.ref q] }) target → Steps p.tables e below ((T.setTop g).pushFrame (.throwing q)) target := by
  subst hg
  have hpl : e.platform.magicAccessors = ({} : Platform).magicAccessors := by rw [X.admits.platform]
  obtain ⟨c', hc', hcl⟩ := Cond.classLink_spec hown hlink e.platform hpl
  cases hcls.symm.trans hc'
  obtain ⟨dk, _, _, kt, hd, _, _, _, _, hkt, _, hopen⟩ := hcl.here
  obtain ⟨kt', hkt', -⟩ := X.warmed.alike.2.2 _ _ hkt
  refine ⟨T.vm.noted g.method.cls x.catchType (.cls ce.cls), X.noted (X.warmed.noted hd hopen (State.rightAt_cls hcl)), fun target hrest => ?_⟩
  have ev : ((T.setTop g).pushFrame (.throwing q)).vm = T.vm := Stand.throwing_vm T g q
  have eh : ((T.setTop g).pushFrame (.throwing q)).heap = T.heap := Stand.throwing_heap T g q
  have fnd := sx_find (e := e) (S := (T.setTop g).pushFrame (.throwing q)) (g := g) (q := q) (meth := meth) (c := c) (ce := ce) (x := x) (by rw [ev]; exact X.method') X.code htab hx h0 (by rw [ev]; exact X.warmed.classLinks hcl) (by rw [eh]; exact hcell) hvm ⟨kt', by rw [ev]; exact hkt'⟩
  rw [ev] at fnd
  have stp : (stepThrowing e ((T.setTop g).pushFrame (.throwing q)) q (.java g :: T.frames.tail)).1 = (((T.setTop g).pushFrame (.throwing q)).setVm (T.vm.noted g.method.cls x.catchType (.cls ce.cls))).setFrames (.java { g with pc := x.handlerPc, stack := [.ref q] } :: T.frames.tail) := by
    simp only [stepThrowing, searchFrame, vmDo]
    generalize hr : Sem.go _ e false [] ((T.setTop g).pushFrame (.throwing q)) = res
    obtain ⟨as, rfl, -⟩ := Sem.eq_ok_of hr (a := Handler.found x.handlerPc) (s' := ((T.setTop g).pushFrame (.throwing q)).setVm (T.vm.noted g.method.cls x.catchType (.cls ce.cls))) (acts' := []) (by simp [fnd])
    rfl
  obtain ⟨hgo, hw⟩ := X.here.throwing q
  refine Steps.head hgo hw ?_
  rw [stepThread_throwing (frames_entered X.here.top _), stp]
  obtain ⟨g₀, hg0⟩ := Option.isSome_iff_exists.mp X.here.top
  obtain ⟨r, hr⟩ := State.topJava?_eq_some.mp hg0
  have hr' : (T.setVm (T.vm.noted g.method.cls x.catchType (.cls ce.cls))).frames = .java g₀ :: r := hr
  rw [State.setTop_of_frames _ hr'] at hrest
  have fin : (((T.setTop g).pushFrame (.throwing q)).setVm (T.vm.noted g.method.cls x.catchType (.cls ce.cls))).setFrames (.java { g with pc := x.handlerPc, stack := [.ref q] } :: T.frames.tail) = (T.setVm (T.vm.noted g.method.cls x.catchType (.cls ce.cls))).setFrames (.java { g with pc := x.handlerPc, stack := [.ref q] } :: r) := by
    have e1 : T.frames.tail = r := by rw [hr]; rfl
    have e2 : ((T.setTop g).pushFrame (.throwing q)).setVm (T.vm.noted g.method.cls x.catchType (.cls ce.cls)) = (T.setVm (T.vm.noted g.method.cls x.catchType (.cls ce.cls))).setFrames (.throwing q :: (T.setTop g).frames) := by
      rw [State.pushFrame, State.setTop_of_frames _ hr]
      have e3 : ∀ F G : List Frame, ((T.setFrames F).setFrames G).setVm (T.vm.noted g.method.cls x.catchType (.cls ce.cls)) = (T.setVm (T.vm.noted g.method.cls x.catchType (.cls ce.cls))).setFrames G := fun F G => by rw [State.setFrames_setFrames]; rfl
      exact e3 _ _
    rw [e1, e2, State.setFrames_setFrames]
  rw [fin]
  exact hrest
end SXC
