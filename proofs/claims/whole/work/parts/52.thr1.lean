/-! a method that throws IndexOutOfBoundsException: what it needs of the tables, and of Throwable's two statics -/
abbrev sxE : String := "java/lang/IndexOutOfBoundsException"
abbrev sxN : List String := ["java/lang/RuntimeException", "java/lang/Exception"]
def sxA : List Cond := Bundle.ownAtoms RX0 77 sxE sxN
def sx_st : Cond → Bool
  | .isRef (.static _ _ _) => true
  | .laysStatic _ _ _ => true
  | _ => false
def sx_ca : Cond → Bool
  | .castable _ _ => true
  | .declares _ => true
  | _ => false
def sx_ok (w : Cond) : Bool := goodWord w || sx_ca w || sx_st w
theorem sx_stat {u U : State} {a a' : Array Value} {C f d : String} (hv : u.vm = U.vm) (hh : ∀ q : Nat, q < u.heap.size → U.heap[q]? = u.heap[q]?) (h : (Cond.isRef (.static C f d)).before a u = true) : (Cond.isRef (.static C f d)).before a' U = true := by
  have hf : U.fieldNamed? C f d true = u.fieldNamed? C f d true := by
    unfold State.fieldNamed? State.fieldFound?
    rw [hv]
  simp only [Cond.before, Cond.holds, Cond.value, Term.eval, hf] at h ⊢
  cases h1 : u.fieldNamed? C f d true with
  | none => rw [h1] at h; simp at h
  | some x =>
    obtain ⟨c, k, slot⟩ := x
    rw [h1] at h
    cases h2 : k.statics with
    | none => simp [h2] at h
    | some b =>
      cases h3 : u.heap[b]? with
      | none => simp [h2, h3] at h
      | some cell =>
        have h4 : U.heap[b]? = some cell := by rw [hh b (Array.getElem?_eq_some_iff.mp h3).1]; exact h3
        simpa [h2, h3, h4] using h
theorem sx_lays {u U : State} {a a' : Array Value} {C f d : String} (hv : u.vm = U.vm) (hh : ∀ q : Nat, q < u.heap.size → U.heap[q]? = u.heap[q]?) (h : (Cond.laysStatic C f d).before a u = true) : (Cond.laysStatic C f d).before a' U = true := by
  obtain ⟨c, k, i, fd, b, cell, h1, h2, h3, h4, h5, h6, h7, h8, h9⟩ := Cond.laysStatic_spec h
  have hf : U.fieldFound? C f d = some (c, k, i, fd) := by
    rw [← h2]
    unfold State.fieldFound?
    rw [hv]
  have hc : U.vm.findClass C = some c := by rw [← hv]; exact h1
  have hb : U.heap[b]? = some cell := by rw [hh b (Array.getElem?_eq_some_iff.mp h5).1]; exact h5
  simp [Cond.before, Cond.holds, Cond.value, hc, hf, h3, h4, hb, h6, h7, h8, h9]
theorem sx_word {s U : State} {a a' : Array Value} {w : Cond} (hw : sx_ok w = true) (hW : s.WarmedH U.vm) (hh : ∀ q : Nat, q < s.heap.size → U.heap[q]? = s.heap[q]?) (h : w.before a s = true) : w.before a' U = true := by
  unfold sx_ok at hw
  rw [Bool.or_eq_true, Bool.or_eq_true] at hw
  rcases hw with (hw | hw) | hw
  · exact word_at hW (good_of_word hw) h
  · cases w <;> first
      | exact absurd hw (by decide)
      | exact va_Nw.use rfl (va_Nw.warmC hW (va_Nw.of rfl h))
      | exact va_Nw.use rfl (va_Nw.warmD hW (va_Nw.of rfl h))
      | exact absurd hw Bool.false_ne_true
  · cases w with
    | isRef t =>
      cases t with
      | static C f d => exact sx_stat (u := s.setVm U.vm) rfl hh (Cond.before_warmed hW _ rfl h)
      | _ => exact absurd hw Bool.false_ne_true
    | laysStatic C f d => exact sx_lays (u := s.setVm U.vm) rfl hh (Cond.before_warmed hW _ rfl h)
    | _ => exact absurd hw Bool.false_ne_true
theorem sxA_ok : ∀ w ∈ sxA, sx_ok w = true := List.all_eq_true.mp (by decide +kernel)
def sx_Z (U : State) : Prop := (∀ w ∈ sxA, w.before #[] U = true) ∧ (∃ q : Nat, vk_R RX0 75 "no such number" q U) ∧ ∃ q : Nat, vk_R RX0 99 "no such what" q U
theorem sx_Z.moved {s U : State} (hW : s.WarmedH U.vm) (hh : ∀ q : Nat, q < s.heap.size → U.heap[q]? = s.heap[q]?) (h : sx_Z s) : sx_Z U := by
  obtain ⟨h1, ⟨q2, h2⟩, q3, h3⟩ := h
  exact ⟨fun w hw => sx_word (sxA_ok w hw) hW hh (h1 w hw), ⟨q2, vk_R.warm hW h2⟩, q3, vk_R.warm hW h3⟩
theorem sx_Z.use {s : State} {a : Array Value} (h : sx_Z s) : ∀ w ∈ sxA, w.before a s = true := fun w hw => sx_word (sxA_ok w hw) (State.WarmedH.refl s) (fun _ _ => rfl) (h.1 w hw)
