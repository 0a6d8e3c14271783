/-! a callee whose cells stand side by side in the world -/
theorem sp_mid {a wc r : va_W} {k n : Nat} (ha : a.length = k) (hn : wc.length = n) : (List.range' k n).map (fun i => (a ++ (wc ++ r))[i]?) = wc.map some := by
  subst ha
  subst hn
  apply List.ext_getElem?
  intro j
  rw [List.getElem?_map, List.getElem?_map]
  by_cases hj : j < wc.length
  · rw [List.getElem?_range' hj, List.getElem?_eq_getElem hj]
    simp only [Option.map_some, Nat.one_mul]
    rw [List.getElem?_append_right (by omega), Nat.add_sub_cancel_left, List.getElem?_append_left hj, List.getElem?_eq_getElem hj]
  · rw [List.getElem?_eq_none (by rw [List.length_range']; omega), List.getElem?_eq_none (by omega)]
    rfl
theorem sp_upd_mid : ∀ (w1 a wc r : va_W) (k n : Nat), a.length = k → wc.length = n → w1.length = n → sp_upd (a ++ (wc ++ r)) (List.range' k n) w1 = a ++ (w1 ++ r)
  | [], a, [], r, k, n, _, hn, _ => by
    subst hn
    rfl
  | [], a, q :: wc, r, k, n, _, h1, h2 => by
    subst h1
    simp at h2
  | q1 :: w1, a, [], r, k, n, _, h1, h2 => by
    subst h1
    simp at h2
  | q1 :: w1, a, q :: wc, r, k, n, hk, h1, h2 => by
    subst hk
    subst h1
    have e : List.range' a.length (q :: wc).length = a.length :: List.range' (a.length + 1) wc.length := by
      rw [List.length_cons, List.range'_succ]
    rw [e]
    show sp_upd ((a ++ (q :: wc ++ r)).set a.length q1) (List.range' (a.length + 1) wc.length) w1 = _
    have e2 : (a ++ (q :: wc ++ r)).set a.length q1 = (a ++ [q1]) ++ (wc ++ r) := by
      rw [List.set_append_right _ _ (Nat.le_refl _), Nat.sub_self, List.append_assoc]
      rfl
    rw [e2, sp_upd_mid w1 (a ++ [q1]) wc r (a.length + 1) wc.length (by simp) rfl (by simpa using h2), List.append_assoc]
    rfl
abbrev Nx : Type := Nm × Nm × Nm × Nm × Nm
abbrev dk_W (q : Nat → Nat) (cA : ClassId) (ad : Nat → Nat) (sg : Nat → Nm) (x : Nx) : va_W := [(q 0, .inr (0, [.ref (q 1), .ref (q 2), .ref (q 6)])), (q 1, .inl (cA, 16, .inr (.inr (.inr (.inr (fun k => some (ad k))))))), (q 2, .inr (2, [.ref (q 3), .ref (q 4), .ref (q 5)])), (q 3, .inr (1, nm_fs x.1)), (q 4, .inr (1, nm_fs x.2.1)), (q 5, .inr (1, nm_fs x.2.2.1)), (q 6, .inr (3, [.ref (q 7), .ref (q 8)])), (q 7, .inr (1, nm_fs x.2.2.2.1)), (q 8, .inr (1, nm_fs x.2.2.2.2))] ++ np_pool 1 ad sg
abbrev md_W (r : Nat → Nat) (cj : Nat → ClassId) (th : Int32) (st : Md) : va_W := [(r 0, .inr (4, [.int th, .ref (r 1), .ref (r 2), .ref (r 3), .ref (r 4), .ref (r 5), .ref (r 6)])), (r 1, .inl (cj 1, 19, .inr (.inl st.1))), (r 2, .inl (cj 2, 19, .inr (.inl st.2.1))), (r 3, .inl (cj 3, 19, .inr (.inl st.2.2.1))), (r 4, .inl (cj 4, 19, .inr (.inl st.2.2.2.1))), (r 5, .inl (cj 5, 19, .inr (.inl st.2.2.2.2.1))), (r 6, .inl (cj 6, 19, .inr (.inl st.2.2.2.2.2)))]
abbrev ou_W (o : Nat) (cO : ClassId) (f : Nat → Int64) : va_W := [(o, .inl (cO, 1, .inr (.inl f)))]
theorem dk_len {q : Nat → Nat} {cA : ClassId} {ad : Nat → Nat} {sg : Nat → Nm} {x : Nx} : (dk_W q cA ad sg x).length = 25 := by
  rw [List.length_append, np_len]
  rfl
theorem sp_end {a wc : va_W} {k n : Nat} (ha : a.length = k) (hn : wc.length = n) : (List.range' k n).map (fun i => (a ++ wc)[i]?) = wc.map some := by
  have h := sp_mid (a := a) (wc := wc) (r := []) ha hn
  rw [List.append_nil] at h
  exact h
theorem sp_upd_end (w1 a wc : va_W) (k n : Nat) (ha : a.length = k) (hn : wc.length = n) (h1 : w1.length = n) : sp_upd (a ++ wc) (List.range' k n) w1 = a ++ w1 := by
  have h := sp_upd_mid w1 a wc [] k n ha hn h1
  rw [List.append_nil, List.append_nil] at h
  exact h
theorem sp_first {wc r : va_W} {n : Nat} (hn : wc.length = n) : (List.range' 0 n).map (fun i => (wc ++ r)[i]?) = wc.map some := sp_mid (a := []) rfl hn
theorem sp_upd_first (w1 wc r : va_W) (n : Nat) (hn : wc.length = n) (h1 : w1.length = n) : sp_upd (wc ++ r) (List.range' 0 n) w1 = w1 ++ r := sp_upd_mid w1 [] wc r 0 n rfl hn h1
theorem sx_P0 {D : va_G} {H : Heap} : va_P D vwCl [] H := fun k q h => by simp at h
theorem sx_D0 {A : Nat → Prop} : va_D A [] := ⟨fun i j x y h _ _ => by simp at h, fun k q h => by simp at h⟩
theorem sx_PH {D : va_G} {ws : va_W} {H0 H : Heap} {locs : List Loc} (hP : va_P D vwCl ws H0) (hS : va_S (fun q => H0.size ≤ q) H0 H locs) : va_P D vwCl ws H := fun k q hq => (hP k q hq).kept (hS.2.1 q.1 (hP k q hq).lt (fun h => absurd (hP k q hq).lt (Nat.not_lt.mpr h)))
