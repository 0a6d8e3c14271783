theorem wm_542 : (.methodLink RL 7 yX0_look : Cond) ∈ wsG := wG_of 508 (by decide +kernel) (by decide +kernel)
theorem wm_543 : (.instanceMethod yX0_look : Cond) ∈ wsG := wG_of 509 (by decide +kernel) (by decide +kernel)
theorem wm_544 : (.selects RX0 yX0_look yX0_look : Cond) ∈ wsG := wG_of 510 (by decide +kernel) (by decide +kernel)
theorem wm_545 : (.code yX0_look cX0_look 4 (some .long) : Cond) ∈ wsG := wG_of 511 (by decide +kernel) (by decide +kernel)
theorem wm_546 : (.classLink RL 13 "java/lang/IndexOutOfBoundsException" : Cond) ∈ wsG := wG_of 507 (by decide +kernel) (by decide +kernel)
theorem wm_547 : (.methodLink RL 15 yX0_has : Cond) ∈ wsG := wG_of 582 (by decide +kernel) (by decide +kernel)
theorem wm_548 : (.instanceMethod yX0_has : Cond) ∈ wsG := wG_of 583 (by decide +kernel) (by decide +kernel)
theorem wm_549 : (.selects RX0 yX0_has yX0_has : Cond) ∈ wsG := wG_of 584 (by decide +kernel) (by decide +kernel)
theorem wm_550 : (.code yX0_has cX0_has 4 (some .boolean) : Cond) ∈ wsG := wG_of 585 (by decide +kernel) (by decide +kernel)
theorem wm_551 : (.methodLink RL 19 yX0_covers : Cond) ∈ wsG := wG_of 593 (by decide +kernel) (by decide +kernel)
theorem wm_552 : (.instanceMethod yX0_covers : Cond) ∈ wsG := wG_of 594 (by decide +kernel) (by decide +kernel)
theorem wm_553 : (.selects RX0 yX0_covers yX0_covers : Cond) ∈ wsG := wG_of 595 (by decide +kernel) (by decide +kernel)
theorem wm_554 : (.code yX0_covers cX0_covers 3 (some .boolean) : Cond) ∈ wsG := wG_of 596 (by decide +kernel) (by decide +kernel)
theorem dL_look_0 : decode cL_look 0 = .ok (.aload_n 3, 1) := by decide +kernel
theorem dL_look_1 : decode cL_look 1 = .ok (.iconst 0, 1) := by decide +kernel
theorem dL_look_2 : decode cL_look 2 = .ok (.aload_n 0, 1) := by decide +kernel
theorem dL_look_3 : decode cL_look 3 = .ok (.iload_n 1, 1) := by decide +kernel
theorem dL_look_4 : decode cL_look 4 = .ok (.iload_n 2, 1) := by decide +kernel
theorem dL_look_5 : decode cL_look 5 = .ok (.invokevirtual 7, 3) := by decide +kernel
theorem dL_look_8 : decode cL_look 8 = .ok (.lastore, 1) := by decide +kernel
theorem dL_look_9 : decode cL_look 9 = .ok (.goto 7, 3) := by decide +kernel
theorem dL_look_12 : decode cL_look 12 = .ok (.astore 4, 2) := by decide +kernel
theorem dL_look_14 : decode cL_look 14 = .ok (.iconst 1, 1) := by decide +kernel
theorem dL_look_15 : decode cL_look 15 = .ok (.ireturn, 1) := by decide +kernel
theorem dL_look_16 : decode cL_look 16 = .ok (.iconst 0, 1) := by decide +kernel
theorem dL_look_17 : decode cL_look 17 = .ok (.ireturn, 1) := by decide +kernel
theorem dL_has_0 : decode cL_has 0 = .ok (.aload 4, 2) := by decide +kernel
theorem dL_has_2 : decode cL_has 2 = .ok (.iconst 0, 1) := by decide +kernel
theorem dL_has_3 : decode cL_has 3 = .ok (.aload_n 0, 1) := by decide +kernel
theorem dL_has_4 : decode cL_has 4 = .ok (.iload_n 1, 1) := by decide +kernel
theorem dL_has_5 : decode cL_has 5 = .ok (.lload_n 2, 1) := by decide +kernel
theorem dL_has_6 : decode cL_has 6 = .ok (.invokevirtual 15, 3) := by decide +kernel
theorem dL_has_9 : decode cL_has 9 = .ok (.ifCond .eq 7, 3) := by decide +kernel
theorem dL_has_12 : decode cL_has 12 = .ok (.lconst 1, 1) := by decide +kernel
theorem dL_has_13 : decode cL_has 13 = .ok (.goto 4, 3) := by decide +kernel
theorem dL_has_16 : decode cL_has 16 = .ok (.lconst 0, 1) := by decide +kernel
theorem dL_has_17 : decode cL_has 17 = .ok (.lastore, 1) := by decide +kernel
theorem dL_has_18 : decode cL_has 18 = .ok (.goto 7, 3) := by decide +kernel
theorem dL_has_21 : decode cL_has 21 = .ok (.astore 5, 2) := by decide +kernel
theorem dL_has_23 : decode cL_has 23 = .ok (.iconst 1, 1) := by decide +kernel
theorem dL_has_24 : decode cL_has 24 = .ok (.ireturn, 1) := by decide +kernel
theorem dL_has_25 : decode cL_has 25 = .ok (.iconst 0, 1) := by decide +kernel
theorem dL_has_26 : decode cL_has 26 = .ok (.ireturn, 1) := by decide +kernel
theorem dL_covers_0 : decode cL_covers 0 = .ok (.aload_n 3, 1) := by decide +kernel
theorem dL_covers_1 : decode cL_covers 1 = .ok (.iconst 0, 1) := by decide +kernel
theorem dL_covers_2 : decode cL_covers 2 = .ok (.aload_n 0, 1) := by decide +kernel
theorem dL_covers_3 : decode cL_covers 3 = .ok (.iload_n 1, 1) := by decide +kernel
theorem dL_covers_4 : decode cL_covers 4 = .ok (.iload_n 2, 1) := by decide +kernel
theorem dL_covers_5 : decode cL_covers 5 = .ok (.invokevirtual 19, 3) := by decide +kernel
theorem dL_covers_8 : decode cL_covers 8 = .ok (.ifCond .eq 7, 3) := by decide +kernel
theorem dL_covers_11 : decode cL_covers 11 = .ok (.lconst 1, 1) := by decide +kernel
theorem dL_covers_12 : decode cL_covers 12 = .ok (.goto 4, 3) := by decide +kernel
theorem dL_covers_15 : decode cL_covers 15 = .ok (.lconst 0, 1) := by decide +kernel
theorem dL_covers_16 : decode cL_covers 16 = .ok (.lastore, 1) := by decide +kernel
theorem dL_covers_17 : decode cL_covers 17 = .ok (.goto 7, 3) := by decide +kernel
theorem dL_covers_20 : decode cL_covers 20 = .ok (.astore 4, 2) := by decide +kernel
theorem dL_covers_22 : decode cL_covers 22 = .ok (.iconst 1, 1) := by decide +kernel
theorem dL_covers_23 : decode cL_covers 23 = .ok (.ireturn, 1) := by decide +kernel
theorem dL_covers_24 : decode cL_covers 24 = .ok (.iconst 0, 1) := by decide +kernel
theorem dL_covers_25 : decode cL_covers 25 = .ok (.ireturn, 1) := by decide +kernel
theorem dk_fst {q : Nat → Nat} {cA cB : ClassId} {ad : Nat → Nat} {sg sg' : Nat → Nm} {x x' : Nx} : (dk_W q cA ad sg x).map (·.1) = (dk_W q cB ad sg' x').map (·.1) := by
  rw [List.map_append, List.map_append]
  unfold np_pool
  rw [List.map_map, List.map_map]
  rfl
theorem ou_at {q : Nat → Nat} {cA : ClassId} {ad : Nat → Nat} {sg : Nat → Nm} {x : Nx} {o : Nat} {cO : ClassId} {f : Nat → Int64} : (dk_W q cA ad sg x ++ ou_W o cO f)[25]? = some (o, .inl (cO, 1, .inr (.inl f))) := by
  rw [List.getElem?_append_right (Nat.le_of_eq dk_len), dk_len]
  rfl
theorem ou_set {q : Nat → Nat} {cA : ClassId} {ad : Nat → Nat} {sg : Nat → Nm} {x : Nx} {o : Nat} {cO : ClassId} {f f' : Nat → Int64} : (dk_W q cA ad sg x ++ ou_W o cO f).set 25 (o, .inl (cO, 1, .inr (.inl f'))) = dk_W q cA ad sg x ++ ou_W o cO f' := by
  rw [List.set_append_right _ _ (Nat.le_of_eq dk_len), dk_len]
  rfl
theorem do_len {q : Nat → Nat} {cA : ClassId} {ad : Nat → Nat} {sg : Nat → Nm} {x : Nx} {o : Nat} {cO : ClassId} {f : Nat → Int64} : (dk_W q cA ad sg x ++ ou_W o cO f).length = 26 := by
  rw [List.length_append, dk_len]
  rfl
section SHC
variable {p : Program} {l : Launch} {e : Env} {R : Room} {s : State} {m : MethodId} {args : Array Value} {below : List Frame} {meth : Method} {c : Code} {H : Heap} {locs : List Loc} {cells slots : Nat} {Q : State → Prop}
variable {D : va_G} {A : Nat → Prop} {ws wc w1 : va_W} {tys1 : List (ClassId × FieldType)} {pc mc ms : Nat} {ls : Array Slot} {H0 : Heap} {rest st0 : List Value} {a : Array Value}
theorem sh_calli {r : Int32} (run : va_Run p l e R s m args below meth c H locs cells slots mc ms (F0 m pc ls st0) rest (sp_Qi D wc w1 tys1 r H.size a) (va_A wc H.size)) (hP : va_P D vwCl ws H) (hD : va_D A ws) (hS : va_S A H0 H locs) (hA : ∀ q, H0.size ≤ q → A q) (is : List Nat) (hC : is.map (fun i => ws[i]?) = wc.map some) (ha : w1.map (·.1) = wc.map (·.1))
    (kk : ∀ (H1 : Heap) (locs1 : List Loc), va_P D vwCl (sp_upd ws is w1) H1 → va_D A (sp_upd ws is w1) → va_S A H0 H1 locs1 → W p l e R s m args below meth c H1 locs1 (cells + mc) (slots + ms) Q (F0 m (pc + 3) ls (.int r :: rest))) : W p l e R s m args below meth c H locs cells slots Q (F0 m pc ls st0) := by
  have hF := va_free (wc := wc) hD hS hA is hC
  refine va_calli run hS (fun q _ h => hF q h) hF (fun x u t H1 locs1 ht hvm hw hB hz1 hk1 hS => ?_)
  obtain ⟨hP1, -, -⟩ := hB
  rw [ht] at hP1
  obtain ⟨hP2, hD2⟩ := sp_join hP hD is hC ha hk1 hP1
  have hw : x = r := hw
  subst hw
  exact kk H1 locs1 hP2 hD2 hS
end SHC

theorem k_X0_look (l : Launch) (D : va_G) (q : Nat → Nat) (cA : ClassId) (ad : Nat → Nat) (sg : Nat → Nm) (x : Nx) (p1 : Int32) (p2 : Int32) (hw : p2 = 0 ∨ p2 = 1 ∨ p2 = 2 ∨ p2 = 3 ∨ p2 = 4 ∨ p2 = 5) (hn1 : ¬ f_X0_isNumber p1 = 0) : sp_M l yX0_look wsX0_look ({ frames := 1, cells := 0, slots := 0, locals := 20 }) D [.ref (q 0), .int p1, .int p2] (dk_W q cA ad sg x) [(cA, .object RX1)] (sp_Ql D (dk_W q cA ad sg x) (dk_W q cA ad sg x) [(cA, .object RX1)] ((f_X0_look sg x.1 x.2.1 x.2.2.1 x.2.2.2.1 x.2.2.2.2 p1 p2))) := c_X0_look l D (q 0) (q 1) (q 2) (q 3) (q 4) (q 5) (q 6) (q 7) (q 8) cA ad sg x.1 x.2.1 x.2.2.1 x.2.2.2.1 x.2.2.2.2 p1 p2 hw hn1
theorem k_X0_has (l : Launch) (D : va_G) (q : Nat → Nat) (cA : ClassId) (ad : Nat → Nat) (sg : Nat → Nm) (x : Nx) (p1 : Int32) (p2 : Int64) (hn1 : ¬ f_X0_isNumber p1 = 0) : sp_M l yX0_has wsX0_has ({ frames := 2, cells := 0, slots := 0, locals := 45 }) D [.ref (q 0), .int p1, .long p2] (dk_W q cA ad sg x) [(cA, .object RX1)] (sp_Qz D (dk_W q cA ad sg x) (dk_W q cA ad sg x) [(cA, .object RX1)] ((f_X0_has sg x.1 x.2.1 x.2.2.1 x.2.2.2.1 x.2.2.2.2 p1 p2))) := c_X0_has l D (q 0) (q 1) (q 2) (q 3) (q 4) (q 5) (q 6) (q 7) (q 8) cA ad sg x.1 x.2.1 x.2.2.1 x.2.2.2.1 x.2.2.2.2 p1 p2 hn1
theorem k_X0_covers (l : Launch) (D : va_G) (q : Nat → Nat) (cA : ClassId) (ad : Nat → Nat) (sg : Nat → Nm) (x : Nx) (p1 : Int32) (p2 : Int32) (hn1 : ¬ f_X0_isNumber p1 = 0) (hn2 : ¬ f_X0_isNumber p2 = 0) : sp_M l yX0_covers wsX0_covers ({ frames := 2, cells := 0, slots := 0, locals := 44 }) D [.ref (q 0), .int p1, .int p2] (dk_W q cA ad sg x) [(cA, .object RX1)] (sp_Qz D (dk_W q cA ad sg x) (dk_W q cA ad sg x) [(cA, .object RX1)] ((f_X0_covers sg x.1 x.2.1 x.2.2.1 x.2.2.2.1 x.2.2.2.2 p1 p2))) := c_X0_covers l D (q 0) (q 1) (q 2) (q 3) (q 4) (q 5) (q 6) (q 7) (q 8) cA ad sg x.1 x.2.1 x.2.2.1 x.2.2.2.1 x.2.2.2.2 p1 p2 hn1 hn2
theorem k_X0_exact (l : Launch) (D : va_G) (q : Nat → Nat) (cA : ClassId) (ad : Nat → Nat) (sg : Nat → Nm) (x : Nx) (p1 : Int32) (p2 : Int64) : sp_M l yX0_exact wsX0_exact ({ frames := 2, cells := 0, slots := 0, locals := 46 }) D [.ref (q 0), .int p1, .long p2] (dk_W q cA ad sg x) [(cA, .object RX1)] (sp_Qz D (dk_W q cA ad sg x) (dk_W q cA ad (f_X0_exact sg x.1 x.2.1 x.2.2.1 x.2.2.2.1 x.2.2.2.2 p1 p2).1 x) [(cA, .object RX1)] ((f_X0_exact sg x.1 x.2.1 x.2.2.1 x.2.2.2.1 x.2.2.2.2 p1 p2).2)) := c_X0_exact l D (q 0) (q 1) (q 2) (q 3) (q 4) (q 5) (q 6) (q 7) (q 8) cA ad sg x.1 x.2.1 x.2.2.1 x.2.2.2.1 x.2.2.2.2 p1 p2
theorem k_X0_any (l : Launch) (D : va_G) (q : Nat → Nat) (cA : ClassId) (ad : Nat → Nat) (sg : Nat → Nm) (x : Nx) (p1 : Int32) : sp_M l yX0_any wsX0_any ({ frames := 2, cells := 0, slots := 0, locals := 44 }) D [.ref (q 0), .int p1] (dk_W q cA ad sg x) [(cA, .object RX1)] (sp_Qz D (dk_W q cA ad sg x) (dk_W q cA ad (f_X0_any sg x.1 x.2.1 x.2.2.1 x.2.2.2.1 x.2.2.2.2 p1).1 x) [(cA, .object RX1)] ((f_X0_any sg x.1 x.2.1 x.2.2.1 x.2.2.2.1 x.2.2.2.2 p1).2)) := c_X0_any l D (q 0) (q 1) (q 2) (q 3) (q 4) (q 5) (q 6) (q 7) (q 8) cA ad sg x.1 x.2.1 x.2.2.1 x.2.2.2.1 x.2.2.2.2 p1
theorem k_X0_bits (l : Launch) (D : va_G) (q : Nat → Nat) (cA : ClassId) (ad : Nat → Nat) (sg : Nat → Nm) (x : Nx) (p1 : Int32) (p2 : Int64) (p3 : Int64) : sp_M l yX0_bits wsX0_bits ({ frames := 4, cells := 0, slots := 0, locals := 88 }) D [.ref (q 0), .int p1, .long p2, .long p3] (dk_W q cA ad sg x) [(cA, .object RX1)] (sp_Qz D (dk_W q cA ad sg x) (dk_W q cA ad (f_X0_bits sg x.1 x.2.1 x.2.2.1 x.2.2.2.1 x.2.2.2.2 p1 p2 p3).1 x) [(cA, .object RX1)] ((f_X0_bits sg x.1 x.2.1 x.2.2.1 x.2.2.2.1 x.2.2.2.2 p1 p2 p3).2)) := c_X0_bits l D (q 0) (q 1) (q 2) (q 3) (q 4) (q 5) (q 6) (q 7) (q 8) cA ad sg x.1 x.2.1 x.2.2.1 x.2.2.2.1 x.2.2.2.2 p1 p2 p3
theorem k_X0_bounds (l : Launch) (D : va_G) (q : Nat → Nat) (cA : ClassId) (ad : Nat → Nat) (sg : Nat → Nm) (x : Nx) (p1 : Int32) (p2 : Int64) (p3 : Int64) (p4 : Int32) : sp_M l yX0_bounds wsX0_bounds ({ frames := 4, cells := 0, slots := 0, locals := 88 }) D [.ref (q 0), .int p1, .long p2, .long p3, .int p4] (dk_W q cA ad sg x) [(cA, .object RX1)] (sp_Qz D (dk_W q cA ad sg x) (dk_W q cA ad (f_X0_bounds sg x.1 x.2.1 x.2.2.1 x.2.2.2.1 x.2.2.2.2 p1 p2 p3 p4).1 x) [(cA, .object RX1)] ((f_X0_bounds sg x.1 x.2.1 x.2.2.1 x.2.2.2.1 x.2.2.2.2 p1 p2 p3 p4).2)) := c_X0_bounds l D (q 0) (q 1) (q 2) (q 3) (q 4) (q 5) (q 6) (q 7) (q 8) cA ad sg x.1 x.2.1 x.2.2.1 x.2.2.2.1 x.2.2.2.2 p1 p2 p3 p4
theorem k_X0_operate (l : Launch) (D : va_G) (q : Nat → Nat) (cA : ClassId) (ad : Nat → Nat) (sg : Nat → Nm) (x : Nx) (p1 : Int32) (p2 : Int32) (p3 : Int32) (p4 : Int32) (p5 : Int32) : sp_M l yX0_operate wsX0_operate ({ frames := 6, cells := 0, slots := 0, locals := 134 }) D [.ref (q 0), .int p1, .int p2, .int p3, .int p4, .int p5] (dk_W q cA ad sg x) [(cA, .object RX1)] (sp_Qz D (dk_W q cA ad sg x) (dk_W q cA ad (f_X0_operate sg x.1 x.2.1 x.2.2.1 x.2.2.2.1 x.2.2.2.2 p1 p2 p3 p4 p5).1 ((f_X0_operate sg x.1 x.2.1 x.2.2.1 x.2.2.2.1 x.2.2.2.2 p1 p2 p3 p4 p5).2.1, (f_X0_operate sg x.1 x.2.1 x.2.2.1 x.2.2.2.1 x.2.2.2.2 p1 p2 p3 p4 p5).2.2.1, (f_X0_operate sg x.1 x.2.1 x.2.2.1 x.2.2.2.1 x.2.2.2.2 p1 p2 p3 p4 p5).2.2.2.1, x.2.2.2.1, x.2.2.2.2)) [(cA, .object RX1)] ((f_X0_operate sg x.1 x.2.1 x.2.2.1 x.2.2.2.1 x.2.2.2.2 p1 p2 p3 p4 p5).2.2.2.2)) := c_X0_operate l D (q 0) (q 1) (q 2) (q 3) (q 4) (q 5) (q 6) (q 7) (q 8) cA ad sg x.1 x.2.1 x.2.2.1 x.2.2.2.1 x.2.2.2.2 p1 p2 p3 p4 p5
theorem k_X0_holds (l : Launch) (D : va_G) (q : Nat → Nat) (cA : ClassId) (ad : Nat → Nat) (sg : Nat → Nm) (x : Nx) (p1 : Int32) (p2 : Int32) (p3 : Int32) (p4 : Int32) : sp_M l yX0_holds wsX0_holds ({ frames := 6, cells := 0, slots := 0, locals := 136 }) D [.ref (q 0), .int p1, .int p2, .int p3, .int p4] (dk_W q cA ad sg x) [(cA, .object RX1)] (sp_Qz D (dk_W q cA ad sg x) (dk_W q cA ad (f_X0_holds sg x.1 x.2.1 x.2.2.1 x.2.2.2.1 x.2.2.2.2 p1 p2 p3 p4).1 (x.1, x.2.1, x.2.2.1, (f_X0_holds sg x.1 x.2.1 x.2.2.1 x.2.2.2.1 x.2.2.2.2 p1 p2 p3 p4).2.1, (f_X0_holds sg x.1 x.2.1 x.2.2.1 x.2.2.2.1 x.2.2.2.2 p1 p2 p3 p4).2.2.1)) [(cA, .object RX1)] ((f_X0_holds sg x.1 x.2.1 x.2.2.1 x.2.2.2.1 x.2.2.2.2 p1 p2 p3 p4).2.2.2)) := c_X0_holds l D (q 0) (q 1) (q 2) (q 3) (q 4) (q 5) (q 6) (q 7) (q 8) cA ad sg x.1 x.2.1 x.2.2.1 x.2.2.2.1 x.2.2.2.2 p1 p2 p3 p4
abbrev kwL_look : Cond := .codeWith yL_look cL_look 5 (some .int) [(0, 9, 12, 13)]
theorem kmL_look : kwL_look ∈ wsG := wG_of 506 (by decide +kernel) (by decide +kernel)
abbrev wsL_look : List Cond := kwL_look :: wsG
abbrev kwL_has : Cond := .codeWith yL_has cL_has 6 (some .int) [(0, 18, 21, 13)]
theorem kmL_has : kwL_has ∈ wsG := wG_of 581 (by decide +kernel) (by decide +kernel)
abbrev wsL_has : List Cond := kwL_has :: wsG
abbrev kwL_covers : Cond := .codeWith yL_covers cL_covers 5 (some .int) [(0, 17, 20, 13)]
theorem kmL_covers : kwL_covers ∈ wsG := wG_of 592 (by decide +kernel) (by decide +kernel)
abbrev wsL_covers : List Cond := kwL_covers :: wsG
set_option maxHeartbeats 4000000 in
set_option maxRecDepth 100000 in
theorem c_L_look (l : Launch) (D : va_G) (q : Nat → Nat) (cA : ClassId) (ad : Nat → Nat) (sg : Nat → Nm) (x : Nx) (o : Nat) (cO : ClassId) (f : Nat → Int64) (p1 : Int32) (p2 : Int32)  (hw : p2 = 0 ∨ p2 = 1 ∨ p2 = 2 ∨ p2 = 3 ∨ p2 = 4 ∨ p2 = 5) (hn1 : ¬ f_X0_isNumber p1 = 0) (v : Int64) (hv : v = f_X0_look sg x.1 x.2.1 x.2.2.1 x.2.2.2.1 x.2.2.2.2 p1 p2) : ∀ sz : Nat, Met l yL_look wsL_look ({ frames := 7, cells := 0, slots := 0, locals := 105 }) (sx_P D [.ref (q 0), .int p1, .int p2, .ref o] (dk_W q cA ad sg x ++ ou_W o cO f) [(cA, .object RX1), (cO, .long)] sz) ((sp_Qi D (dk_W q cA ad sg x ++ ou_W o cO f) (dk_W q cA ad sg x ++ ou_W o cO (vp_updL f (0 : Int32).toNatClampNeg v)) [(cA, .object RX1), (cO, .long)] 0) sz) 0 0 (va_A (dk_W q cA ad sg x ++ ou_W o cO f) sz) := by
  refine sh_ofW (cc := cL_look) (nL := 5) (ret := (some .int)) (own := RL) (t1 := 0) (t2 := 9) (t3 := 12) (t4 := 13) (by decide) rfl rfl (Nat.le_of_ble_eq_true rfl) ?_
  intro p e s m below meth c A ls hAe C htab hZ hA hP hK hD hS hl
  have hx := C.1
  have hb := C.2.1
  have hown := C.2.2.2.2.1
  have hts := C.2.2.2.2.2.1
  have hl : lv_has ls 5 [(0, .ref (q 0)), (1, .int p1), (2, .int p2), (3, .ref o)] := hl
  refine lv_aload_n hx hb dL_look_0 rfl (lv_at hl 3 rfl) ?_
  refine lv_iconst (v := 0) hx hb dL_look_1 (by decide) ?_
  refine lv_aload_n hx hb dL_look_2 rfl (lv_at hl 0 rfl) ?_
  refine lv_iload_n hx hb dL_look_3 rfl (lv_at hl 1 rfl) ?_
  refine lv_iload_n hx hb dL_look_4 rfl (lv_at hl 2 rfl) ?_
  refine sp_calll (sp_runV (As := [.int p1, .int p2]) (rest := [.int 0, .ref o]) C (k_X0_look l D q cA ad sg x p1 p2 hw hn1) (cwV 2 hts (gV wG_c wm_542 wm_543 wm_544 wm_4 wm_545) rfl rfl rfl (by decide +kernel) ⟨Nat.le_of_ble_eq_true rfl, Nat.le_of_ble_eq_true rfl⟩) hK hP hD (List.range' 0 25) (by decide) (sp_first dk_len) [0] rfl 0 0 rfl rfl rfl rfl hl.1 rfl (Nat.le_of_ble_eq_true rfl) dL_look_5 ⟨Nat.le_of_ble_eq_true rfl, Nat.le_of_ble_eq_true rfl⟩) hP hD hS hA (List.range' 0 25) (sp_first dk_len) rfl (fun H locs hP hD hS => ?_)
  rw [sp_upd_first _ _ _ 25 dk_len dk_len] at hP hD
  subst hv
  refine va_last hx hb hK hP hD hS 25 1 ou_at rfl (vp_in_iff.mpr (by decide)) dL_look_8 (fun H locs hP hD hS => ?_)
  rw [ou_set] at hP hD
  refine lv_goto (tgt := 16) hx hb dL_look_9 (by decide) ?_
  refine lv_iconst (v := 0) hx hb dL_look_16 (by decide) ?_
  exact sp_iret C hAe hP hK hD hS dL_look_17
set_option maxHeartbeats 4000000 in
set_option maxRecDepth 100000 in
theorem c_L_look_x (l : Launch) (hl0 : l.stackTraces = false) (D : va_G) (q : Nat → Nat) (cA : ClassId) (ad : Nat → Nat) (sg : Nat → Nm) (x : Nx) (o : Nat) (cO : ClassId) (f : Nat → Int64) (p1 : Int32) (p2 : Int32) (hbad : f_X0_isNumber p1 = 0 ∨ ¬ (p2 = 0 ∨ p2 = 1 ∨ p2 = 2 ∨ p2 = 3 ∨ p2 = 4 ∨ p2 = 5)) : ∀ sz : Nat, Met l yL_look wsL_look ({ frames := 7, cells := 1, slots := 6, locals := 105 }) (sx_P D [.ref (q 0), .int p1, .int p2, .ref o] (dk_W q cA ad sg x ++ ou_W o cO f) [(cA, .object RX1), (cO, .long)] sz) ((sp_Qi D (dk_W q cA ad sg x ++ ou_W o cO f) (dk_W q cA ad sg x ++ ou_W o cO f) [(cA, .object RX1), (cO, .long)] 1) sz) 1 6 (va_A (dk_W q cA ad sg x ++ ou_W o cO f) sz) := by
  refine sh_ofW (cc := cL_look) (nL := 5) (ret := (some .int)) (own := RL) (t1 := 0) (t2 := 9) (t3 := 12) (t4 := 13) (by decide) rfl rfl (Nat.le_of_ble_eq_true rfl) ?_
  intro p e s m below meth c A ls hAe C htab hZ hA hP hK hD hS hl
  have hx := C.1
  have hb := C.2.1
  have hown := C.2.2.2.2.1
  have hts := C.2.2.2.2.2.1
  have hl : lv_has ls 5 [(0, .ref (q 0)), (1, .int p1), (2, .int p2), (3, .ref o)] := hl
  refine lv_aload_n hx hb dL_look_0 rfl (lv_at hl 3 rfl) ?_
  refine lv_iconst (v := 0) hx hb dL_look_1 (by decide) ?_
  refine lv_aload_n hx hb dL_look_2 rfl (lv_at hl 0 rfl) ?_
  refine lv_iload_n hx hb dL_look_3 rfl (lv_at hl 1 rfl) ?_
  refine lv_iload_n hx hb dL_look_4 rfl (lv_at hl 2 rfl) ?_
  refine sx_call (As := [.int p1, .int p2]) (rest := [.int 0, .ref o]) C htab (by decide) (by decide) (hts _ (List.mem_cons_of_mem _ wm_546)) (c_X0_look_x l hl0 D q cA ad sg x p1 p2 hbad) (cwV 2 hts (gV wG_c wm_542 wm_543 wm_544 wm_4 wm_545) rfl rfl rfl (by decide +kernel) ⟨Nat.le_of_ble_eq_true rfl, Nat.le_of_ble_eq_true rfl⟩) hZ (fun _ _ => rfl) hK hP hD (List.range' 0 25) (by decide) (sp_first dk_len) [0] rfl 0 0 rfl rfl rfl rfl hl.1 rfl (Nat.le_of_ble_eq_true rfl) dL_look_5 ⟨Nat.le_of_ble_eq_true rfl, Nat.le_of_ble_eq_true rfl⟩ hS (fun H z hP hS => ?_)
  refine W.eq (g2 := F0 m 12 ls [.ref z]) rfl ?_
  refine lv_astore (lv' := [(4, .ref z), (0, .ref (q 0)), (1, .int p1), (2, .int p2), (3, .ref o)]) hx hb dL_look_12 hl (by decide) rfl (fun ls hl => ?_)
  refine lv_iconst (v := 1) hx hb dL_look_14 (by decide) ?_
  exact sp_iret C hAe hP hK hD hS dL_look_15
set_option maxHeartbeats 4000000 in
set_option maxRecDepth 100000 in
theorem c_L_has (l : Launch) (D : va_G) (q : Nat → Nat) (cA : ClassId) (ad : Nat → Nat) (sg : Nat → Nm) (x : Nx) (o : Nat) (cO : ClassId) (f : Nat → Int64) (p1 : Int32) (p2 : Int64)  (hn1 : ¬ f_X0_isNumber p1 = 0) (v : Int64) (hv : v = if f_X0_has sg x.1 x.2.1 x.2.2.1 x.2.2.2.1 x.2.2.2.2 p1 p2 = 0 then 0 else 1) : ∀ sz : Nat, Met l yL_has wsL_has ({ frames := 7, cells := 0, slots := 0, locals := 105 }) (sx_P D [.ref (q 0), .int p1, .long p2, .ref o] (dk_W q cA ad sg x ++ ou_W o cO f) [(cA, .object RX1), (cO, .long)] sz) ((sp_Qi D (dk_W q cA ad sg x ++ ou_W o cO f) (dk_W q cA ad sg x ++ ou_W o cO (vp_updL f (0 : Int32).toNatClampNeg v)) [(cA, .object RX1), (cO, .long)] 0) sz) 0 0 (va_A (dk_W q cA ad sg x ++ ou_W o cO f) sz) := by
  refine sh_ofW (cc := cL_has) (nL := 6) (ret := (some .int)) (own := RL) (t1 := 0) (t2 := 18) (t3 := 21) (t4 := 13) (by decide) rfl rfl (Nat.le_of_ble_eq_true rfl) ?_
  intro p e s m below meth c A ls hAe C htab hZ hA hP hK hD hS hl
  have hx := C.1
  have hb := C.2.1
  have hown := C.2.2.2.2.1
  have hts := C.2.2.2.2.2.1
  have hl : lv_has ls 6 [(0, .ref (q 0)), (1, .int p1), (2, .long p2), (4, .ref o)] := hl
  refine lv_aload hx hb dL_has_0 (lv_at hl 3 rfl) ?_
  refine lv_iconst (v := 0) hx hb dL_has_2 (by decide) ?_
  refine lv_aload_n hx hb dL_has_3 rfl (lv_at hl 0 rfl) ?_
  refine lv_iload_n hx hb dL_has_4 rfl (lv_at hl 1 rfl) ?_
  refine lv_lload_n hx hb dL_has_5 rfl (lv_at hl 2 rfl) ?_
  refine sp_callz (sp_runV (As := [.int p1, .long p2]) (rest := [.int 0, .ref o]) C (k_X0_has l D q cA ad sg x p1 p2 hn1) (cwV 2 hts (gV wG_c wm_547 wm_548 wm_549 wm_4 wm_550) rfl rfl rfl (by decide +kernel) ⟨Nat.le_of_ble_eq_true rfl, Nat.le_of_ble_eq_true rfl⟩) hK hP hD (List.range' 0 25) (by decide) (sp_first dk_len) [0] rfl 0 0 rfl rfl rfl rfl hl.1 rfl (Nat.le_of_ble_eq_true rfl) dL_has_6 ⟨Nat.le_of_ble_eq_true rfl, Nat.le_of_ble_eq_true rfl⟩) hP hD hS hA (List.range' 0 25) (sp_first dk_len) rfl (fun H locs z1 hP hD hS => ?_)
  rw [sp_upd_first _ _ _ 25 dk_len dk_len] at hP hD
  refine lv_if_eq (tgt := 16) hx hb dL_has_9 (by decide) (fun h9 => ?_) (fun h9 => ?_)
  · have e9 : v = 0 := hv.trans (if_pos h9)
    subst e9
    refine lv_lconst (v := 0) hx hb dL_has_16 (by decide) ?_
    refine va_last hx hb hK hP hD hS 25 1 ou_at rfl (vp_in_iff.mpr (by decide)) dL_has_17 (fun H locs hP hD hS => ?_)
    rw [ou_set] at hP hD
    refine lv_goto (tgt := 25) hx hb dL_has_18 (by decide) ?_
    refine lv_iconst (v := 0) hx hb dL_has_25 (by decide) ?_
    exact sp_iret C hAe hP hK hD hS dL_has_26
  · have e9 : v = 1 := hv.trans (if_neg h9)
    subst e9
    refine lv_lconst (v := 1) hx hb dL_has_12 (by decide) ?_
    refine lv_goto (tgt := 17) hx hb dL_has_13 (by decide) ?_
    refine va_last hx hb hK hP hD hS 25 1 ou_at rfl (vp_in_iff.mpr (by decide)) dL_has_17 (fun H locs hP hD hS => ?_)
    rw [ou_set] at hP hD
    refine lv_goto (tgt := 25) hx hb dL_has_18 (by decide) ?_
    refine lv_iconst (v := 0) hx hb dL_has_25 (by decide) ?_
    exact sp_iret C hAe hP hK hD hS dL_has_26
set_option maxHeartbeats 4000000 in
set_option maxRecDepth 100000 in
theorem c_L_has_x (l : Launch) (hl0 : l.stackTraces = false) (D : va_G) (q : Nat → Nat) (cA : ClassId) (ad : Nat → Nat) (sg : Nat → Nm) (x : Nx) (o : Nat) (cO : ClassId) (f : Nat → Int64) (p1 : Int32) (p2 : Int64) (hbad : f_X0_isNumber p1 = 0) : ∀ sz : Nat, Met l yL_has wsL_has ({ frames := 7, cells := 1, slots := 6, locals := 105 }) (sx_P D [.ref (q 0), .int p1, .long p2, .ref o] (dk_W q cA ad sg x ++ ou_W o cO f) [(cA, .object RX1), (cO, .long)] sz) ((sp_Qi D (dk_W q cA ad sg x ++ ou_W o cO f) (dk_W q cA ad sg x ++ ou_W o cO f) [(cA, .object RX1), (cO, .long)] 1) sz) 1 6 (va_A (dk_W q cA ad sg x ++ ou_W o cO f) sz) := by
  refine sh_ofW (cc := cL_has) (nL := 6) (ret := (some .int)) (own := RL) (t1 := 0) (t2 := 18) (t3 := 21) (t4 := 13) (by decide) rfl rfl (Nat.le_of_ble_eq_true rfl) ?_
  intro p e s m below meth c A ls hAe C htab hZ hA hP hK hD hS hl
  have hx := C.1
  have hb := C.2.1
  have hown := C.2.2.2.2.1
  have hts := C.2.2.2.2.2.1
  have hl : lv_has ls 6 [(0, .ref (q 0)), (1, .int p1), (2, .long p2), (4, .ref o)] := hl
  refine lv_aload hx hb dL_has_0 (lv_at hl 3 rfl) ?_
  refine lv_iconst (v := 0) hx hb dL_has_2 (by decide) ?_
  refine lv_aload_n hx hb dL_has_3 rfl (lv_at hl 0 rfl) ?_
  refine lv_iload_n hx hb dL_has_4 rfl (lv_at hl 1 rfl) ?_
  refine lv_lload_n hx hb dL_has_5 rfl (lv_at hl 2 rfl) ?_
  refine sx_call (As := [.int p1, .long p2]) (rest := [.int 0, .ref o]) C htab (by decide) (by decide) (hts _ (List.mem_cons_of_mem _ wm_546)) (c_X0_has_x l hl0 D q cA ad sg x p1 p2 hbad) (cwV 2 hts (gV wG_c wm_547 wm_548 wm_549 wm_4 wm_550) rfl rfl rfl (by decide +kernel) ⟨Nat.le_of_ble_eq_true rfl, Nat.le_of_ble_eq_true rfl⟩) hZ (fun _ _ => rfl) hK hP hD (List.range' 0 25) (by decide) (sp_first dk_len) [0] rfl 0 0 rfl rfl rfl rfl hl.1 rfl (Nat.le_of_ble_eq_true rfl) dL_has_6 ⟨Nat.le_of_ble_eq_true rfl, Nat.le_of_ble_eq_true rfl⟩ hS (fun H z hP hS => ?_)
  refine W.eq (g2 := F0 m 21 ls [.ref z]) rfl ?_
  refine lv_astore (lv' := [(5, .ref z), (0, .ref (q 0)), (1, .int p1), (2, .long p2), (4, .ref o)]) hx hb dL_has_21 hl (by decide) rfl (fun ls hl => ?_)
  refine lv_iconst (v := 1) hx hb dL_has_23 (by decide) ?_
  exact sp_iret C hAe hP hK hD hS dL_has_24
set_option maxHeartbeats 4000000 in
set_option maxRecDepth 100000 in
theorem c_L_covers (l : Launch) (D : va_G) (q : Nat → Nat) (cA : ClassId) (ad : Nat → Nat) (sg : Nat → Nm) (x : Nx) (o : Nat) (cO : ClassId) (f : Nat → Int64) (p1 : Int32) (p2 : Int32)  (hn1 : ¬ f_X0_isNumber p1 = 0) (hn2 : ¬ f_X0_isNumber p2 = 0) (v : Int64) (hv : v = if f_X0_covers sg x.1 x.2.1 x.2.2.1 x.2.2.2.1 x.2.2.2.2 p1 p2 = 0 then 0 else 1) : ∀ sz : Nat, Met l yL_covers wsL_covers ({ frames := 7, cells := 0, slots := 0, locals := 105 }) (sx_P D [.ref (q 0), .int p1, .int p2, .ref o] (dk_W q cA ad sg x ++ ou_W o cO f) [(cA, .object RX1), (cO, .long)] sz) ((sp_Qi D (dk_W q cA ad sg x ++ ou_W o cO f) (dk_W q cA ad sg x ++ ou_W o cO (vp_updL f (0 : Int32).toNatClampNeg v)) [(cA, .object RX1), (cO, .long)] 0) sz) 0 0 (va_A (dk_W q cA ad sg x ++ ou_W o cO f) sz) := by
  refine sh_ofW (cc := cL_covers) (nL := 5) (ret := (some .int)) (own := RL) (t1 := 0) (t2 := 17) (t3 := 20) (t4 := 13) (by decide) rfl rfl (Nat.le_of_ble_eq_true rfl) ?_
  intro p e s m below meth c A ls hAe C htab hZ hA hP hK hD hS hl
  have hx := C.1
  have hb := C.2.1
  have hown := C.2.2.2.2.1
  have hts := C.2.2.2.2.2.1
  have hl : lv_has ls 5 [(0, .ref (q 0)), (1, .int p1), (2, .int p2), (3, .ref o)] := hl
  refine lv_aload_n hx hb dL_covers_0 rfl (lv_at hl 3 rfl) ?_
  refine lv_iconst (v := 0) hx hb dL_covers_1 (by decide) ?_
  refine lv_aload_n hx hb dL_covers_2 rfl (lv_at hl 0 rfl) ?_
  refine lv_iload_n hx hb dL_covers_3 rfl (lv_at hl 1 rfl) ?_
  refine lv_iload_n hx hb dL_covers_4 rfl (lv_at hl 2 rfl) ?_
  refine sp_callz (sp_runV (As := [.int p1, .int p2]) (rest := [.int 0, .ref o]) C (k_X0_covers l D q cA ad sg x p1 p2 hn1 hn2) (cwV 2 hts (gV wG_c wm_551 wm_552 wm_553 wm_4 wm_554) rfl rfl rfl (by decide +kernel) ⟨Nat.le_of_ble_eq_true rfl, Nat.le_of_ble_eq_true rfl⟩) hK hP hD (List.range' 0 25) (by decide) (sp_first dk_len) [0] rfl 0 0 rfl rfl rfl rfl hl.1 rfl (Nat.le_of_ble_eq_true rfl) dL_covers_5 ⟨Nat.le_of_ble_eq_true rfl, Nat.le_of_ble_eq_true rfl⟩) hP hD hS hA (List.range' 0 25) (sp_first dk_len) rfl (fun H locs z1 hP hD hS => ?_)
  rw [sp_upd_first _ _ _ 25 dk_len dk_len] at hP hD
  refine lv_if_eq (tgt := 15) hx hb dL_covers_8 (by decide) (fun h9 => ?_) (fun h9 => ?_)
  · have e9 : v = 0 := hv.trans (if_pos h9)
    subst e9
    refine lv_lconst (v := 0) hx hb dL_covers_15 (by decide) ?_
    refine va_last hx hb hK hP hD hS 25 1 ou_at rfl (vp_in_iff.mpr (by decide)) dL_covers_16 (fun H locs hP hD hS => ?_)
    rw [ou_set] at hP hD
    refine lv_goto (tgt := 24) hx hb dL_covers_17 (by decide) ?_
    refine lv_iconst (v := 0) hx hb dL_covers_24 (by decide) ?_
    exact sp_iret C hAe hP hK hD hS dL_covers_25
  · have e9 : v = 1 := hv.trans (if_neg h9)
    subst e9
    refine lv_lconst (v := 1) hx hb dL_covers_11 (by decide) ?_
    refine lv_goto (tgt := 16) hx hb dL_covers_12 (by decide) ?_
    refine va_last hx hb hK hP hD hS 25 1 ou_at rfl (vp_in_iff.mpr (by decide)) dL_covers_16 (fun H locs hP hD hS => ?_)
    rw [ou_set] at hP hD
    refine lv_goto (tgt := 24) hx hb dL_covers_17 (by decide) ?_
    refine lv_iconst (v := 0) hx hb dL_covers_24 (by decide) ?_
    exact sp_iret C hAe hP hK hD hS dL_covers_25
set_option maxHeartbeats 4000000 in
set_option maxRecDepth 100000 in
theorem c_L_covers_x (l : Launch) (hl0 : l.stackTraces = false) (D : va_G) (q : Nat → Nat) (cA : ClassId) (ad : Nat → Nat) (sg : Nat → Nm) (x : Nx) (o : Nat) (cO : ClassId) (f : Nat → Int64) (p1 : Int32) (p2 : Int32) (hbad : f_X0_isNumber p1 = 0 ∨ f_X0_isNumber p2 = 0) : ∀ sz : Nat, Met l yL_covers wsL_covers ({ frames := 7, cells := 1, slots := 6, locals := 105 }) (sx_P D [.ref (q 0), .int p1, .int p2, .ref o] (dk_W q cA ad sg x ++ ou_W o cO f) [(cA, .object RX1), (cO, .long)] sz) ((sp_Qi D (dk_W q cA ad sg x ++ ou_W o cO f) (dk_W q cA ad sg x ++ ou_W o cO f) [(cA, .object RX1), (cO, .long)] 1) sz) 1 6 (va_A (dk_W q cA ad sg x ++ ou_W o cO f) sz) := by
  refine sh_ofW (cc := cL_covers) (nL := 5) (ret := (some .int)) (own := RL) (t1 := 0) (t2 := 17) (t3 := 20) (t4 := 13) (by decide) rfl rfl (Nat.le_of_ble_eq_true rfl) ?_
  intro p e s m below meth c A ls hAe C htab hZ hA hP hK hD hS hl
  have hx := C.1
  have hb := C.2.1
  have hown := C.2.2.2.2.1
  have hts := C.2.2.2.2.2.1
  have hl : lv_has ls 5 [(0, .ref (q 0)), (1, .int p1), (2, .int p2), (3, .ref o)] := hl
  refine lv_aload_n hx hb dL_covers_0 rfl (lv_at hl 3 rfl) ?_
  refine lv_iconst (v := 0) hx hb dL_covers_1 (by decide) ?_
  refine lv_aload_n hx hb dL_covers_2 rfl (lv_at hl 0 rfl) ?_
  refine lv_iload_n hx hb dL_covers_3 rfl (lv_at hl 1 rfl) ?_
  refine lv_iload_n hx hb dL_covers_4 rfl (lv_at hl 2 rfl) ?_
  refine sx_call (As := [.int p1, .int p2]) (rest := [.int 0, .ref o]) C htab (by decide) (by decide) (hts _ (List.mem_cons_of_mem _ wm_546)) (c_X0_covers_x l hl0 D q cA ad sg x p1 p2 hbad) (cwV 2 hts (gV wG_c wm_551 wm_552 wm_553 wm_4 wm_554) rfl rfl rfl (by decide +kernel) ⟨Nat.le_of_ble_eq_true rfl, Nat.le_of_ble_eq_true rfl⟩) hZ (fun _ _ => rfl) hK hP hD (List.range' 0 25) (by decide) (sp_first dk_len) [0] rfl 0 0 rfl rfl rfl rfl hl.1 rfl (Nat.le_of_ble_eq_true rfl) dL_covers_5 ⟨Nat.le_of_ble_eq_true rfl, Nat.le_of_ble_eq_true rfl⟩ hS (fun H z hP hS => ?_)
  refine W.eq (g2 := F0 m 20 ls [.ref z]) rfl ?_
  refine lv_astore (lv' := [(4, .ref z), (0, .ref (q 0)), (1, .int p1), (2, .int p2), (3, .ref o)]) hx hb dL_covers_20 hl (by decide) rfl (fun ls hl => ?_)
  refine lv_iconst (v := 1) hx hb dL_covers_22 (by decide) ?_
  exact sp_iret C hAe hP hK hD hS dL_covers_23
