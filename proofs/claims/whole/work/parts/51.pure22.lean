section DOP
variable {n x y : Nm} {p q v u : Int64}
theorem dpi {c : Prop} [Decidable c] (hx : x_dis x) (hy : x_dis y) : x_dis (if c then x else y) := by
  split
  · exact hx
  · exact hy
theorem dsb (h : v &&& u = 0) : x_dis (f_X1_setBits n v u) := h
theorem dsu (h : x_dis n) : x_dis (f_X1_setUnsigned n p q) := h
theorem dss (h : x_dis n) : x_dis (f_X1_setSigned n p q) := h
theorem dex : x_dis (f_X1_becomeExact n v) := ds_00 v
theorem dbe (h : x_dis x) : x_dis (f_X1_become n x) := by rw [ml_become]; exact h
theorem dn_add : x_dis (f_X2_add x y n) := by
  unfold f_X2_add
  dsimp only
  exact dpi (dpi (dpi (dss (dsu (dsb (ds_mask _ _)))) (dsu (dsb (ds_mask _ _)))) (dsu (dsb (ds_mask _ _)))) (dpi (dpi (dss (dsb (ds_mask _ _))) (dsb (ds_mask _ _))) (dsb (ds_mask _ _)))
theorem dn_sub : x_dis (f_X2_subtract x y n) := by
  unfold f_X2_subtract
  dsimp only
  exact dpi (dpi (dpi (dss (dsu (dsb (ds_mask _ _)))) (dsu (dsb (ds_mask _ _)))) (dsu (dsb (ds_mask _ _)))) (dpi (dpi (dss (dsb (ds_mask _ _))) (dsb (ds_mask _ _))) (dsb (ds_mask _ _)))
theorem dn_mul : x_dis (f_X2_multiply x y n) := by
  unfold f_X2_multiply
  dsimp only
  exact dpi (dpi (dpi (dpi (dsu (dsb (ds_0 _))) (dsb (ds_0 _))) (dsb (ds_0 _))) (dpi (dpi (dsu (dsb (ds_0 _))) (dsb (ds_0 _))) (dsb (ds_0 _)))) (dpi (dpi (dpi (dpi (dsu (dsb (ds_0 _))) (dsb (ds_0 _))) (dsb (ds_0 _))) (dpi (dpi (dsu (dsb (ds_0 _))) (dsb (ds_0 _))) (dsb (ds_0 _)))) dex)
theorem dn_div (h : x_dis n) : x_dis (f_X2_divide x y n) := by
  unfold f_X2_divide
  exact dpi (dsu h) (dsu h)
theorem dn_rest (h : x_dis n) (hx : x_dis x) : x_dis (f_X2_rest x y n) := by
  unfold f_X2_rest
  exact dpi (dsu h) (dpi (dbe hx) (dpi (dsu h) (dbe hx)))
theorem dn_and : x_dis (f_X2_and x y n) := by
  unfold f_X2_and
  exact dsu (dsb (ds_mask' _ _))
theorem dn_or : x_dis (f_X2_or x y n) := by
  unfold f_X2_or
  exact dsu (dsb (ds_mask' _ _))
theorem dn_xor : x_dis (f_X2_xor x y n) := by
  unfold f_X2_xor
  exact dsb (ds_mask _ _)
theorem dn_shl (hx : x_dis x) {s : Int32} (hs : ∃ k, k < 64 ∧ s = nI k) : x_dis (f_X2_shiftLeft x y n s) := by
  obtain ⟨k, hk, rfl⟩ := hs
  unfold f_X2_shiftLeft
  exact dpi (dsu (dsb (ds_shl hx hk))) (dsb (ds_shl hx hk))
theorem dn_shr (hx : x_dis x) {s : Int32} (hs : ∃ k, k < 64 ∧ s = nI k) : x_dis (f_X2_shiftRight x y n s) := by
  obtain ⟨k, hk, rfl⟩ := hs
  unfold f_X2_shiftRight
  exact dsu (dsb (ds_shr hx hk))
theorem dn_sar (hx : x_dis x) {s : Int32} (hs : ∃ k, k < 64 ∧ s = nI k) : x_dis (f_X2_shiftRightSigned x y n s) := by
  obtain ⟨k, hk, rfl⟩ := hs
  unfold f_X2_shiftRightSigned
  exact dss (dsb (ds_sar hx hk))
theorem dn_shift (h : x_dis n) (hx : x_dis x) {op nr : Int32} : x_dis (f_X2_shift x y n op nr) := by
  unfold f_X2_shift
  exact dpi h (dpi (dpi (dn_shl hx (sh63 _)) (dpi (dn_shr hx (sh63 _)) (dn_sar hx (sh63 _)))) (dpi (dn_shl hx (sh31 _)) (dpi (dn_shr hx (sh31 _)) (dpi h (dn_shr hx (sh31 _))))))
theorem dn_swap (h : x_dis n) {b : Int32} : x_dis (f_X2_swap x y n b) := by
  unfold f_X2_swap
  exact dpi (dsu h) dex
theorem dn_cut (hx : x_dis x) {b : Int32} : x_dis (f_X2_cut x y n b).2 := by
  unfold f_X2_cut
  split
  · exact dbe hx
  · exact dn_and
theorem dp22 {c : Prop} [Decidable c] {r s : Nm × Nm × Nm} (hx : x_dis r.2.2) (hy : x_dis s.2.2) : x_dis (if c then r else s).2.2 := by
  split
  · exact hx
  · exact hy
theorem d22 {a b z : Nm} (h : x_dis z) : x_dis (a, b, z).2.2 := h
theorem dn_neg : x_dis (f_X2_negate x y n).2.2 := by
  unfold f_X2_negate
  exact d22 dn_sub
theorem dn_apply (h : x_dis n) (hx : x_dis x) (hy : x_dis y) {op : Int32} : x_dis (f_X2_apply x y n op).2.2 := by
  unfold f_X2_apply
  exact (dp22 (d22 dn_add) (dp22 (d22 dn_sub) (dp22 (d22 dn_mul) (dp22 (d22 (dn_div h)) (dp22 (d22 (dn_rest h hx)) (dp22 (d22 dn_and) (dp22 (d22 dn_or) (dp22 (d22 dn_xor) (dp22 (d22 h) (dp22 (d22 h) (dp22 (d22 h) (dp22 (d22 dn_neg) (dp22 (d22 (dbe hy)) (dp22 (d22 (dn_swap h)) (dp22 (d22 (dn_cut hx)) (d22 h))))))))))))))))
theorem dn_op (hx : x_dis x) (hy : x_dis y) {op nr : Int32} : x_dis (x_op x y op nr) := by
  unfold x_op
  exact dpi (dn_shift dn_AN hx) (dpi (dn_shift dn_AN hx) (dpi (dn_shift dn_AN hx) (dn_apply dn_AN hx hy)))
theorem dn_compute {n0 n1 n2 : Nm} (hx : x_dis x) (hy : x_dis y) {op nr : Int32} : x_dis (f_X2_compute n0 n1 n2 x y op nr).2.2 := by
  rw [cmp_eq]
  exact dpi (dn_fin (dn_op hx hy)) (dn_narrow (dn_fin (dn_op (dn_narrow hx) (dn_narrow hy))))
end DOP
