theorem nu_c : ∀ k, k < 32 → ((nI k).toUInt32 &&& Int32.toUInt32 31).toNat % 32 = k := by decide +kernel
theorem nu {Y k : Nat} (hY : Y < 4294967296) (hk : k < 32) : ((nI Y).toUInt32 >>> ((nI k).toUInt32 &&& Int32.toUInt32 31)).toInt32 = nI (Y / 2 ^ k) := by
  apply Int32.toBitVec_inj.mp
  apply BitVec.eq_of_toNat_eq
  show ((nI Y).toUInt32 >>> ((nI k).toUInt32 &&& Int32.toUInt32 31)).toNat = (BitVec.ofNat 32 (Y / 2 ^ k)).toNat
  have e : (nI Y).toUInt32.toNat = Y := by
    show (BitVec.ofNat 32 Y).toNat = Y
    rw [BitVec.toNat_ofNat]
    exact Nat.mod_eq_of_lt hY
  rw [UInt32.toNat_shiftRight, nu_c k hk, Nat.shiftRight_eq_div_pow, e, BitVec.toNat_ofNat, Nat.mod_eq_of_lt (Nat.lt_of_le_of_lt (Nat.div_le_self _ _) hY)]
theorem nu1 {Y : Nat} (hY : Y < 4294967296) : ((nI Y).toUInt32 >>> ((1 : Int32).toUInt32 &&& Int32.toUInt32 31)).toInt32 = nI (Y / 2) := nu (k := 1) hY (by decide)
theorem nu2 {Y : Nat} (hY : Y < 4294967296) : ((nI Y).toUInt32 >>> ((2 : Int32).toUInt32 &&& Int32.toUInt32 31)).toInt32 = nI (Y / 4) := nu (k := 2) hY (by decide)
theorem nu4 {Y : Nat} (hY : Y < 4294967296) : ((nI Y).toUInt32 >>> ((4 : Int32).toUInt32 &&& Int32.toUInt32 31)).toInt32 = nI (Y / 16) := nu (k := 4) hY (by decide)
theorem nu8 {Y : Nat} (hY : Y < 4294967296) : ((nI Y).toUInt32 >>> ((8 : Int32).toUInt32 &&& Int32.toUInt32 31)).toInt32 = nI (Y / 256) := nu (k := 8) hY (by decide)
theorem nu16 {Y : Nat} (hY : Y < 4294967296) : ((nI Y).toUInt32 >>> ((16 : Int32).toUInt32 &&& Int32.toUInt32 31)).toInt32 = nI (Y / 65536) := nu (k := 16) hY (by decide)
theorem nlt {a b : Nat} (ha : a < 2147483648) (hb : b < 2147483648) : nI a < nI b ↔ a < b := nI_ltI ha hb
theorem jn_pos {X : Nat} (h0 : 0 < X) (h1 : X < 2147483648) : ∃ h, 2 ^ h ≤ X ∧ X < 2 ^ (h + 1) ∧ f_JI_numberOfLeadingZeros (nI X) = nI (31 - h) := by
  have hp : (0 : Int32) < nI X := (nlt (a := 0) (by decide) h1).mpr h0
  by_cases c16 : X < 65536
  · have h16 : nI X < (65536 : Int32) := by exact (nlt (b := 65536) (by omega) (by decide)).mpr c16
    by_cases c8 : X < 256
    · have h8 : nI X < (256 : Int32) := by exact (nlt (b := 256) (by omega) (by decide)).mpr c8
      by_cases c4 : X < 16
      · have h4 : nI X < (16 : Int32) := by exact (nlt (b := 16) (by omega) (by decide)).mpr c4
        by_cases c2 : X < 4
        · have h2 : nI X < (4 : Int32) := by exact (nlt (b := 4) (by omega) (by decide)).mpr c2
          have tL : ((nI X).toUInt32 >>> ((1 : Int32).toUInt32 &&& Int32.toUInt32 31)).toInt32 = nI (X / 2) := by
            exact nu1 (by omega)
          have e : f_JI_numberOfLeadingZeros (nI X) = 31 - ((nI X).toUInt32 >>> ((1 : Int32).toUInt32 &&& Int32.toUInt32 31)).toInt32 := (if_pos hp).trans ((if_pos h16).trans ((if_pos h8).trans ((if_pos h4).trans ((if_pos h2).trans (rfl)))))
          rw [e, tL]
          rcases (show X / 2 = 0 ∨ X / 2 = 1 by omega) with q | q
          · exact ⟨0, by omega, by omega, by rw [q]; decide⟩
          · exact ⟨1, by omega, by omega, by rw [q]; decide⟩
        · have h2 : ¬ nI X < (4 : Int32) := by exact fun q => c2 ((nlt (b := 4) (by omega) (by decide)).mp q)
          have t2 : ((nI X).toUInt32 >>> ((2 : Int32).toUInt32 &&& Int32.toUInt32 31)).toInt32 = nI (X / 4) := by exact nu2 (by omega)
          have tL : ((((nI X).toUInt32 >>> ((2 : Int32).toUInt32 &&& Int32.toUInt32 31)).toInt32).toUInt32 >>> ((1 : Int32).toUInt32 &&& Int32.toUInt32 31)).toInt32 = nI (X / 4 / 2) := by
            rw [t2]
            exact nu1 (by omega)
          have e : f_JI_numberOfLeadingZeros (nI X) = 29 - ((((nI X).toUInt32 >>> ((2 : Int32).toUInt32 &&& Int32.toUInt32 31)).toInt32).toUInt32 >>> ((1 : Int32).toUInt32 &&& Int32.toUInt32 31)).toInt32 := (if_pos hp).trans ((if_pos h16).trans ((if_pos h8).trans ((if_pos h4).trans ((if_neg h2).trans (rfl)))))
          rw [e, tL]
          rcases (show X / 4 / 2 = 0 ∨ X / 4 / 2 = 1 by omega) with q | q
          · exact ⟨2, by omega, by omega, by rw [q]; decide⟩
          · exact ⟨3, by omega, by omega, by rw [q]; decide⟩
      · have h4 : ¬ nI X < (16 : Int32) := by exact fun q => c4 ((nlt (b := 16) (by omega) (by decide)).mp q)
        have t4 : ((nI X).toUInt32 >>> ((4 : Int32).toUInt32 &&& Int32.toUInt32 31)).toInt32 = nI (X / 16) := by exact nu4 (by omega)
        by_cases c2 : X / 16 < 4
        · have h2 : ((nI X).toUInt32 >>> ((4 : Int32).toUInt32 &&& Int32.toUInt32 31)).toInt32 < (4 : Int32) := by rw [t4]; exact (nlt (b := 4) (by omega) (by decide)).mpr c2
          have tL : ((((nI X).toUInt32 >>> ((4 : Int32).toUInt32 &&& Int32.toUInt32 31)).toInt32).toUInt32 >>> ((1 : Int32).toUInt32 &&& Int32.toUInt32 31)).toInt32 = nI (X / 16 / 2) := by
            rw [t4]
            exact nu1 (by omega)
          have e : f_JI_numberOfLeadingZeros (nI X) = 27 - ((((nI X).toUInt32 >>> ((4 : Int32).toUInt32 &&& Int32.toUInt32 31)).toInt32).toUInt32 >>> ((1 : Int32).toUInt32 &&& Int32.toUInt32 31)).toInt32 := (if_pos hp).trans ((if_pos h16).trans ((if_pos h8).trans ((if_neg h4).trans ((if_pos h2).trans (rfl)))))
          rw [e, tL]
          rcases (show X / 16 / 2 = 0 ∨ X / 16 / 2 = 1 by omega) with q | q
          · exact ⟨4, by omega, by omega, by rw [q]; decide⟩
          · exact ⟨5, by omega, by omega, by rw [q]; decide⟩
        · have h2 : ¬ ((nI X).toUInt32 >>> ((4 : Int32).toUInt32 &&& Int32.toUInt32 31)).toInt32 < (4 : Int32) := by rw [t4]; exact fun q => c2 ((nlt (b := 4) (by omega) (by decide)).mp q)
          have t2 : ((((nI X).toUInt32 >>> ((4 : Int32).toUInt32 &&& Int32.toUInt32 31)).toInt32).toUInt32 >>> ((2 : Int32).toUInt32 &&& Int32.toUInt32 31)).toInt32 = nI (X / 16 / 4) := by rw [t4]; exact nu2 (by omega)
          have tL : ((((((nI X).toUInt32 >>> ((4 : Int32).toUInt32 &&& Int32.toUInt32 31)).toInt32).toUInt32 >>> ((2 : Int32).toUInt32 &&& Int32.toUInt32 31)).toInt32).toUInt32 >>> ((1 : Int32).toUInt32 &&& Int32.toUInt32 31)).toInt32 = nI (X / 16 / 4 / 2) := by
            rw [t2]
            exact nu1 (by omega)
          have e : f_JI_numberOfLeadingZeros (nI X) = 25 - ((((((nI X).toUInt32 >>> ((4 : Int32).toUInt32 &&& Int32.toUInt32 31)).toInt32).toUInt32 >>> ((2 : Int32).toUInt32 &&& Int32.toUInt32 31)).toInt32).toUInt32 >>> ((1 : Int32).toUInt32 &&& Int32.toUInt32 31)).toInt32 := (if_pos hp).trans ((if_pos h16).trans ((if_pos h8).trans ((if_neg h4).trans ((if_neg h2).trans (rfl)))))
          rw [e, tL]
          rcases (show X / 16 / 4 / 2 = 0 ∨ X / 16 / 4 / 2 = 1 by omega) with q | q
          · exact ⟨6, by omega, by omega, by rw [q]; decide⟩
          · exact ⟨7, by omega, by omega, by rw [q]; decide⟩
    · have h8 : ¬ nI X < (256 : Int32) := by exact fun q => c8 ((nlt (b := 256) (by omega) (by decide)).mp q)
      have t8 : ((nI X).toUInt32 >>> ((8 : Int32).toUInt32 &&& Int32.toUInt32 31)).toInt32 = nI (X / 256) := by exact nu8 (by omega)
      by_cases c4 : X / 256 < 16
      · have h4 : ((nI X).toUInt32 >>> ((8 : Int32).toUInt32 &&& Int32.toUInt32 31)).toInt32 < (16 : Int32) := by rw [t8]; exact (nlt (b := 16) (by omega) (by decide)).mpr c4
        by_cases c2 : X / 256 < 4
        · have h2 : ((nI X).toUInt32 >>> ((8 : Int32).toUInt32 &&& Int32.toUInt32 31)).toInt32 < (4 : Int32) := by rw [t8]; exact (nlt (b := 4) (by omega) (by decide)).mpr c2
          have tL : ((((nI X).toUInt32 >>> ((8 : Int32).toUInt32 &&& Int32.toUInt32 31)).toInt32).toUInt32 >>> ((1 : Int32).toUInt32 &&& Int32.toUInt32 31)).toInt32 = nI (X / 256 / 2) := by
            rw [t8]
            exact nu1 (by omega)
          have e : f_JI_numberOfLeadingZeros (nI X) = 23 - ((((nI X).toUInt32 >>> ((8 : Int32).toUInt32 &&& Int32.toUInt32 31)).toInt32).toUInt32 >>> ((1 : Int32).toUInt32 &&& Int32.toUInt32 31)).toInt32 := (if_pos hp).trans ((if_pos h16).trans ((if_neg h8).trans ((if_pos h4).trans ((if_pos h2).trans (rfl)))))
          rw [e, tL]
          rcases (show X / 256 / 2 = 0 ∨ X / 256 / 2 = 1 by omega) with q | q
          · exact ⟨8, by omega, by omega, by rw [q]; decide⟩
          · exact ⟨9, by omega, by omega, by rw [q]; decide⟩
        · have h2 : ¬ ((nI X).toUInt32 >>> ((8 : Int32).toUInt32 &&& Int32.toUInt32 31)).toInt32 < (4 : Int32) := by rw [t8]; exact fun q => c2 ((nlt (b := 4) (by omega) (by decide)).mp q)
          have t2 : ((((nI X).toUInt32 >>> ((8 : Int32).toUInt32 &&& Int32.toUInt32 31)).toInt32).toUInt32 >>> ((2 : Int32).toUInt32 &&& Int32.toUInt32 31)).toInt32 = nI (X / 256 / 4) := by rw [t8]; exact nu2 (by omega)
          have tL : ((((((nI X).toUInt32 >>> ((8 : Int32).toUInt32 &&& Int32.toUInt32 31)).toInt32).toUInt32 >>> ((2 : Int32).toUInt32 &&& Int32.toUInt32 31)).toInt32).toUInt32 >>> ((1 : Int32).toUInt32 &&& Int32.toUInt32 31)).toInt32 = nI (X / 256 / 4 / 2) := by
            rw [t2]
            exact nu1 (by omega)
          have e : f_JI_numberOfLeadingZeros (nI X) = 21 - ((((((nI X).toUInt32 >>> ((8 : Int32).toUInt32 &&& Int32.toUInt32 31)).toInt32).toUInt32 >>> ((2 : Int32).toUInt32 &&& Int32.toUInt32 31)).toInt32).toUInt32 >>> ((1 : Int32).toUInt32 &&& Int32.toUInt32 31)).toInt32 := (if_pos hp).trans ((if_pos h16).trans ((if_neg h8).trans ((if_pos h4).trans ((if_neg h2).trans (rfl)))))
          rw [e, tL]
          rcases (show X / 256 / 4 / 2 = 0 ∨ X / 256 / 4 / 2 = 1 by omega) with q | q
          · exact ⟨10, by omega, by omega, by rw [q]; decide⟩
          · exact ⟨11, by omega, by omega, by rw [q]; decide⟩
      · have h4 : ¬ ((nI X).toUInt32 >>> ((8 : Int32).toUInt32 &&& Int32.toUInt32 31)).toInt32 < (16 : Int32) := by rw [t8]; exact fun q => c4 ((nlt (b := 16) (by omega) (by decide)).mp q)
        have t4 : ((((nI X).toUInt32 >>> ((8 : Int32).toUInt32 &&& Int32.toUInt32 31)).toInt32).toUInt32 >>> ((4 : Int32).toUInt32 &&& Int32.toUInt32 31)).toInt32 = nI (X / 256 / 16) := by rw [t8]; exact nu4 (by omega)
        by_cases c2 : X / 256 / 16 < 4
        · have h2 : ((((nI X).toUInt32 >>> ((8 : Int32).toUInt32 &&& Int32.toUInt32 31)).toInt32).toUInt32 >>> ((4 : Int32).toUInt32 &&& Int32.toUInt32 31)).toInt32 < (4 : Int32) := by rw [t4]; exact (nlt (b := 4) (by omega) (by decide)).mpr c2
          have tL : ((((((nI X).toUInt32 >>> ((8 : Int32).toUInt32 &&& Int32.toUInt32 31)).toInt32).toUInt32 >>> ((4 : Int32).toUInt32 &&& Int32.toUInt32 31)).toInt32).toUInt32 >>> ((1 : Int32).toUInt32 &&& Int32.toUInt32 31)).toInt32 = nI (X / 256 / 16 / 2) := by
            rw [t4]
            exact nu1 (by omega)
          have e : f_JI_numberOfLeadingZeros (nI X) = 19 - ((((((nI X).toUInt32 >>> ((8 : Int32).toUInt32 &&& Int32.toUInt32 31)).toInt32).toUInt32 >>> ((4 : Int32).toUInt32 &&& Int32.toUInt32 31)).toInt32).toUInt32 >>> ((1 : Int32).toUInt32 &&& Int32.toUInt32 31)).toInt32 := (if_pos hp).trans ((if_pos h16).trans ((if_neg h8).trans ((if_neg h4).trans ((if_pos h2).trans (rfl)))))
          rw [e, tL]
          rcases (show X / 256 / 16 / 2 = 0 ∨ X / 256 / 16 / 2 = 1 by omega) with q | q
          · exact ⟨12, by omega, by omega, by rw [q]; decide⟩
          · exact ⟨13, by omega, by omega, by rw [q]; decide⟩
        · have h2 : ¬ ((((nI X).toUInt32 >>> ((8 : Int32).toUInt32 &&& Int32.toUInt32 31)).toInt32).toUInt32 >>> ((4 : Int32).toUInt32 &&& Int32.toUInt32 31)).toInt32 < (4 : Int32) := by rw [t4]; exact fun q => c2 ((nlt (b := 4) (by omega) (by decide)).mp q)
          have t2 : ((((((nI X).toUInt32 >>> ((8 : Int32).toUInt32 &&& Int32.toUInt32 31)).toInt32).toUInt32 >>> ((4 : Int32).toUInt32 &&& Int32.toUInt32 31)).toInt32).toUInt32 >>> ((2 : Int32).toUInt32 &&& Int32.toUInt32 31)).toInt32 = nI (X / 256 / 16 / 4) := by rw [t4]; exact nu2 (by omega)
          have tL : ((((((((nI X).toUInt32 >>> ((8 : Int32).toUInt32 &&& Int32.toUInt32 31)).toInt32).toUInt32 >>> ((4 : Int32).toUInt32 &&& Int32.toUInt32 31)).toInt32).toUInt32 >>> ((2 : Int32).toUInt32 &&& Int32.toUInt32 31)).toInt32).toUInt32 >>> ((1 : Int32).toUInt32 &&& Int32.toUInt32 31)).toInt32 = nI (X / 256 / 16 / 4 / 2) := by
            rw [t2]
            exact nu1 (by omega)
          have e : f_JI_numberOfLeadingZeros (nI X) = 17 - ((((((((nI X).toUInt32 >>> ((8 : Int32).toUInt32 &&& Int32.toUInt32 31)).toInt32).toUInt32 >>> ((4 : Int32).toUInt32 &&& Int32.toUInt32 31)).toInt32).toUInt32 >>> ((2 : Int32).toUInt32 &&& Int32.toUInt32 31)).toInt32).toUInt32 >>> ((1 : Int32).toUInt32 &&& Int32.toUInt32 31)).toInt32 := (if_pos hp).trans ((if_pos h16).trans ((if_neg h8).trans ((if_neg h4).trans ((if_neg h2).trans (rfl)))))
          rw [e, tL]
          rcases (show X / 256 / 16 / 4 / 2 = 0 ∨ X / 256 / 16 / 4 / 2 = 1 by omega) with q | q
          · exact ⟨14, by omega, by omega, by rw [q]; decide⟩
          · exact ⟨15, by omega, by omega, by rw [q]; decide⟩
  · have h16 : ¬ nI X < (65536 : Int32) := by exact fun q => c16 ((nlt (b := 65536) (by omega) (by decide)).mp q)
    have t16 : ((nI X).toUInt32 >>> ((16 : Int32).toUInt32 &&& Int32.toUInt32 31)).toInt32 = nI (X / 65536) := by exact nu16 (by omega)
    by_cases c8 : X / 65536 < 256
    · have h8 : ((nI X).toUInt32 >>> ((16 : Int32).toUInt32 &&& Int32.toUInt32 31)).toInt32 < (256 : Int32) := by rw [t16]; exact (nlt (b := 256) (by omega) (by decide)).mpr c8
      by_cases c4 : X / 65536 < 16
      · have h4 : ((nI X).toUInt32 >>> ((16 : Int32).toUInt32 &&& Int32.toUInt32 31)).toInt32 < (16 : Int32) := by rw [t16]; exact (nlt (b := 16) (by omega) (by decide)).mpr c4
        by_cases c2 : X / 65536 < 4
        · have h2 : ((nI X).toUInt32 >>> ((16 : Int32).toUInt32 &&& Int32.toUInt32 31)).toInt32 < (4 : Int32) := by rw [t16]; exact (nlt (b := 4) (by omega) (by decide)).mpr c2
          have tL : ((((nI X).toUInt32 >>> ((16 : Int32).toUInt32 &&& Int32.toUInt32 31)).toInt32).toUInt32 >>> ((1 : Int32).toUInt32 &&& Int32.toUInt32 31)).toInt32 = nI (X / 65536 / 2) := by
            rw [t16]
            exact nu1 (by omega)
          have e : f_JI_numberOfLeadingZeros (nI X) = 15 - ((((nI X).toUInt32 >>> ((16 : Int32).toUInt32 &&& Int32.toUInt32 31)).toInt32).toUInt32 >>> ((1 : Int32).toUInt32 &&& Int32.toUInt32 31)).toInt32 := (if_pos hp).trans ((if_neg h16).trans ((if_pos h8).trans ((if_pos h4).trans ((if_pos h2).trans (rfl)))))
          rw [e, tL]
          rcases (show X / 65536 / 2 = 0 ∨ X / 65536 / 2 = 1 by omega) with q | q
          · exact ⟨16, by omega, by omega, by rw [q]; decide⟩
          · exact ⟨17, by omega, by omega, by rw [q]; decide⟩
        · have h2 : ¬ ((nI X).toUInt32 >>> ((16 : Int32).toUInt32 &&& Int32.toUInt32 31)).toInt32 < (4 : Int32) := by rw [t16]; exact fun q => c2 ((nlt (b := 4) (by omega) (by decide)).mp q)
          have t2 : ((((nI X).toUInt32 >>> ((16 : Int32).toUInt32 &&& Int32.toUInt32 31)).toInt32).toUInt32 >>> ((2 : Int32).toUInt32 &&& Int32.toUInt32 31)).toInt32 = nI (X / 65536 / 4) := by rw [t16]; exact nu2 (by omega)
          have tL : ((((((nI X).toUInt32 >>> ((16 : Int32).toUInt32 &&& Int32.toUInt32 31)).toInt32).toUInt32 >>> ((2 : Int32).toUInt32 &&& Int32.toUInt32 31)).toInt32).toUInt32 >>> ((1 : Int32).toUInt32 &&& Int32.toUInt32 31)).toInt32 = nI (X / 65536 / 4 / 2) := by
            rw [t2]
            exact nu1 (by omega)
          have e : f_JI_numberOfLeadingZeros (nI X) = 13 - ((((((nI X).toUInt32 >>> ((16 : Int32).toUInt32 &&& Int32.toUInt32 31)).toInt32).toUInt32 >>> ((2 : Int32).toUInt32 &&& Int32.toUInt32 31)).toInt32).toUInt32 >>> ((1 : Int32).toUInt32 &&& Int32.toUInt32 31)).toInt32 := (if_pos hp).trans ((if_neg h16).trans ((if_pos h8).trans ((if_pos h4).trans ((if_neg h2).trans (rfl)))))
          rw [e, tL]
          rcases (show X / 65536 / 4 / 2 = 0 ∨ X / 65536 / 4 / 2 = 1 by omega) with q | q
          · exact ⟨18, by omega, by omega, by rw [q]; decide⟩
          · exact ⟨19, by omega, by omega, by rw [q]; decide⟩
      · have h4 : ¬ ((nI X).toUInt32 >>> ((16 : Int32).toUInt32 &&& Int32.toUInt32 31)).toInt32 < (16 : Int32) := by rw [t16]; exact fun q => c4 ((nlt (b := 16) (by omega) (by decide)).mp q)
        have t4 : ((((nI X).toUInt32 >>> ((16 : Int32).toUInt32 &&& Int32.toUInt32 31)).toInt32).toUInt32 >>> ((4 : Int32).toUInt32 &&& Int32.toUInt32 31)).toInt32 = nI (X / 65536 / 16) := by rw [t16]; exact nu4 (by omega)
        by_cases c2 : X / 65536 / 16 < 4
        · have h2 : ((((nI X).toUInt32 >>> ((16 : Int32).toUInt32 &&& Int32.toUInt32 31)).toInt32).toUInt32 >>> ((4 : Int32).toUInt32 &&& Int32.toUInt32 31)).toInt32 < (4 : Int32) := by rw [t4]; exact (nlt (b := 4) (by omega) (by decide)).mpr c2
          have tL : ((((((nI X).toUInt32 >>> ((16 : Int32).toUInt32 &&& Int32.toUInt32 31)).toInt32).toUInt32 >>> ((4 : Int32).toUInt32 &&& Int32.toUInt32 31)).toInt32).toUInt32 >>> ((1 : Int32).toUInt32 &&& Int32.toUInt32 31)).toInt32 = nI (X / 65536 / 16 / 2) := by
            rw [t4]
            exact nu1 (by omega)
          have e : f_JI_numberOfLeadingZeros (nI X) = 11 - ((((((nI X).toUInt32 >>> ((16 : Int32).toUInt32 &&& Int32.toUInt32 31)).toInt32).toUInt32 >>> ((4 : Int32).toUInt32 &&& Int32.toUInt32 31)).toInt32).toUInt32 >>> ((1 : Int32).toUInt32 &&& Int32.toUInt32 31)).toInt32 := (if_pos hp).trans ((if_neg h16).trans ((if_pos h8).trans ((if_neg h4).trans ((if_pos h2).trans (rfl)))))
          rw [e, tL]
          rcases (show X / 65536 / 16 / 2 = 0 ∨ X / 65536 / 16 / 2 = 1 by omega) with q | q
          · exact ⟨20, by omega, by omega, by rw [q]; decide⟩
          · exact ⟨21, by omega, by omega, by rw [q]; decide⟩
        · have h2 : ¬ ((((nI X).toUInt32 >>> ((16 : Int32).toUInt32 &&& Int32.toUInt32 31)).toInt32).toUInt32 >>> ((4 : Int32).toUInt32 &&& Int32.toUInt32 31)).toInt32 < (4 : Int32) := by rw [t4]; exact fun q => c2 ((nlt (b := 4) (by omega) (by decide)).mp q)
          have t2 : ((((((nI X).toUInt32 >>> ((16 : Int32).toUInt32 &&& Int32.toUInt32 31)).toInt32).toUInt32 >>> ((4 : Int32).toUInt32 &&& Int32.toUInt32 31)).toInt32).toUInt32 >>> ((2 : Int32).toUInt32 &&& Int32.toUInt32 31)).toInt32 = nI (X / 65536 / 16 / 4) := by rw [t4]; exact nu2 (by omega)
          have tL : ((((((((nI X).toUInt32 >>> ((16 : Int32).toUInt32 &&& Int32.toUInt32 31)).toInt32).toUInt32 >>> ((4 : Int32).toUInt32 &&& Int32.toUInt32 31)).toInt32).toUInt32 >>> ((2 : Int32).toUInt32 &&& Int32.toUInt32 31)).toInt32).toUInt32 >>> ((1 : Int32).toUInt32 &&& Int32.toUInt32 31)).toInt32 = nI (X / 65536 / 16 / 4 / 2) := by
            rw [t2]
            exact nu1 (by omega)
          have e : f_JI_numberOfLeadingZeros (nI X) = 9 - ((((((((nI X).toUInt32 >>> ((16 : Int32).toUInt32 &&& Int32.toUInt32 31)).toInt32).toUInt32 >>> ((4 : Int32).toUInt32 &&& Int32.toUInt32 31)).toInt32).toUInt32 >>> ((2 : Int32).toUInt32 &&& Int32.toUInt32 31)).toInt32).toUInt32 >>> ((1 : Int32).toUInt32 &&& Int32.toUInt32 31)).toInt32 := (if_pos hp).trans ((if_neg h16).trans ((if_pos h8).trans ((if_neg h4).trans ((if_neg h2).trans (rfl)))))
          rw [e, tL]
          rcases (show X / 65536 / 16 / 4 / 2 = 0 ∨ X / 65536 / 16 / 4 / 2 = 1 by omega) with q | q
          · exact ⟨22, by omega, by omega, by rw [q]; decide⟩
          · exact ⟨23, by omega, by omega, by rw [q]; decide⟩
    · have h8 : ¬ ((nI X).toUInt32 >>> ((16 : Int32).toUInt32 &&& Int32.toUInt32 31)).toInt32 < (256 : Int32) := by rw [t16]; exact fun q => c8 ((nlt (b := 256) (by omega) (by decide)).mp q)
      have t8 : ((((nI X).toUInt32 >>> ((16 : Int32).toUInt32 &&& Int32.toUInt32 31)).toInt32).toUInt32 >>> ((8 : Int32).toUInt32 &&& Int32.toUInt32 31)).toInt32 = nI (X / 65536 / 256) := by rw [t16]; exact nu8 (by omega)
      by_cases c4 : X / 65536 / 256 < 16
      · have h4 : ((((nI X).toUInt32 >>> ((16 : Int32).toUInt32 &&& Int32.toUInt32 31)).toInt32).toUInt32 >>> ((8 : Int32).toUInt32 &&& Int32.toUInt32 31)).toInt32 < (16 : Int32) := by rw [t8]; exact (nlt (b := 16) (by omega) (by decide)).mpr c4
        by_cases c2 : X / 65536 / 256 < 4
        · have h2 : ((((nI X).toUInt32 >>> ((16 : Int32).toUInt32 &&& Int32.toUInt32 31)).toInt32).toUInt32 >>> ((8 : Int32).toUInt32 &&& Int32.toUInt32 31)).toInt32 < (4 : Int32) := by rw [t8]; exact (nlt (b := 4) (by omega) (by decide)).mpr c2
          have tL : ((((((nI X).toUInt32 >>> ((16 : Int32).toUInt32 &&& Int32.toUInt32 31)).toInt32).toUInt32 >>> ((8 : Int32).toUInt32 &&& Int32.toUInt32 31)).toInt32).toUInt32 >>> ((1 : Int32).toUInt32 &&& Int32.toUInt32 31)).toInt32 = nI (X / 65536 / 256 / 2) := by
            rw [t8]
            exact nu1 (by omega)
          have e : f_JI_numberOfLeadingZeros (nI X) = 7 - ((((((nI X).toUInt32 >>> ((16 : Int32).toUInt32 &&& Int32.toUInt32 31)).toInt32).toUInt32 >>> ((8 : Int32).toUInt32 &&& Int32.toUInt32 31)).toInt32).toUInt32 >>> ((1 : Int32).toUInt32 &&& Int32.toUInt32 31)).toInt32 := (if_pos hp).trans ((if_neg h16).trans ((if_neg h8).trans ((if_pos h4).trans ((if_pos h2).trans (rfl)))))
          rw [e, tL]
          rcases (show X / 65536 / 256 / 2 = 0 ∨ X / 65536 / 256 / 2 = 1 by omega) with q | q
          · exact ⟨24, by omega, by omega, by rw [q]; decide⟩
          · exact ⟨25, by omega, by omega, by rw [q]; decide⟩
        · have h2 : ¬ ((((nI X).toUInt32 >>> ((16 : Int32).toUInt32 &&& Int32.toUInt32 31)).toInt32).toUInt32 >>> ((8 : Int32).toUInt32 &&& Int32.toUInt32 31)).toInt32 < (4 : Int32) := by rw [t8]; exact fun q => c2 ((nlt (b := 4) (by omega) (by decide)).mp q)
          have t2 : ((((((nI X).toUInt32 >>> ((16 : Int32).toUInt32 &&& Int32.toUInt32 31)).toInt32).toUInt32 >>> ((8 : Int32).toUInt32 &&& Int32.toUInt32 31)).toInt32).toUInt32 >>> ((2 : Int32).toUInt32 &&& Int32.toUInt32 31)).toInt32 = nI (X / 65536 / 256 / 4) := by rw [t8]; exact nu2 (by omega)
          have tL : ((((((((nI X).toUInt32 >>> ((16 : Int32).toUInt32 &&& Int32.toUInt32 31)).toInt32).toUInt32 >>> ((8 : Int32).toUInt32 &&& Int32.toUInt32 31)).toInt32).toUInt32 >>> ((2 : Int32).toUInt32 &&& Int32.toUInt32 31)).toInt32).toUInt32 >>> ((1 : Int32).toUInt32 &&& Int32.toUInt32 31)).toInt32 = nI (X / 65536 / 256 / 4 / 2) := by
            rw [t2]
            exact nu1 (by omega)
          have e : f_JI_numberOfLeadingZeros (nI X) = 5 - ((((((((nI X).toUInt32 >>> ((16 : Int32).toUInt32 &&& Int32.toUInt32 31)).toInt32).toUInt32 >>> ((8 : Int32).toUInt32 &&& Int32.toUInt32 31)).toInt32).toUInt32 >>> ((2 : Int32).toUInt32 &&& Int32.toUInt32 31)).toInt32).toUInt32 >>> ((1 : Int32).toUInt32 &&& Int32.toUInt32 31)).toInt32 := (if_pos hp).trans ((if_neg h16).trans ((if_neg h8).trans ((if_pos h4).trans ((if_neg h2).trans (rfl)))))
          rw [e, tL]
          rcases (show X / 65536 / 256 / 4 / 2 = 0 ∨ X / 65536 / 256 / 4 / 2 = 1 by omega) with q | q
          · exact ⟨26, by omega, by omega, by rw [q]; decide⟩
          · exact ⟨27, by omega, by omega, by rw [q]; decide⟩
      · have h4 : ¬ ((((nI X).toUInt32 >>> ((16 : Int32).toUInt32 &&& Int32.toUInt32 31)).toInt32).toUInt32 >>> ((8 : Int32).toUInt32 &&& Int32.toUInt32 31)).toInt32 < (16 : Int32) := by rw [t8]; exact fun q => c4 ((nlt (b := 16) (by omega) (by decide)).mp q)
        have t4 : ((((((nI X).toUInt32 >>> ((16 : Int32).toUInt32 &&& Int32.toUInt32 31)).toInt32).toUInt32 >>> ((8 : Int32).toUInt32 &&& Int32.toUInt32 31)).toInt32).toUInt32 >>> ((4 : Int32).toUInt32 &&& Int32.toUInt32 31)).toInt32 = nI (X / 65536 / 256 / 16) := by rw [t8]; exact nu4 (by omega)
        by_cases c2 : X / 65536 / 256 / 16 < 4
        · have h2 : ((((((nI X).toUInt32 >>> ((16 : Int32).toUInt32 &&& Int32.toUInt32 31)).toInt32).toUInt32 >>> ((8 : Int32).toUInt32 &&& Int32.toUInt32 31)).toInt32).toUInt32 >>> ((4 : Int32).toUInt32 &&& Int32.toUInt32 31)).toInt32 < (4 : Int32) := by rw [t4]; exact (nlt (b := 4) (by omega) (by decide)).mpr c2
          have tL : ((((((((nI X).toUInt32 >>> ((16 : Int32).toUInt32 &&& Int32.toUInt32 31)).toInt32).toUInt32 >>> ((8 : Int32).toUInt32 &&& Int32.toUInt32 31)).toInt32).toUInt32 >>> ((4 : Int32).toUInt32 &&& Int32.toUInt32 31)).toInt32).toUInt32 >>> ((1 : Int32).toUInt32 &&& Int32.toUInt32 31)).toInt32 = nI (X / 65536 / 256 / 16 / 2) := by
            rw [t4]
            exact nu1 (by omega)
          have e : f_JI_numberOfLeadingZeros (nI X) = 3 - ((((((((nI X).toUInt32 >>> ((16 : Int32).toUInt32 &&& Int32.toUInt32 31)).toInt32).toUInt32 >>> ((8 : Int32).toUInt32 &&& Int32.toUInt32 31)).toInt32).toUInt32 >>> ((4 : Int32).toUInt32 &&& Int32.toUInt32 31)).toInt32).toUInt32 >>> ((1 : Int32).toUInt32 &&& Int32.toUInt32 31)).toInt32 := (if_pos hp).trans ((if_neg h16).trans ((if_neg h8).trans ((if_neg h4).trans ((if_pos h2).trans (rfl)))))
          rw [e, tL]
          rcases (show X / 65536 / 256 / 16 / 2 = 0 ∨ X / 65536 / 256 / 16 / 2 = 1 by omega) with q | q
          · exact ⟨28, by omega, by omega, by rw [q]; decide⟩
          · exact ⟨29, by omega, by omega, by rw [q]; decide⟩
        · have h2 : ¬ ((((((nI X).toUInt32 >>> ((16 : Int32).toUInt32 &&& Int32.toUInt32 31)).toInt32).toUInt32 >>> ((8 : Int32).toUInt32 &&& Int32.toUInt32 31)).toInt32).toUInt32 >>> ((4 : Int32).toUInt32 &&& Int32.toUInt32 31)).toInt32 < (4 : Int32) := by rw [t4]; exact fun q => c2 ((nlt (b := 4) (by omega) (by decide)).mp q)
          have t2 : ((((((((nI X).toUInt32 >>> ((16 : Int32).toUInt32 &&& Int32.toUInt32 31)).toInt32).toUInt32 >>> ((8 : Int32).toUInt32 &&& Int32.toUInt32 31)).toInt32).toUInt32 >>> ((4 : Int32).toUInt32 &&& Int32.toUInt32 31)).toInt32).toUInt32 >>> ((2 : Int32).toUInt32 &&& Int32.toUInt32 31)).toInt32 = nI (X / 65536 / 256 / 16 / 4) := by rw [t4]; exact nu2 (by omega)
          have tL : ((((((((((nI X).toUInt32 >>> ((16 : Int32).toUInt32 &&& Int32.toUInt32 31)).toInt32).toUInt32 >>> ((8 : Int32).toUInt32 &&& Int32.toUInt32 31)).toInt32).toUInt32 >>> ((4 : Int32).toUInt32 &&& Int32.toUInt32 31)).toInt32).toUInt32 >>> ((2 : Int32).toUInt32 &&& Int32.toUInt32 31)).toInt32).toUInt32 >>> ((1 : Int32).toUInt32 &&& Int32.toUInt32 31)).toInt32 = nI (X / 65536 / 256 / 16 / 4 / 2) := by
            rw [t2]
            exact nu1 (by omega)
          have e : f_JI_numberOfLeadingZeros (nI X) = 1 - ((((((((((nI X).toUInt32 >>> ((16 : Int32).toUInt32 &&& Int32.toUInt32 31)).toInt32).toUInt32 >>> ((8 : Int32).toUInt32 &&& Int32.toUInt32 31)).toInt32).toUInt32 >>> ((4 : Int32).toUInt32 &&& Int32.toUInt32 31)).toInt32).toUInt32 >>> ((2 : Int32).toUInt32 &&& Int32.toUInt32 31)).toInt32).toUInt32 >>> ((1 : Int32).toUInt32 &&& Int32.toUInt32 31)).toInt32 := (if_pos hp).trans ((if_neg h16).trans ((if_neg h8).trans ((if_neg h4).trans ((if_neg h2).trans (rfl)))))
          rw [e, tL]
          rcases (show X / 65536 / 256 / 16 / 4 / 2 = 0 ∨ X / 65536 / 256 / 16 / 4 / 2 = 1 by omega) with q | q
          · exact ⟨30, by omega, by omega, by rw [q]; decide⟩
          · exact ⟨31, by omega, by omega, by rw [q]; decide⟩
theorem jn_any {X : Nat} (h0 : 0 < X) (h1 : X < 4294967296) : ∃ h, 2 ^ h ≤ X ∧ X < 2 ^ (h + 1) ∧ f_JI_numberOfLeadingZeros (nI X) = nI (31 - h) := by
  by_cases h2 : X < 2147483648
  · exact jn_pos h0 h2
  · refine ⟨31, by omega, by omega, ?_⟩
    have e1 : (nI X).toInt = (X : Int) - 4294967296 := by
      show (BitVec.ofNat 32 X).toInt = _
      rw [BitVec.toInt_eq_toNat_cond, BitVec.toNat_ofNat, Nat.mod_eq_of_lt h1]
      split <;> omega
    have e0 : (0 : Int32).toInt = 0 := by decide
    have hn : ¬ (0 : Int32) < nI X := by
      rw [Int32.lt_iff_toInt_lt, e1, e0]
      omega
    have hz : ¬ nI X = 0 := fun q => by
      rw [q, e0] at e1
      omega
    exact (if_neg hn).trans (if_neg hz)
theorem jl_hi (d : Int64) : ((d.toUInt64 >>> ((32 : Int32).toInt64.toUInt64 &&& Int64.toUInt64 63)).toInt64).toInt32 = nI (uN d / 4294967296) := by
  rw [uN_of ((d.toUInt64 >>> ((32 : Int32).toInt64.toUInt64 &&& Int64.toUInt64 63)).toInt64), uN_s32, lN_i]
theorem jl_lo (d : Int64) : d.toInt32 = nI (uN d) := by
  have h := lN_i (uN d)
  rw [← uN_of] at h
  exact h
theorem nI_m32 {n : Nat} : nI n = nI (n % 4294967296) := Int32.toBitVec_inj.mp (by
  show BitVec.ofNat 32 n = BitVec.ofNat 32 (n % 4294967296)
  apply BitVec.eq_of_toNat_eq
  rw [BitVec.toNat_ofNat, BitVec.toNat_ofNat, show (2 : Nat) ^ 32 = 4294967296 from by decide, Nat.mod_mod])
theorem nI_0iff {n : Nat} (h : n < 4294967296) : nI n = 0 ↔ n = 0 := by
  constructor
  · intro q
    have e : (nI n).toBitVec.toNat = n := by
      show (BitVec.ofNat 32 n).toNat = n
      rw [BitVec.toNat_ofNat]
      exact Nat.mod_eq_of_lt h
    rw [q] at e
    exact e.symm
  · intro q
    rw [q]
    rfl
theorem jl_nlz {d : Int64} (h0 : 0 < uN d) : ∃ h, h < 64 ∧ 2 ^ h ≤ uN d ∧ uN d < 2 ^ (h + 1) ∧ f_JL_numberOfLeadingZeros d = nI (63 - h) := by
  have hD := uN_lt d
  by_cases c : uN d / 4294967296 = 0
  · obtain ⟨h, a1, a2, a3⟩ := jn_any h0 (by omega)
    have hl : h < 32 := (Nat.pow_lt_pow_iff_right (a := 2) (by decide)).mp (Nat.lt_of_le_of_lt a1 (show uN d < 2 ^ 32 by omega))
    have e : f_JL_numberOfLeadingZeros d = 32 + f_JI_numberOfLeadingZeros d.toInt32 := if_pos (by rw [jl_hi, c]; rfl)
    refine ⟨h, by omega, a1, a2, ?_⟩
    rw [e, jl_lo, a3]
    show nI 32 + nI (31 - h) = nI (63 - h)
    rw [nI_add, show 63 - h = 32 + (31 - h) by omega]
  · obtain ⟨h, a1, a2, a3⟩ := jn_any (X := uN d / 4294967296) (by omega) (by omega)
    have hl : h < 32 := (Nat.pow_lt_pow_iff_right (a := 2) (by decide)).mp (Nat.lt_of_le_of_lt a1 (show uN d / 4294967296 < 2 ^ 32 by omega))
    have e : f_JL_numberOfLeadingZeros d = f_JI_numberOfLeadingZeros (((d.toUInt64 >>> ((32 : Int32).toInt64.toUInt64 &&& Int64.toUInt64 63)).toInt64).toInt32) := if_neg (by rw [jl_hi]; exact fun q => c ((nI_0iff (by omega)).mp q))
    have p1 : 2 ^ (h + 32) = 2 ^ h * 4294967296 := Nat.pow_add 2 h 32
    have p2 : 2 ^ (h + 32 + 1) = 2 ^ (h + 1) * 4294967296 := by rw [show h + 32 + 1 = (h + 1) + 32 by omega]; exact Nat.pow_add 2 (h + 1) 32
    refine ⟨h + 32, by omega, by rw [p1]; omega, by rw [p2]; omega, ?_⟩
    rw [e, jl_hi, a3, show 63 - (h + 32) = 31 - h by omega]
theorem ones_shr : ∀ h, h < 64 → (18446744073709551615 : Nat) / 2 ^ (63 - h) = 2 ^ (h + 1) - 1 := by decide +kernel
/-- the bits below the first place in which a and b differ, as the class has it -/
def x_open (d : Int64) : Int64 := if lg_cmp d 0 = 0 then 0 else (((-1) : Int64).toUInt64 >>> ((f_JL_numberOfLeadingZeros d).toInt64.toUInt64 &&& Int64.toUInt64 63)).toInt64
theorem x_open_sp (d : Int64) : pl_sp (uN d) (uN (x_open d)) := by
  unfold x_open
  by_cases c : lg_cmp d 0 = 0
  · rw [if_pos c]
    have e := (lg_cmp_eq _ _).mp c
    rw [e]
    exact Or.inl ⟨rfl, rfl⟩
  · rw [if_neg c]
    have h0 : 0 < uN d := by
      rcases Nat.eq_zero_or_pos (uN d) with q | q
      · exact absurd ((lg_cmp_eq _ _).mpr (uN_inj (show uN d = uN 0 from q))) c
      · exact q
    obtain ⟨h, hl, a1, a2, a3⟩ := jl_nlz h0
    rw [a3, uN_sk _ (by omega)]
    refine Or.inr ⟨h, a1, a2, ?_⟩
    have e : uN (-1) = 18446744073709551615 := by decide
    rw [e, ones_shr h hl]
theorem ml_places (a b : Int64) : f_M_places a b = x_open (a ^^^ b) := uN_inj (pl_un (pl_places a b) (x_open_sp (a ^^^ b)))
/-! toBits, a round, settling -/
section LSH
variable {a b c d e f : Int64}
theorem lsh_eq : f_X1_learnSharedHighBits (a, b, c, d, e, f) = if lg_cmp (((a ^^^ c) &&& (b ^^^ (-1))) &&& (x_open (c ^^^ d) ^^^ (-1))) 0 = 0 then (((a &&& x_open (c ^^^ d)) ||| (c &&& (x_open (c ^^^ d) ^^^ (-1))), b &&& x_open (c ^^^ d), c, d, e, f), 1) else ((a, b, c, d, e, f), 0) := by
  unfold f_X1_learnSharedHighBits x_open
  dsimp only
  by_cases h : lg_cmp (c ^^^ d) 0 = 0
  · simp only [if_pos h]
    rfl
  · simp only [if_neg h]
    rfl
theorem cr_eq {x y : Int64} : f_X1_isCrossed (x, y, c, d, e, f) = f_X1_isCrossed (a, b, c, d, e, f) := rfl
end LSH
theorem ml_toBits (st : Md) (i : Int32) (h : f_X1_isCrossed (md_at st i.toNatClampNeg) = 0) : f_M_toBits st i = (md_set st i.toNatClampNeg (f_X1_learnSharedHighBits (md_at st i.toNatClampNeg)).1, (f_X1_learnSharedHighBits (md_at st i.toNatClampNeg)).2) := by
  unfold f_M_toBits
  dsimp only
  simp only [ml_leaf, ml_places]
  rw [md_def st] at h ⊢
  rw [lsh_eq]
  by_cases c : lg_cmp (((st.1 i.toNatClampNeg ^^^ st.2.2.1 i.toNatClampNeg) &&& (st.2.1 i.toNatClampNeg ^^^ (-1))) &&& (x_open (st.2.2.1 i.toNatClampNeg ^^^ st.2.2.2.1 i.toNatClampNeg) ^^^ (-1))) 0 = 0
  · rw [if_pos c, if_pos c, md_12, md_at_set]
    have h2 : fl_ok ((st.1 i.toNatClampNeg &&& x_open (st.2.2.1 i.toNatClampNeg ^^^ st.2.2.2.1 i.toNatClampNeg)) ||| (st.2.2.1 i.toNatClampNeg &&& (x_open (st.2.2.1 i.toNatClampNeg ^^^ st.2.2.2.1 i.toNatClampNeg) ^^^ (-1))), st.2.1 i.toNatClampNeg &&& x_open (st.2.2.1 i.toNatClampNeg ^^^ st.2.2.2.1 i.toNatClampNeg), st.2.2.1 i.toNatClampNeg, st.2.2.2.1 i.toNatClampNeg, st.2.2.2.2.1 i.toNatClampNeg, st.2.2.2.2.2 i.toNatClampNeg) = 1 := by
      unfold fl_ok
      rw [cr_eq (a := st.1 i.toNatClampNeg) (b := st.2.1 i.toNatClampNeg), if_pos h]
    rw [h2]
  · rw [if_neg c, if_neg c, md_self]
