/-! WHAT HOLDS OF EVERY STATE: ln: how long the class's array of a store is; kd: the kind whose values lie in it -/
def zWin (σ : ZS) (ln : Nat → Nat) (i : Nat) : Prop := ∃ d fr sz pl en : Nat, zSI σ i = nI d ∧ zFR σ i = nI fr ∧ zSZ σ i = nI sz ∧ zPL σ i = nI pl ∧ zEN σ i = nI en ∧ d < 11 ∧ pl ≤ en ∧ en ≤ sz ∧ fr + sz ≤ ln d ∧ ln d ≤ 64 ∧ (zMK σ i = -1 ∨ ∃ k, k ≤ pl ∧ zMK σ i = nI k) ∧ (zRD σ i = 0 ∨ zRD σ i = 1)
def zKind (k : Int32) : Prop := k = 105 ∨ k = 108 ∨ k = 99 ∨ k = 115
def zI (σ : ZS) (ln : Nat → Nat) (kd : Nat → Int32) : Prop :=
  (∀ i, i < 8 → ¬ zK σ i = 0 → zWin σ ln i ∧ zKind (zK σ i) ∧ ∀ d, d < 11 → zSI σ i = nI d → kd d = zK σ i) ∧
  (∀ r, r < 2 → ∃ d, d < 11 ∧ zRS σ r = nI d ∧ zRL σ r = nI (ln d) ∧ ln d ≤ 64 ∧ kd d = 105) ∧
  ∀ d j, d < 11 → j < 64 → zcut (kd d) (zST σ (64 * d + j)) = zST σ (64 * d + j)
theorem vp_lt {w : Int32} {n : Nat} (h : vp_in w n) : Int32.toNatClampNeg w < n := Nat.not_le.mp fun q => h (Or.inr q)
theorem zI_win {σ : ZS} {ln : Nat → Nat} {kd : Nat → Int32} {w : Int32} (hI : zI σ ln kd) (h : zis σ w = true) : zWin σ ln (Int32.toNatClampNeg w) :=
  (hI.1 _ (vp_lt (zis_7 h)) (zis_t.mp h).2).1
theorem zAt_in {σ : ZS} {ln : Nat → Nat} {i : Nat} {at9 : Int32} (hw : zWin σ ln i) (h0 : ¬ at9 < 0) (h1 : at9 < zEN σ i) : vp_in (zAt σ i at9) 704 := by
  obtain ⟨d, fr, sz, pl, en, h2, h3, h4, h5, h6, h7, h8, h9, h10, h11, -⟩ := hw
  obtain ⟨k, hk, rfl⟩ := nI_of h0
  rw [h6, nI_ltI hk (by omega)] at h1
  have e : zAt σ i (nI k) = nI (64 * d + fr + k) := by
    unfold zAt
    rw [h2, h3, show (64 : Int32) = nI 64 from rfl, pk_mul, nI_add, nI_add]
  rw [e]
  exact vp_in_nI (by omega) (by omega)
theorem zWin_pl {σ : ZS} {ln : Nat → Nat} {i : Nat} (hw : zWin σ ln i) : ¬ zPL σ i < 0 ∧ (¬ zPL σ i = zEN σ i → zPL σ i < zEN σ i) := by
  obtain ⟨d, fr, sz, pl, en, h2, h3, h4, h5, h6, h7, h8, h9, h10, h11, -⟩ := hw
  rw [h5, h6]
  refine ⟨nI_pos (by omega), fun h => (nI_ltI (by omega) (by omega)).mpr ?_⟩
  rw [nI_eq (by omega) (by omega)] at h
  omega
theorem zWin_ix {σ : ZS} {ln : Nat → Nat} {i : Nat} {x : Int32} (hw : zWin σ ln i) (h : zin x 0 (zEN σ i - 1) = true) : ¬ x < 0 ∧ x < zEN σ i := by
  obtain ⟨d, fr, sz, pl, en, h2, h3, h4, h5, h6, h7, h8, h9, h10, h11, -⟩ := hw
  obtain ⟨h, h1⟩ := zin_t.mp h
  have h0 : ¬ x < 0 := Int32.not_lt.mpr h
  refine ⟨h0, ?_⟩
  obtain ⟨k, hk, rfl⟩ := nI_of h0
  rw [h6] at h1 ⊢
  by_cases he : en = 0
  · subst he
    have h7 : nI k ≤ (-1 : Int32) := h1
    have h8 : (nI k).toInt ≤ (-1 : Int32).toInt := Int32.le_iff_toInt_le.mp h7
    rw [nI_toInt hk] at h8
    have : (-1 : Int32).toInt = -1 := rfl
    omega
  · rw [show (1 : Int32) = nI 1 from rfl, pk_sub (by omega), nI_leI hk (by omega)] at h1
    exact (nI_ltI hk (by omega)).mpr (by omega)
theorem zWin_sg {σ : ZS} {ln : Nat → Nat} {i : Nat} {x : Int32} (hw : zWin σ ln i) (h : zin x 0 (zEN σ i - zPL σ i - 1) = true) : ¬ (zPL σ i + x) < 0 ∧ (zPL σ i + x) < zEN σ i := by
  obtain ⟨d, fr, sz, pl, en, h2, h3, h4, h5, h6, h7, h8, h9, h10, h11, -⟩ := hw
  obtain ⟨h, h1⟩ := zin_t.mp h
  have h0 : ¬ x < 0 := Int32.not_lt.mpr h
  obtain ⟨k, hk, rfl⟩ := nI_of h0
  rw [h6, h5, pk_sub h8] at h1
  by_cases he : en - pl = 0
  · rw [he] at h1
    have h7 : nI k ≤ (-1 : Int32) := h1
    have h8 : (nI k).toInt ≤ (-1 : Int32).toInt := Int32.le_iff_toInt_le.mp h7
    rw [nI_toInt hk] at h8
    have : (-1 : Int32).toInt = -1 := rfl
    omega
  · rw [show (1 : Int32) = nI 1 from rfl, pk_sub (by omega), nI_leI hk (by omega)] at h1
    rw [h5, h6, nI_add]
    exact ⟨nI_pos (by omega), (nI_ltI (by omega) (by omega)).mpr (by omega)⟩
theorem zI_rowix {σ : ZS} {ln : Nat → Nat} {kd : Nat → Int32} {w x : Int32} (hI : zI σ ln kd) (h : zin w 0 1 = true) (h1 : zin x 0 (zRL σ (Int32.toNatClampNeg w) - 1) = true) : ∃ d k, d < 11 ∧ k < ln d ∧ ln d ≤ 64 ∧ zRS σ (Int32.toNatClampNeg w) = nI d ∧ x = nI k ∧ 64 * zRS σ (Int32.toNatClampNeg w) + x = nI (64 * d + k) ∧ zRL σ (Int32.toNatClampNeg w) = nI (ln d) := by
  obtain ⟨d, h2, h3, h4, h5, -⟩ := hI.2.1 _ (vp_lt (zin_1 h))
  obtain ⟨h6, h7⟩ := zin_t.mp h1
  have h0 : ¬ x < 0 := Int32.not_lt.mpr h6
  obtain ⟨k, hk, rfl⟩ := nI_of h0
  rw [h4] at h7
  by_cases he : ln d = 0
  · rw [he] at h7
    have h7 : nI k ≤ (-1 : Int32) := h7
    have h8 : (nI k).toInt ≤ (-1 : Int32).toInt := Int32.le_iff_toInt_le.mp h7
    rw [nI_toInt hk] at h8
    have : (-1 : Int32).toInt = -1 := rfl
    omega
  · rw [show (1 : Int32) = nI 1 from rfl, pk_sub (by omega), nI_leI hk (by omega)] at h7
    refine ⟨d, k, h2, by omega, h5, h3, rfl, ?_, h4⟩
    rw [h3, show (64 : Int32) = nI 64 from rfl, pk_mul, nI_add]
theorem zI_row {σ : ZS} {ln : Nat → Nat} {kd : Nat → Int32} {w x : Int32} (hI : zI σ ln kd) (h : zin w 0 1 = true ∧ zin x 0 (zRL σ (Int32.toNatClampNeg w) - 1) = true) : vp_in (64 * zRS σ (Int32.toNatClampNeg w) + x) 704 := by
  obtain ⟨d, k, h1, h2, h3, h4, h5, h6, -⟩ := zI_rowix hI h.1 h.2
  rw [h6]
  exact vp_in_nI (by omega) (by omega)
theorem zAt_inc {σ : ZS} {ln : Nat → Nat} {i : Nat} (hw : zWin σ ln i) (hne : ¬ zPL σ i = zEN σ i) : vp_in (zAt (zsPL σ (upd (zPL σ) i (zPL σ i + 1))) i (zPL (zsPL σ (upd (zPL σ) i (zPL σ i + 1))) i - 1)) 704 := by
  have e : (zPL (zsPL σ (upd (zPL σ) i (zPL σ i + 1))) i - 1) = zPL σ i := by
    show upd (zPL σ) i (zPL σ i + 1) i - 1 = zPL σ i
    rw [pk_us, Int32.add_sub_cancel]
  rw [e]
  show vp_in (zAt σ i (zPL σ i)) 704
  exact zAt_in hw (zWin_pl hw).1 ((zWin_pl hw).2 hne)
