theorem zge1 {σ : ZS} {ln : Nat → Nat} {i : Nat} (hw : zWin σ ln i) : 1 ≤ zEN σ i - zPL σ i ↔ ¬ zPL σ i = zEN σ i := by
  obtain ⟨d, fr, sz, pl, en, h2, h3, h4, h5, h6, h7, h8, h9, h10, h11, -⟩ := hw
  rw [h5, h6, pk_sub h8, show (1 : Int32) = nI 1 from rfl, nI_leI (by omega) (by omega), nI_eq (by omega) (by omega)]
  omega
theorem zin_ix {σ : ZS} {ln : Nat → Nat} {i : Nat} {x : Int32} (hw : zWin σ ln i) : zin x 0 (zEN σ i - 1) = true ↔ ¬ x < 0 ∧ x < zEN σ i := by
  constructor
  · exact zWin_ix hw
  · rintro ⟨h0, h1⟩
    obtain ⟨d, fr, sz, pl, en, h2, h3, h4, h5, h6, h7, h8, h9, h10, h11, -⟩ := hw
    obtain ⟨k, hk, rfl⟩ := nI_of h0
    rw [h6, nI_ltI hk (by omega)] at h1
    rw [zin_t, h6, show (1 : Int32) = nI 1 from rfl, pk_sub (by omega)]
    exact ⟨nI_pos' hk, (nI_leI hk (by omega)).mpr (by omega)⟩
theorem zin_sg {σ : ZS} {ln : Nat → Nat} {i : Nat} {x : Int32} (hw : zWin σ ln i) : zin x 0 (zEN σ i - zPL σ i - 1) = true ↔ ¬ x < 0 ∧ x < zEN σ i - zPL σ i := by
  obtain ⟨d, fr, sz, pl, en, h2, h3, h4, h5, h6, h7, h8, h9, h10, h11, -⟩ := hw
  rw [zin_t, h5, h6, pk_sub h8]
  constructor
  · rintro ⟨h0, h1⟩
    have h0 := Int32.not_lt.mpr h0
    refine ⟨h0, ?_⟩
    obtain ⟨k, hk, rfl⟩ := nI_of h0
    by_cases he : en - pl = 0
    · rw [he] at h1
      have h7 : nI k ≤ (-1 : Int32) := h1
      have h8 : (nI k).toInt ≤ (-1 : Int32).toInt := Int32.le_iff_toInt_le.mp h7
      rw [nI_toInt hk] at h8
      have : (-1 : Int32).toInt = -1 := rfl
      omega
    · rw [show (1 : Int32) = nI 1 from rfl, pk_sub (by omega), nI_leI hk (by omega)] at h1
      exact (nI_ltI hk (by omega)).mpr (by omega)
  · rintro ⟨h0, h1⟩
    obtain ⟨k, hk, rfl⟩ := nI_of h0
    rw [nI_ltI hk (by omega)] at h1
    rw [show (1 : Int32) = nI 1 from rfl, pk_sub (by omega)]
    exact ⟨nI_pos' hk, (nI_leI hk (by omega)).mpr (by omega)⟩
theorem zlt0 {σ : ZS} {ln : Nat → Nat} {i : Nat} (hw : zWin σ ln i) : zEN σ i - zPL σ i ≤ 0 ↔ zEN σ i ≤ zPL σ i := by
  obtain ⟨d, fr, sz, pl, en, h2, h3, h4, h5, h6, h7, h8, h9, h10, h11, -⟩ := hw
  rw [h5, h6, pk_sub h8, show (0 : Int32) = nI 0 from rfl, nI_leI (by omega) (by omega), nI_leI (by omega) (by omega)]
  omega
theorem zW_nat {σ : ZS} {ln : Nat → Nat} {i : Nat} (hw : zWin σ ln i) : ∃ s p e, zSZ σ i = nI s ∧ zPL σ i = nI p ∧ zEN σ i = nI e ∧ p ≤ e ∧ e ≤ s ∧ s ≤ 64 ∧ (zMK σ i = -1 ∨ ∃ k, k ≤ p ∧ zMK σ i = nI k) := by
  obtain ⟨d, fr, sz, pl, en, h2, h3, h4, h5, h6, h7, h8, h9, h10, h11, h12, -⟩ := hw
  exact ⟨sz, pl, en, h4, h5, h6, h8, h9, by omega, h12⟩
theorem zin_n {x : Int32} {n : Nat} (hn : n ≤ 64) (h : zin x 0 (nI n) = true) : ∃ q, q ≤ n ∧ x = nI q := by
  obtain ⟨h0, h1⟩ := zin_t.mp h
  obtain ⟨k, hk, rfl⟩ := nI_of (Int32.not_lt.mpr h0)
  exact ⟨k, (nI_leI hk (by omega)).mp h1, rfl⟩
/-- where a place of a window lies in the class's row, and in the reference's -/
theorem zH_at {g : zG} {P : Nat → Prop} {σ : ZS} {L : List Nat} {f : Nat → va_E} {ah : Nat → Nat} {G Rw : Nat → Option Nat} {rs : Nat → Nat} {wn : Nat → ZW} {ad ln : Nat → Nat} {kd : Nat → Int32} {ct : Nat → Nat → Int64} (H : zHR g P σ L f ah G Rw rs wn ad ln kd ct) {w : Int32} (h : zis σ w = true) {d : Nat} (hd : zSI σ (Int32.toNatClampNeg w) = nI d) (hd1 : d < 11) {x : Int32} (h0 : ¬ x < 0) (h1 : x < zEN σ (Int32.toNatClampNeg w)) :
    ∃ j, j < ln d ∧ ln d ≤ 64 ∧ zFR σ (Int32.toNatClampNeg w) + x = nI j ∧ zAt σ (Int32.toNatClampNeg w) x = nI (64 * d + j) ∧ vp_in (zFR σ (Int32.toNatClampNeg w) + x) (ln d) ∧ Int32.toNatClampNeg (zFR σ (Int32.toNatClampNeg w) + x) = j ∧ Int32.toNatClampNeg (zAt σ (Int32.toNatClampNeg w) x) = 64 * d + j := by
  obtain ⟨d2, fr, sz, pl, en, h2, h3, h4, h5, h6, h7, h8, h9, h10, h11, -⟩ := zI_win H.I h
  obtain ⟨k, hk, rfl⟩ := nI_of h0
  rw [h6, nI_ltI hk (by omega)] at h1
  rw [hd, nI_eq (by omega) (by omega)] at h2
  subst h2
  have e1 : zFR σ (Int32.toNatClampNeg w) + nI k = nI (fr + k) := by rw [h3, nI_add]
  have e2 : zAt σ (Int32.toNatClampNeg w) (nI k) = nI (64 * d + (fr + k)) := by
    unfold zAt
    rw [hd, Int32.add_assoc, e1, show (64 : Int32) = nI 64 from rfl, pk_mul, nI_add]
  refine ⟨fr + k, by omega, h11, e1, e2, ?_, ?_, ?_⟩
  · rw [e1]; exact vp_in_nI (by omega) (by omega)
  · rw [e1]; exact nI_clamp (by omega)
  · rw [e2]; exact nI_clamp (by omega)

