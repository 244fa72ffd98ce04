theorem zis_n {σ : ZS} {w : Nat} (hw : w < 8) : zis σ (nI w) = true ↔ ¬ zK σ w = 0 := by
  rw [zis_t, nI_clamp (by omega), show (7 : Int32) = nI 7 from rfl, nI_leI (by omega) (by omega)]
  exact ⟨fun h => h.2, fun h => ⟨⟨nI_pos' (by omega), by omega⟩, h⟩⟩
theorem zMl_n {σ : ZS} {ln : Nat → Nat} {kd : Nat → Int32} (hI : zI σ ln kd) : ∀ w, w ≤ 8 → ∃ a b, a ≤ 64 * w ∧ b ≤ w ∧ zMls σ w = nI a ∧ zMlc σ w = nI b
  | 0, _ => ⟨0, 0, by omega, by omega, rfl, rfl⟩
  | w + 1, hw => by
    obtain ⟨a, b, h1, h2, h3, h4⟩ := zMl_n hI w (by omega)
    by_cases h : zis σ (nI w) = true
    · obtain ⟨n, h5, h6⟩ := zWin_n (zI_win hI h)
      exact ⟨a + n, b + 1, by omega, by omega, by rw [zMls, if_pos h, h3, h6, nI_add], by rw [zMlc, if_pos h, h4, nI_1]⟩
    · exact ⟨a, b, by omega, by omega, by rw [zMls, if_neg h, h3, Int32.add_zero], by rw [zMlc, if_neg h, h4, Int32.add_zero]⟩
theorem zAt_c0 {σ : ZS} {ln : Nat → Nat} {i k : Nat} (hw : zWin σ ln i) (hk : k < Int32.toNatClampNeg (zEN σ i)) : vp_in (zAt σ i (nI k)) 704 := by
  obtain ⟨d, fr, sz, pl, en, h2, h3, h4, h5, h6, h7, h8, h9, h10, h11, -⟩ := id hw
  rw [h6, nI_clamp (by omega)] at hk
  exact zAt_in hw (nI_pos (by omega)) (by rw [h6]; exact (nI_ltI (by omega) (by omega)).mpr (by omega))
theorem zWin_en {σ : ZS} {ln : Nat → Nat} {i : Nat} (hw : zWin σ ln i) : zEN σ i = nI (Int32.toNatClampNeg (zEN σ i)) ∧ Int32.toNatClampNeg (zEN σ i) ≤ 64 := by
  obtain ⟨d, fr, sz, pl, en, h2, h3, h4, h5, h6, h7, h8, h9, h10, h11, -⟩ := hw
  rw [h6, nI_clamp (by omega)]
  exact ⟨rfl, by omega⟩
theorem zRow_n {σ : ZS} {ln : Nat → Nat} {kd : Nat → Int32} {r : Nat} (hI : zI σ ln kd) (hr : r < 2) : zRL σ r = nI (Int32.toNatClampNeg (zRL σ r)) ∧ Int32.toNatClampNeg (zRL σ r) ≤ 64 ∧ ∀ k, k < Int32.toNatClampNeg (zRL σ r) → vp_in (64 * zRS σ r + nI k) 704 := by
  obtain ⟨d, h1, h2, h3, h4, -⟩ := hI.2.1 r hr
  rw [h3, nI_clamp (by omega)]
  refine ⟨rfl, h4, fun k hk => ?_⟩
  rw [h2, show (64 : Int32) = nI 64 from rfl, pk_mul, nI_add]
  exact vp_in_nI (by omega) (by omega)

def o_meanLeft (σ : ZS) : Int32 × UInt64 × ZS := if zMlc σ 8 = 0 then (1, 0, σ) else (0, FP.ddiv (FP.i2d (zMls σ 8)) (FP.i2d (zMlc σ 8)), σ)

def o_checksum (σ : ZS) : Int32 × Int64 × ZS := (0, zCkrs σ 2, σ)

