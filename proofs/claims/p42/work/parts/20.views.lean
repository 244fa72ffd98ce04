/-! WINDOWS AS THE LAW SEES THEM: a window's eight values, and what each call makes of them -/
def zV (σ : ZS) (i : Nat) (k : Int32) (d fr sz pl en : Nat) (mk rd : Int32) : Prop := zK σ i = k ∧ zSI σ i = nI d ∧ zFR σ i = nI fr ∧ zSZ σ i = nI sz ∧ zPL σ i = nI pl ∧ zEN σ i = nI en ∧ zMK σ i = mk ∧ zRD σ i = rd
def zOth (σ σ1 : ZS) (i : Nat) : Prop := ∀ j, j ≠ i → zSmW σ σ1 j
theorem zkd {k : Int32} (h : zKind k) : ¬ k = 0 := by rcases h with h | h | h | h <;> rw [h] <;> decide
theorem zin0 {n m : Nat} (h : n ≤ m) (hm : m < 2 ^ 31) : zin (nI n) 0 (nI m) = true := zin_t.mpr ⟨nI_pos' (by omega), (nI_leI (by omega) hm).mpr h⟩
theorem zin0p {n m : Nat} (h : n < m) (hm : m < 2 ^ 31) : zin (nI n) 0 (nI m - 1) = true := by
  rw [show (1 : Int32) = nI 1 from rfl, pk_sub (show 1 ≤ m by omega)]
  exact zin0 (by omega) (by omega)
section Z20
variable {σ σ1 : ZS} {i j : Nat} {k : Int32} {d fr sz pl en : Nat} {mk rd : Int32} {α : Type}
theorem zV.ot (hv : zV σ j k d fr sz pl en mk rd) (ho : zOth σ σ1 i) (hne : j ≠ i) : zV σ1 j k d fr sz pl en mk rd := by
  obtain ⟨e1, e2, e3, e4, e5, e6, e7, e8⟩ := ho j hne
  obtain ⟨h1, h2, h3, h4, h5, h6, h7, h8⟩ := hv
  exact ⟨e1.trans h1, e2.trans h2, e3.trans h3, e4.trans h4, e5.trans h5, e6.trans h6, e7.trans h7, e8.trans h8⟩
theorem zV.is (hv : zV σ i k d fr sz pl en mk rd) (hi : i < 8) (hk : ¬ k = 0) : zis σ (nI i) = true := (zis_n hi).mpr (by rw [hv.1]; exact hk)
theorem zV.at (hv : zV σ i k d fr sz pl en mk rd) {n : Nat} (hd : d < 11) (h : fr + n < 64) : Int32.toNatClampNeg (zAt σ i (nI n)) = 64 * d + (fr + n) := by
  have e : zAt σ i (nI n) = nI (64 * d + (fr + n)) := by
    unfold zAt
    rw [hv.2.1, hv.2.2.1, show (64 : Int32) = nI 64 from rfl, pk_mul, nI_add, nI_add, Nat.add_assoc]
  rw [e]
  exact nI_clamp (by omega)
theorem zV.val (hv : zV σ i k d fr sz pl en mk rd) {n : Nat} (hd : d < 11) (h : fr + n < 64) : zVal σ i (nI n) = zST σ (64 * d + (fr + n)) := by
  unfold zVal
  rw [hv.at hd h]
theorem zbool_nar {rd : Int32} (h : rd = 0 ∨ rd = 1) : vp_nar .boolean rd = rd := by rcases h with h | h <;> rw [h] <;> rfl
theorem zV_bec {si f9 s9 r9 : Int32} {d1 f1 s1 : Nat} (h1 : si = nI d1) (h2 : f9 = nI f1) (h3 : s9 = nI s1) (h4 : r9 = rd) (hr : rd = 0 ∨ rd = 1) : zV (zBecomes σ j k si f9 s9 r9) j k d1 f1 s1 0 s1 (-1) rd :=
  ⟨pk_us, pk_us.trans h1, pk_us.trans h2, pk_us.trans h3, pk_us.trans nI_0.symm, pk_us.trans h3, pk_us, pk_us.trans (by rw [h4]; exact zbool_nar hr)⟩
theorem zO_bec {k si f9 s9 r9 : Int32} : zOth σ (zBecomes σ j k si f9 s9 r9) j := fun q hq => ⟨pk_un hq, pk_un hq, pk_un hq, pk_un hq, pk_un hq, pk_un hq, pk_un hq, pk_un hq⟩
theorem v_capacity (hv : zV σ i k d fr sz pl en mk rd) (hi : i < 8) (hk : ¬ k = 0) : o_capacity σ (nI i) = (0, nI sz, σ) := by
  unfold o_capacity
  rw [if_pos (hv.is hi hk), nI_clamp (by omega), hv.2.2.2.1]
theorem v_place (hv : zV σ i k d fr sz pl en mk rd) (hi : i < 8) (hk : ¬ k = 0) : o_place σ (nI i) = (0, nI pl, σ) := by
  unfold o_place
  rw [if_pos (hv.is hi hk), nI_clamp (by omega), hv.2.2.2.2.1]
theorem v_end (hv : zV σ i k d fr sz pl en mk rd) (hi : i < 8) (hk : ¬ k = 0) : o_end σ (nI i) = (0, nI en, σ) := by
  unfold o_end
  rw [if_pos (hv.is hi hk), nI_clamp (by omega), hv.2.2.2.2.2.1]
theorem v_left (hv : zV σ i k d fr sz pl en mk rd) (hi : i < 8) (hk : ¬ k = 0) (h : pl ≤ en) : o_left σ (nI i) = (0, nI (en - pl), σ) := by
  unfold o_left
  rw [if_pos (hv.is hi hk), nI_clamp (by omega), hv.2.2.2.2.2.1, hv.2.2.2.2.1, pk_sub h]
theorem v_hasLeft (hv : zV σ i k d fr sz pl en mk rd) (hi : i < 8) (hk : ¬ k = 0) (h : pl = en) : o_hasLeft σ (nI i) = (0, 0, σ) := by
  unfold o_hasLeft
  rw [if_pos (hv.is hi hk), nI_clamp (by omega), hv.2.2.2.2.2.1, hv.2.2.2.2.1, h, if_pos (Int32.le_refl _)]
theorem v_isReadOnly (hv : zV σ i k d fr sz pl en mk rd) (hi : i < 8) (hk : ¬ k = 0) (h : rd = 1) : o_isReadOnly σ (nI i) = (0, 1, σ) := by
  unfold o_isReadOnly
  rw [if_pos (hv.is hi hk), nI_clamp (by omega), hv.2.2.2.2.2.2.2, h, if_neg (by decide)]
theorem v_flip (hv : zV σ i k d fr sz pl en mk rd) (hi : i < 8) (hk : ¬ k = 0) : ∃ σ1, o_flip σ (nI i) = (0, nI pl, σ1) ∧ zV σ1 i k d fr sz 0 pl (-1) rd ∧ zOth σ σ1 i ∧ zST σ1 = zST σ := by
  have hz := hv.is hi hk
  obtain ⟨h1, h2, h3, h4, h5, h6, h7, h8⟩ := hv
  unfold o_flip
  rw [if_pos hz, nI_clamp (by omega)]
  exact ⟨_, Prod.ext rfl (Prod.ext (pk_us.trans h5) rfl), ⟨h1, h2, h3, h4, pk_us.trans nI_0.symm, pk_us.trans h5, pk_us, h8⟩, fun q hq => ⟨rfl, rfl, rfl, rfl, pk_un hq, pk_un hq, pk_un hq, rfl⟩, rfl⟩
theorem v_clear (hv : zV σ i k d fr sz pl en mk rd) (hi : i < 8) (hk : ¬ k = 0) : ∃ σ1, o_clear σ (nI i) = (0, nI sz, σ1) ∧ zV σ1 i k d fr sz 0 sz (-1) rd ∧ zOth σ σ1 i ∧ zST σ1 = zST σ := by
  have hz := hv.is hi hk
  obtain ⟨h1, h2, h3, h4, h5, h6, h7, h8⟩ := hv
  unfold o_clear
  rw [if_pos hz, nI_clamp (by omega)]
  exact ⟨_, Prod.ext rfl (Prod.ext (pk_us.trans h4) rfl), ⟨h1, h2, h3, h4, pk_us.trans nI_0.symm, pk_us.trans h4, pk_us, h8⟩, fun q hq => ⟨rfl, rfl, rfl, rfl, pk_un hq, pk_un hq, pk_un hq, rfl⟩, rfl⟩
theorem v_rewind (hv : zV σ i k d fr sz pl en mk rd) (hi : i < 8) (hk : ¬ k = 0) : ∃ σ1, o_rewind σ (nI i) = (0, nI en, σ1) ∧ zV σ1 i k d fr sz 0 en (-1) rd ∧ zOth σ σ1 i ∧ zST σ1 = zST σ := by
  have hz := hv.is hi hk
  obtain ⟨h1, h2, h3, h4, h5, h6, h7, h8⟩ := hv
  unfold o_rewind
  rw [if_pos hz, nI_clamp (by omega)]
  exact ⟨_, Prod.ext rfl (Prod.ext (pk_us.trans h6) rfl), ⟨h1, h2, h3, h4, pk_us.trans nI_0.symm, pk_us.trans h6, pk_us, h8⟩, fun q hq => ⟨rfl, rfl, rfl, rfl, pk_un hq, pk_un hq, pk_un hq, rfl⟩, rfl⟩
theorem v_mark (hv : zV σ i k d fr sz pl en mk rd) (hi : i < 8) (hk : ¬ k = 0) : ∃ σ1, o_mark σ (nI i) = (0, nI pl, σ1) ∧ zV σ1 i k d fr sz pl en (nI pl) rd ∧ zOth σ σ1 i ∧ zST σ1 = zST σ := by
  have hz := hv.is hi hk
  obtain ⟨h1, h2, h3, h4, h5, h6, h7, h8⟩ := hv
  unfold o_mark
  rw [if_pos hz, nI_clamp (by omega)]
  exact ⟨_, Prod.ext rfl (Prod.ext h5 rfl), ⟨h1, h2, h3, h4, h5, h6, pk_us.trans h5, h8⟩, fun q hq => ⟨rfl, rfl, rfl, rfl, rfl, rfl, pk_un hq, rfl⟩, rfl⟩
theorem v_back (hv : zV σ i k d fr sz pl en (nI pl) rd) (hi : i < 8) (hk : ¬ k = 0) (hp : pl < 2 ^ 31) : ∃ σ1, o_back σ (nI i) = (0, 0, σ1) ∧ zV σ1 i k d fr sz pl en (nI pl) rd ∧ zOth σ σ1 i ∧ zST σ1 = zST σ := by
  have hz := hv.is hi hk
  obtain ⟨h1, h2, h3, h4, h5, h6, h7, h8⟩ := hv
  have hm : ¬ zMK σ i = -1 := by
    rw [h7]
    intro h
    have h9 := nI_pos' hp
    rw [h] at h9
    exact absurd h9 (by decide)
  unfold o_back
  rw [if_pos hz, nI_clamp (by omega), if_neg hm]
  exact ⟨_, Prod.ext rfl (Prod.ext (by show zPL σ i - zMK σ i = 0; rw [h5, h7]; exact Int32.sub_self _) rfl), ⟨h1, h2, h3, h4, pk_us.trans h7, h6, h7, h8⟩, fun q hq => ⟨rfl, rfl, rfl, rfl, pk_un hq, rfl, rfl, rfl⟩, rfl⟩
theorem v_placeAt (hv : zV σ i k d fr sz pl en mk rd) (hi : i < 8) (hk : ¬ k = 0) {q : Nat} (hq : q ≤ en) (he : en < 2 ^ 31) : ∃ σ1 mk1, o_placeAt σ (nI i) (nI q) = (0, nI pl, σ1) ∧ zV σ1 i k d fr sz q en mk1 rd ∧ zOth σ σ1 i ∧ zST σ1 = zST σ := by
  have hz := hv.is hi hk
  obtain ⟨h1, h2, h3, h4, h5, h6, h7, h8⟩ := hv
  have hn : zin (nI q) 0 (zEN σ i) = true := by rw [h6]; exact zin0 hq he
  unfold o_placeAt
  rw [if_pos hz, nI_clamp (by omega), if_pos hn]
  by_cases hm : zMK σ i ≤ nI q
  · rw [if_pos hm]
    exact ⟨_, _, Prod.ext rfl (Prod.ext h5 rfl), ⟨h1, h2, h3, h4, pk_us, h6, pk_us, h8⟩, fun q hq => ⟨rfl, rfl, rfl, rfl, pk_un hq, rfl, pk_un hq, rfl⟩, rfl⟩
  · rw [if_neg hm]
    exact ⟨_, _, Prod.ext rfl (Prod.ext h5 rfl), ⟨h1, h2, h3, h4, pk_us, h6, pk_us, h8⟩, fun q hq => ⟨rfl, rfl, rfl, rfl, pk_un hq, rfl, pk_un hq, rfl⟩, rfl⟩
theorem v_endAt (hv : zV σ i k d fr sz pl en mk rd) (hi : i < 8) (hk : ¬ k = 0) {q : Nat} (hq : q ≤ sz) (hs : sz < 2 ^ 31) (hp : pl < 2 ^ 31) : ∃ σ1 mk1 pl1, pl1 ≤ q ∧ o_endAt σ (nI i) (nI q) = (0, nI en, σ1) ∧ zV σ1 i k d fr sz pl1 q mk1 rd ∧ zOth σ σ1 i ∧ zST σ1 = zST σ := by
  have hz := hv.is hi hk
  obtain ⟨h1, h2, h3, h4, h5, h6, h7, h8⟩ := hv
  have hn : zin (nI q) 0 (zSZ σ i) = true := by rw [h4]; exact zin0 hq hs
  unfold o_endAt
  rw [if_pos hz, nI_clamp (by omega), if_pos hn]
  by_cases hl : zPL σ i ≤ nI q
  · rw [if_pos hl]
    have hl2 : pl ≤ q := by rw [h5, nI_leI hp (by omega)] at hl; exact hl
    by_cases hm : zMK σ i ≤ nI q
    · rw [if_pos hm]
      exact ⟨_, _, pl, hl2, Prod.ext rfl (Prod.ext h6 rfl), ⟨h1, h2, h3, h4, pk_us.trans h5, pk_us, pk_us, h8⟩, fun q hq => ⟨rfl, rfl, rfl, rfl, pk_un hq, pk_un hq, pk_un hq, rfl⟩, rfl⟩
    · rw [if_neg hm]
      exact ⟨_, _, pl, hl2, Prod.ext rfl (Prod.ext h6 rfl), ⟨h1, h2, h3, h4, pk_us.trans h5, pk_us, pk_us, h8⟩, fun q hq => ⟨rfl, rfl, rfl, rfl, pk_un hq, pk_un hq, pk_un hq, rfl⟩, rfl⟩
  · rw [if_neg hl]
    by_cases hm : zMK σ i ≤ nI q
    · rw [if_pos hm]
      exact ⟨_, _, q, Nat.le_refl q, Prod.ext rfl (Prod.ext h6 rfl), ⟨h1, h2, h3, h4, pk_us, pk_us, pk_us, h8⟩, fun q hq => ⟨rfl, rfl, rfl, rfl, pk_un hq, pk_un hq, pk_un hq, rfl⟩, rfl⟩
    · rw [if_neg hm]
      exact ⟨_, _, q, Nat.le_refl q, Prod.ext rfl (Prod.ext h6 rfl), ⟨h1, h2, h3, h4, pk_us, pk_us, pk_us, h8⟩, fun q hq => ⟨rfl, rfl, rfl, rfl, pk_un hq, pk_un hq, pk_un hq, rfl⟩, rfl⟩
theorem v_duplicate (hv : zV σ i k d fr sz pl en mk 0) (hi : i < 8) (hk : ¬ k = 0) (hj : j < 8) (h : pl ≤ en) : ∃ σ1, o_duplicate σ (nI i) (nI j) = (0, nI (en - pl), σ1) ∧ zV σ1 j k d fr sz pl en mk 0 ∧ zOth σ σ1 j ∧ zST σ1 = zST σ := by
  have hz := hv.is hi hk
  obtain ⟨h1, h2, h3, h4, h5, h6, h7, h8⟩ := hv
  have hn : zin (nI j) 0 7 = true := zin0 (m := 7) (by omega) (by omega)
  unfold o_duplicate o_twin
  rw [if_pos hz, nI_clamp (show i < 2 ^ 31 by omega), nI_clamp (show j < 2 ^ 31 by omega), if_pos hn, if_pos h8, if_pos rfl]
  exact ⟨_, Prod.ext rfl (Prod.ext (by show zEN σ i - zPL σ i = _; rw [h5, h6, pk_sub h]) rfl), ⟨pk_us.trans h1, pk_us.trans h2, pk_us.trans h3, pk_us.trans h4, pk_us.trans h5, pk_us.trans h6, pk_us.trans h7, pk_us⟩, fun q hq => ⟨pk_un hq, pk_un hq, pk_un hq, pk_un hq, (pk_un hq).trans (pk_un hq), (pk_un hq).trans (pk_un hq), (pk_un hq).trans (pk_un hq), pk_un hq⟩, rfl⟩
theorem v_readOnly (hv : zV σ i k d fr sz pl en mk 0) (hi : i < 8) (hk : ¬ k = 0) (hj : j < 8) (h : pl ≤ en) : ∃ σ1, o_readOnly σ (nI i) (nI j) = (0, nI (en - pl), σ1) ∧ zV σ1 j k d fr sz pl en mk 1 ∧ zOth σ σ1 j ∧ zST σ1 = zST σ := by
  have hz := hv.is hi hk
  obtain ⟨h1, h2, h3, h4, h5, h6, h7, h8⟩ := hv
  have hn : zin (nI j) 0 7 = true := zin0 (m := 7) (by omega) (by omega)
  unfold o_readOnly o_twin
  rw [if_pos hz, nI_clamp (show i < 2 ^ 31 by omega), nI_clamp (show j < 2 ^ 31 by omega), if_pos hn, if_pos h8, if_neg (by decide)]
  exact ⟨_, Prod.ext rfl (Prod.ext (by show zEN σ i - zPL σ i = _; rw [h5, h6, pk_sub h]) rfl), ⟨pk_us.trans h1, pk_us.trans h2, pk_us.trans h3, pk_us.trans h4, pk_us.trans h5, pk_us.trans h6, pk_us.trans h7, pk_us⟩, fun q hq => ⟨pk_un hq, pk_un hq, pk_un hq, pk_un hq, (pk_un hq).trans (pk_un hq), (pk_un hq).trans (pk_un hq), (pk_un hq).trans (pk_un hq), pk_un hq⟩, rfl⟩
theorem v_slice (hv : zV σ i k d fr sz pl en mk rd) (hi : i < 8) (hk : ¬ k = 0) (hj : j < 8) (h : pl ≤ en) (hr : rd = 0 ∨ rd = 1) : ∃ σ1, o_slice σ (nI i) (nI j) = (0, nI (en - pl), σ1) ∧ zV σ1 j k d (fr + pl) (en - pl) 0 (en - pl) (-1) rd ∧ zOth σ σ1 j ∧ zST σ1 = zST σ := by
  have hz := hv.is hi hk
  obtain ⟨h1, h2, h3, h4, h5, h6, h7, h8⟩ := hv
  have hn : zin (nI j) 0 7 = true := zin0 (m := 7) (by omega) (by omega)
  have e1 : zFR σ i + zPL σ i = nI (fr + pl) := by rw [h3, h5, nI_add]
  have e2 : zEN σ i - zPL σ i = nI (en - pl) := by rw [h5, h6, pk_sub h]
  unfold o_slice
  rw [if_pos hz, nI_clamp (show i < 2 ^ 31 by omega), nI_clamp (show j < 2 ^ 31 by omega), if_pos hn]
  refine ⟨_, Prod.ext rfl (Prod.ext (pk_us.trans e2) rfl), ?_, zO_bec, rfl⟩
  rw [h1]
  exact zV_bec h2 e1 e2 h8 hr
theorem v_sliceAt (hv : zV σ i k d fr sz pl en mk rd) (hi : i < 8) (hk : ¬ k = 0) (hj : j < 8) {q n : Nat} (hq : q + n ≤ en) (he : en < 2 ^ 31) (hr : rd = 0 ∨ rd = 1) : ∃ σ1, o_sliceAt σ (nI i) (nI q) (nI n) (nI j) = (0, nI n, σ1) ∧ zV σ1 j k d (fr + q) n 0 n (-1) rd ∧ zOth σ σ1 j ∧ zST σ1 = zST σ := by
  have hz := hv.is hi hk
  obtain ⟨h1, h2, h3, h4, h5, h6, h7, h8⟩ := hv
  have hn : zin (nI j) 0 7 = true := zin0 (m := 7) (by omega) (by omega)
  have g1 : zin (nI q) 0 (zEN σ i) = true := by rw [h6]; exact zin0 (by omega) he
  have g2 : zin (nI n) 0 (zEN σ i - nI q) = true := by rw [h6, pk_sub (show q ≤ en by omega)]; exact zin0 (by omega) (by omega)
  have e1 : zFR σ i + nI q = nI (fr + q) := by rw [h3, nI_add]
  unfold o_sliceAt
  rw [if_pos hz, nI_clamp (show i < 2 ^ 31 by omega), nI_clamp (show j < 2 ^ 31 by omega), if_pos g1, if_pos g2, if_pos hn]
  refine ⟨_, rfl, ?_, zO_bec, rfl⟩
  rw [h1]
  exact zV_bec h2 e1 rfl h8 hr
theorem v_getAt (hv : zV σ i k d fr sz pl en mk rd) (hi : i < 8) (hk : ¬ k = 0) (hd : d < 11) {q : Nat} (hq : q < en) (he : fr + en ≤ 64) : o_getAt σ (nI i) (nI q) = (0, zST σ (64 * d + (fr + q)), σ) := by
  have hz := hv.is hi hk
  have hn : zin (nI q) 0 (zEN σ i - 1) = true := by rw [hv.2.2.2.2.2.1]; exact zin0p hq (by omega)
  unfold o_getAt
  rw [if_pos hz, nI_clamp (by omega), if_pos hn, hv.val hd (by omega)]
theorem v_putAt (hv : zV σ i k d fr sz pl en mk 0) (hi : i < 8) (hk : ¬ k = 0) (hd : d < 11) {q : Nat} (hq : q < en) (he : fr + en ≤ 64) (v : Int64) : ∃ σ1, o_putAt σ (nI i) (nI q) v = (0, zST σ (64 * d + (fr + q)), σ1) ∧ zST σ1 = vp_updL (zST σ) (64 * d + (fr + q)) (zcut k v) ∧ (∀ j, zSmW σ σ1 j) ∧ zRS σ1 = zRS σ ∧ zRL σ1 = zRL σ := by
  have hz := hv.is hi hk
  have hn : zin (nI q) 0 (zEN σ i - 1) = true := by rw [hv.2.2.2.2.2.1]; exact zin0p hq (by omega)
  unfold o_putAt
  rw [if_pos hz, nI_clamp (by omega), if_pos hn, if_pos hv.2.2.2.2.2.2.2, hv.val hd (by omega)]
  refine ⟨_, rfl, ?_, fun j => ⟨rfl, rfl, rfl, rfl, rfl, rfl, rfl, rfl⟩, rfl, rfl⟩
  show vp_updL (zST σ) (Int32.toNatClampNeg (zAt σ i (nI q))) (zcut (zK σ i) v) = _
  rw [hv.at hd (by omega), hv.1]
theorem v_putRO (hv : zV σ i k d fr sz pl en mk 1) (hi : i < 8) (hk : ¬ k = 0) (v : Int64) : o_put σ (nI i) v = (2, 0, σ) := by
  unfold o_put
  rw [if_pos (hv.is hi hk), nI_clamp (by omega), hv.2.2.2.2.2.2.2, if_neg (by decide)]
theorem v_put (hv : zV σ i k d fr sz pl en mk 0) (hi : i < 8) (hk : ¬ k = 0) (hd : d < 11) (hp : pl < en) (he : fr + en ≤ 64) (v : Int64) : ∃ σ1, o_put σ (nI i) v = (0, nI (pl + 1), σ1) ∧ zST σ1 = vp_updL (zST σ) (64 * d + (fr + pl)) (zcut k v) ∧ zV σ1 i k d fr sz (pl + 1) en mk 0 := by
  have hz := hv.is hi hk
  have hl := hv.at (n := pl) hd (by omega)
  obtain ⟨h1, h2, h3, h4, h5, h6, h7, h8⟩ := hv
  have hn : ¬ zPL σ i = zEN σ i := by
    rw [h5, h6, nI_eq (by omega) (by omega)]
    omega
  unfold o_put
  rw [if_pos hz, nI_clamp (by omega), if_pos h8, if_neg hn]
  have e1 : zPL σ i + 1 = nI (pl + 1) := by rw [h5, nI_1]
  refine ⟨_, Prod.ext rfl (Prod.ext (pk_us.trans e1) rfl), ?_, h1, h2, h3, h4, pk_us.trans e1, h6, h7, h8⟩
  show vp_updL (zST σ) (Int32.toNatClampNeg (zAt σ i (zPL σ i))) (zcut (zK σ i) v) = _
  rw [h5, hl, h1]
theorem v_get (hv : zV σ i k d fr sz pl en mk rd) (hi : i < 8) (hk : ¬ k = 0) (hd : d < 11) (hp : pl < en) (he : fr + en ≤ 64) : ∃ σ1, o_get σ (nI i) = (0, zST σ (64 * d + (fr + pl)), σ1) ∧ zST σ1 = zST σ ∧ zV σ1 i k d fr sz (pl + 1) en mk rd := by
  have hz := hv.is hi hk
  have hl := hv.val (n := pl) hd (by omega)
  obtain ⟨h1, h2, h3, h4, h5, h6, h7, h8⟩ := hv
  have hn : ¬ zPL σ i = zEN σ i := by
    rw [h5, h6, nI_eq (by omega) (by omega)]
    omega
  unfold o_get
  rw [if_pos hz, nI_clamp (by omega), if_neg hn]
  have e1 : zPL σ i + 1 = nI (pl + 1) := by rw [h5, nI_1]
  refine ⟨_, Prod.ext rfl (Prod.ext ?_ rfl), rfl, h1, h2, h3, h4, pk_us.trans e1, h6, h7, h8⟩
  show zVal σ i (upd (zPL σ) i (zPL σ i + 1) i - 1) = _
  rw [pk_us, Int32.add_sub_cancel, h5]
  exact hl
/-- how a fill leaves a window and its store -/
theorem zFill_v (hv : zV σ i k d fr sz pl en mk rd) (hd : d < 11) (v st : Int64) : ∀ n : Nat, fr + pl + n ≤ 64 → zV (zFill σ i v st n) i k d fr sz (pl + n) en mk rd ∧ zOth σ (zFill σ i v st n) i ∧ ∀ q, q < n → zST (zFill σ i v st n) (64 * d + (fr + (pl + q))) = zcut k (v + (nI q).toInt64 * st)
  | 0, _ => ⟨hv, fun q _ => ⟨rfl, rfl, rfl, rfl, rfl, rfl, rfl, rfl⟩, fun q hq => absurd hq (Nat.not_lt_zero q)⟩
  | n + 1, hn => by
    obtain ⟨g1, g2, g3⟩ := zFill_v hv hd v st n (by omega)
    have hl := g1.at (n := pl + n) hd (by omega)
    obtain ⟨h1, h2, h3, h4, h5, h6, h7, h8⟩ := g1
    have e1 : zPL (zFill σ i v st n) i + 1 = nI (pl + (n + 1)) := by rw [h5, nI_1, Nat.add_assoc]
    refine ⟨⟨h1, h2, h3, h4, pk_us.trans e1, h6, h7, h8⟩, fun q hq => ?_, fun q hq => ?_⟩
    · obtain ⟨a1, a2, a3, a4, a5, a6, a7, a8⟩ := g2 q hq
      exact ⟨a1, a2, a3, a4, (pk_un hq).trans a5, a6, a7, a8⟩
    · show vp_updL (zST (zFill σ i v st n)) (Int32.toNatClampNeg (zAt (zFill σ i v st n) i (zPL (zFill σ i v st n) i))) (zcut (zK (zFill σ i v st n) i) (v + (nI n).toInt64 * st)) _ = _
      rw [h5, hl, h1]
      by_cases e : q = n
      · rw [e, pk_uLs]
      · rw [pk_uLn (by omega)]
        exact g3 q (by omega)
theorem v_fill (hv : zV σ i k d fr sz pl en mk 0) (hi : i < 8) (hk : ¬ k = 0) (hd : d < 11) {n : Nat} (hn : pl + n ≤ en) (he : fr + en ≤ 64) (v st : Int64) : ∃ σ1, o_fill σ (nI i) (nI n) v st = (0, nI (pl + n), σ1) ∧ zV σ1 i k d fr sz (pl + n) en mk 0 ∧ zOth σ σ1 i ∧ ∀ q, q < n → zST σ1 (64 * d + (fr + (pl + q))) = zcut k (v + (nI q).toInt64 * st) := by
  have hz := hv.is hi hk
  obtain ⟨g1, g2, g3⟩ := zFill_v hv hd v st n (by omega)
  obtain ⟨h1, h2, h3, h4, h5, h6, h7, h8⟩ := hv
  have hl : nI n ≤ zEN σ i - zPL σ i := by
    rw [h5, h6, pk_sub (by omega)]
    exact (nI_leI (by omega) (by omega)).mpr (by omega)
  unfold o_fill
  rw [if_pos hz, nI_clamp (show i < 2 ^ 31 by omega), nI_clamp (show n < 2 ^ 31 by omega), if_pos (nI_pos' (by omega)), if_pos h8, if_pos hl]
  exact ⟨_, Prod.ext rfl (Prod.ext g1.2.2.2.2.1 rfl), g1, g2, g3⟩
theorem zComp_v (hv : zV σ i k d fr sz pl en mk rd) (hd : d < 11) : ∀ n : Nat, fr + pl + n ≤ 64 → zV (zComp σ i n) i k d fr sz pl en mk rd ∧ (∀ q, q < n → zST (zComp σ i n) (64 * d + (fr + q)) = zcut k (zST σ (64 * d + (fr + (pl + q)))))
  | 0, _ => ⟨hv, fun q hq => absurd hq (Nat.not_lt_zero q)⟩
  | n + 1, hn => by
    obtain ⟨g1, g2⟩ := zComp_v hv hd n (by omega)
    refine ⟨g1, fun q hq => ?_⟩
    show vp_updL (zST (zComp σ i n)) (Int32.toNatClampNeg (zAt (zComp σ i n) i (nI n))) (zcut (zK (zComp σ i n) i) (zVal σ i (zPL σ i + nI n))) _ = _
    rw [g1.at hd (by omega), g1.1, hv.2.2.2.2.1, nI_add, hv.val hd (by omega)]
    by_cases e : q = n
    · rw [e, pk_uLs]
    · rw [pk_uLn (by omega)]
      exact g2 q (by omega)
theorem v_compact (hv : zV σ i k d fr sz pl en mk 0) (hi : i < 8) (hk : ¬ k = 0) (hd : d < 11) (h : pl ≤ en) (he : fr + en ≤ 64) : ∃ σ1, o_compact σ (nI i) = (0, nI (en - pl), σ1) ∧ zV σ1 i k d fr sz (en - pl) sz (-1) 0 ∧ ∀ q, q < en - pl → zST σ1 (64 * d + (fr + q)) = zcut k (zST σ (64 * d + (fr + (pl + q)))) := by
  have hz := hv.is hi hk
  have e2 : zEN σ i - zPL σ i = nI (en - pl) := by rw [hv.2.2.2.2.1, hv.2.2.2.2.2.1, pk_sub h]
  obtain ⟨g1, g2⟩ := zComp_v hv hd (en - pl) (by omega)
  unfold o_compact
  rw [if_pos hz, nI_clamp (show i < 2 ^ 31 by omega), if_pos hv.2.2.2.2.2.2.2, e2, nI_clamp (show en - pl < 2 ^ 31 by omega)]
  obtain ⟨h1, h2, h3, h4, h5, h6, h7, h8⟩ := g1
  exact ⟨_, rfl, ⟨h1, h2, h3, h4, pk_us, pk_us.trans h4, pk_us, h8⟩, g2⟩
theorem v_isAlike {mk1 rd1 : Int32} (hv : zV σ i k d fr sz pl en mk rd) (hw : zV σ j k d fr sz pl en mk1 rd1) (hi : i < 8) (hj : j < 8) (hk : ¬ k = 0) : o_isAlike σ (nI i) (nI j) = (0, 1, σ) := by
  have hz := hv.is hi hk
  have hz2 := hw.is hj hk
  have hvv : ∀ x : Int32, zVal σ i x = zVal σ j x := fun x => by
    unfold zVal zAt
    rw [hv.2.1, hw.2.1, hv.2.2.1, hw.2.2.1]
  have ha : ∀ n : Nat, zAlk σ i j n = true := fun n => by
    induction n with
    | zero => rw [zAlk, hv.2.2.2.2.1, hw.2.2.2.2.1, hv.2.2.2.2.2.1, hw.2.2.2.2.2.1]; exact decide_eq_true rfl
    | succ n ih => rw [zAlk, ih, Bool.true_and, hvv, hv.2.2.2.2.1, hw.2.2.2.2.1]; exact decide_eq_true rfl
  unfold o_isAlike
  rw [if_pos hz, if_pos hz2, nI_clamp (show i < 2 ^ 31 by omega), nI_clamp (show j < 2 ^ 31 by omega), ha]
  rfl
theorem v_allocate {ln : Nat → Nat} {kd : Nat → Int32} {n : Nat} (hI : zI σ ln kd) (hi : i < 8) (hk : zKind k) (hn : n ≤ 64) : ∃ σ1 v d, d < 11 ∧ o_allocate σ (nI i) k (nI n) = (0, v, σ1) ∧ zV σ1 i k d 0 n 0 n (-1) 0 := by
  have hz : zin (nI i) 0 7 = true := zin0 (m := 7) (by omega) (by omega)
  have hm : zin (nI n) 0 64 = true := zin0 (m := 64) hn (by omega)
  obtain ⟨d, hd, hfd⟩ := vp_in_of (zI_free (zI_kill hI i)) (by decide)
  unfold o_allocate
  rw [if_pos hz, nI_clamp (show i < 2 ^ 31 by omega)]
  by_cases c0 : zK σ i = 0
  · rcases hk with h | h | h | h
    · rw [if_pos h, if_pos hm, if_pos c0]
      exact ⟨_, _, d, hd, rfl, zV_bec hfd nI_0.symm rfl rfl (Or.inl rfl)⟩
    · rw [if_neg (show ¬ k = 105 by rw [h]; decide), if_pos h, if_pos hm, if_pos c0]
      exact ⟨_, _, d, hd, rfl, zV_bec hfd nI_0.symm rfl rfl (Or.inl rfl)⟩
    · rw [if_neg (show ¬ k = 105 by rw [h]; decide), if_neg (show ¬ k = 108 by rw [h]; decide), if_pos h, if_pos hm, if_pos c0]
      exact ⟨_, _, d, hd, rfl, zV_bec hfd nI_0.symm rfl rfl (Or.inl rfl)⟩
    · rw [if_neg (show ¬ k = 105 by rw [h]; decide), if_neg (show ¬ k = 108 by rw [h]; decide), if_neg (show ¬ k = 99 by rw [h]; decide), if_pos h, if_pos hm, if_pos c0]
      exact ⟨_, _, d, hd, rfl, zV_bec hfd nI_0.symm rfl rfl (Or.inl rfl)⟩
  · rcases hk with h | h | h | h
    · rw [if_pos h, if_pos hm, if_neg c0]
      exact ⟨_, _, d, hd, rfl, zV_bec hfd nI_0.symm rfl rfl (Or.inl rfl)⟩
    · rw [if_neg (show ¬ k = 105 by rw [h]; decide), if_pos h, if_pos hm, if_neg c0]
      exact ⟨_, _, d, hd, rfl, zV_bec hfd nI_0.symm rfl rfl (Or.inl rfl)⟩
    · rw [if_neg (show ¬ k = 105 by rw [h]; decide), if_neg (show ¬ k = 108 by rw [h]; decide), if_pos h, if_pos hm, if_neg c0]
      exact ⟨_, _, d, hd, rfl, zV_bec hfd nI_0.symm rfl rfl (Or.inl rfl)⟩
    · rw [if_neg (show ¬ k = 105 by rw [h]; decide), if_neg (show ¬ k = 108 by rw [h]; decide), if_neg (show ¬ k = 99 by rw [h]; decide), if_pos h, if_pos hm, if_neg c0]
      exact ⟨_, _, d, hd, rfl, zV_bec hfd nI_0.symm rfl rfl (Or.inl rfl)⟩
/-- a row made anew: where it lies, that it holds zeros, that what a window lies over stays -/
theorem v_make {ln : Nat → Nat} {kd : Nat → Int32} {r n : Nat} (hI : zI σ ln kd) (hr : r < 2) (hn : n ≤ 64) : ∃ σ1 d, d < 11 ∧ o_make σ (nI r) (nI n) = (0, zRL σ r, σ1) ∧ zRS σ1 r = nI d ∧ zRL σ1 r = nI n ∧ (∀ q, q < 64 → zST σ1 (64 * d + q) = 0) ∧ (∀ j, zSmW σ σ1 j) ∧ ∀ j d1, j < 8 → ¬ zK σ j = 0 → zSI σ j = nI d1 → d1 < 11 → ∀ q, q < 64 → zST σ1 (64 * d1 + q) = zST σ (64 * d1 + q) := by
  have hz : zin (nI r) 0 1 = true := zin0 (m := 1) (by omega) (by omega)
  have hm : zin (nI n) 0 64 = true := zin0 (m := 64) hn (by omega)
  obtain ⟨d, hd, hfd, hu⟩ : ∃ d, d < 11 ∧ zFnd σ 11 = nI d ∧ zUsW σ (nI d) 8 = false := by
    rcases zFnd_ok (σ := σ) (n := 11) (Nat.le_refl 11) with ⟨h, -⟩ | h
    · have h9 := zI_free hI
      rw [h] at h9
      exact absurd (Or.inl (by decide)) h9
    · exact h
  unfold o_make
  rw [if_pos hz, if_pos hm, nI_clamp (show r < 2 ^ 31 by omega)]
  refine ⟨_, d, hd, rfl, pk_us.trans hfd, pk_us, fun q hq => ?_, fun j => ⟨rfl, rfl, rfl, rfl, rfl, rfl, rfl, rfl⟩, fun j d1 hj hK hs hd1 q hq => ?_⟩
  · show zZero (zST σ) (zFnd σ 11) 64 (64 * d + q) = 0
    rw [hfd, z_zero_get hd (Nat.le_refl 64), if_pos (by omega)]
  · show zZero (zST σ) (zFnd σ 11) 64 (64 * d1 + q) = _
    have hne : d1 ≠ d := fun e => (zUs_no (Nat.le_refl 8) hu).2 j hj hK (by rw [hs, e])
    rw [hfd, z_zero_get hd (Nat.le_refl 64), if_neg (by omega)]
theorem v_wrap {r n : Nat} (hi : i < 8) (hr : r < 2) (h1 : zRS σ r = nI d) (h2 : zRL σ r = nI n) : ∃ σ1, o_wrap σ (nI i) (nI r) = (0, nI n, σ1) ∧ zV σ1 i 105 d 0 n 0 n (-1) 0 ∧ zST σ1 = zST σ ∧ zRS σ1 = zRS σ ∧ zRL σ1 = zRL σ := by
  have hz : zin (nI i) 0 7 = true := zin0 (m := 7) (by omega) (by omega)
  have hm : zin (nI r) 0 1 = true := zin0 (m := 1) (by omega) (by omega)
  unfold o_wrap
  rw [if_pos hz, if_pos hm, nI_clamp (show i < 2 ^ 31 by omega), nI_clamp (show r < 2 ^ 31 by omega)]
  exact ⟨_, Prod.ext rfl (Prod.ext h2 rfl), zV_bec h1 nI_0.symm h2 rfl (Or.inl rfl), rfl, rfl, rfl⟩
theorem zrow_at {r n q : Nat} (hd : d < 11) (h1 : zRS σ r = nI d) (hq : q < n) (hn : n ≤ 64) : Int32.toNatClampNeg (64 * zRS σ r + nI q) = 64 * d + q := by
  rw [h1, show (64 : Int32) = nI 64 from rfl, pk_mul, nI_add]
  exact nI_clamp (by omega)
theorem v_rowAt {r n q : Nat} (hr : r < 2) (hd : d < 11) (h1 : zRS σ r = nI d) (h2 : zRL σ r = nI n) (hq : q < n) (hn : n ≤ 64) : o_rowAt σ (nI r) (nI q) = (0, (zST σ (64 * d + q)).toInt32, σ) := by
  have hz : zin (nI r) 0 1 = true := zin0 (m := 1) (by omega) (by omega)
  have hm : zin (nI q) 0 (zRL σ r - 1) = true := by rw [h2]; exact zin0p hq (by omega)
  unfold o_rowAt
  rw [nI_clamp (show r < 2 ^ 31 by omega), if_pos ⟨hz, hm⟩, zrow_at hd h1 hq hn]
theorem v_rowPut {r n q : Nat} (hr : r < 2) (hd : d < 11) (h1 : zRS σ r = nI d) (h2 : zRL σ r = nI n) (hq : q < n) (hn : n ≤ 64) (x : Int32) : ∃ σ1, o_rowPut σ (nI r) (nI q) x = (0, (zST σ (64 * d + q)).toInt32, σ1) ∧ zST σ1 = vp_updL (zST σ) (64 * d + q) x.toInt64 ∧ (∀ j, zSmW σ σ1 j) ∧ zRS σ1 = zRS σ ∧ zRL σ1 = zRL σ := by
  have hz : zin (nI r) 0 1 = true := zin0 (m := 1) (by omega) (by omega)
  have hm : zin (nI q) 0 (zRL σ r - 1) = true := by rw [h2]; exact zin0p hq (by omega)
  unfold o_rowPut
  rw [nI_clamp (show r < 2 ^ 31 by omega), if_pos ⟨hz, hm⟩, zrow_at hd h1 hq hn]
  exact ⟨_, rfl, rfl, fun j => ⟨rfl, rfl, rfl, rfl, rfl, rfl, rfl, rfl⟩, rfl, rfl⟩
theorem zV.sm (hv : zV σ j k d fr sz pl en mk rd) (ho : ∀ j, zSmW σ σ1 j) : zV σ1 j k d fr sz pl en mk rd := by
  obtain ⟨e1, e2, e3, e4, e5, e6, e7, e8⟩ := ho j
  obtain ⟨h1, h2, h3, h4, h5, h6, h7, h8⟩ := hv
  exact ⟨e1.trans h1, e2.trans h2, e3.trans h3, e4.trans h4, e5.trans h5, e6.trans h6, e7.trans h7, e8.trans h8⟩
theorem z_fl {v q : Nat} (h : v + q * 3 < 2 ^ 31) : zcut 105 ((nI v).toInt64 + (nI q).toInt64 * 3) = lN (v + q * 3) := by
  unfold zcut
  rw [if_pos rfl, nI_l (by omega), nI_l (by omega), show (3 : Int64) = lN 3 from rfl, lN_mul, lN_add, lN_i, nI_l h]
end Z20
