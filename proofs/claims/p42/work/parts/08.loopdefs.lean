/-! WHAT THE REFERENCE'S LOOPS MAKE -/
/-- is the store x used by a row, or by one of the first windows -/
def zUsW (σ : ZS) (x : Int32) : Nat → Bool
  | 0 => decide (x = zRS σ 0) || decide (x = zRS σ 1)
  | w + 1 => zUsW σ x w || (decide (¬ zK σ (Int32.toNatClampNeg (nI w)) = 0) && decide (zSI σ (Int32.toNatClampNeg (nI w)) = x))
/-- the first of the first n stores that isn't used, or -1 -/
def zFnd (σ : ZS) : Nat → Int32
  | 0 => -1
  | n + 1 => if zFnd σ n = -1 ∧ zUsW σ (nI n) 8 = false then nI n else zFnd σ n
def zZero (F : Nat → Int64) (a : Int32) : Nat → (Nat → Int64)
  | 0 => F
  | k + 1 => vp_updL (zZero F a k) (Int32.toNatClampNeg (64 * a + nI k)) 0
def zComp (σ : ZS) (i : Nat) : Nat → ZS
  | 0 => σ
  | k + 1 => zLay (zComp σ i k) i (nI k) (zVal σ i (zPL σ i + nI k))
def zInc (σ : ZS) (i : Nat) : ZS := zsPL σ (upd (zPL σ) i (zPL σ i + 1))
def zFill (σ : ZS) (i : Nat) (v st : Int64) : Nat → ZS
  | 0 => σ
  | k + 1 => zInc (zLay (zFill σ i v st k) i (zPL (zFill σ i v st k) i) (v + (nI k).toInt64 * st)) i
def zPour (σ : ZS) (i j : Nat) : Nat → ZS
  | 0 => σ
  | k + 1 => zInc (zInc (zLay (zPour σ i j k) j (zPL (zPour σ i j k) j) (zVal (zPour σ i j k) i (zPL (zPour σ i j k) i))) i) j
/-- a sum over values from a place on -/
def zSum (σ : ZS) (i : Nat) (a : Int32) (s0 : Int64) : Nat → Int64
  | 0 => s0
  | k + 1 => 31 * zSum σ i a s0 k + zVal σ i (a + nI k)
def zAlk (σ : ZS) (i j : Nat) : Nat → Bool
  | 0 => decide (zEN σ i - zPL σ i = zEN σ j - zPL σ j)
  | k + 1 => zAlk σ i j k && decide (zVal σ i (zPL σ i + nI k) = zVal σ j (zPL σ j + nI k))
def zMls (σ : ZS) : Nat → Int32
  | 0 => 0
  | w + 1 => zMls σ w + (if zis σ (nI w) = true then zEN σ (Int32.toNatClampNeg (nI w)) - zPL σ (Int32.toNatClampNeg (nI w)) else 0)
def zMlc (σ : ZS) : Nat → Int32
  | 0 => 0
  | w + 1 => zMlc σ w + (if zis σ (nI w) = true then 1 else 0)
def zCkw (σ : ZS) (w : Nat) (s0 : Int64) : Int64 :=
  if zK σ w = 0 then 31 * s0 + (45 : Int32).toInt64
  else zSum σ w 0 (31 * (31 * (31 * (31 * s0 + (zK σ w).toInt64) + (zPL σ w).toInt64) + (zEN σ w).toInt64) + (zSZ σ w).toInt64) (Int32.toNatClampNeg (zEN σ w))
def zCks (σ : ZS) : Nat → Int64
  | 0 => 7
  | w + 1 => zCkw σ (Int32.toNatClampNeg (nI w)) (zCks σ w)
def zCkr (σ : ZS) (r : Nat) (s0 : Int64) : Nat → Int64
  | 0 => s0
  | k + 1 => 31 * zCkr σ r s0 k + zST σ (Int32.toNatClampNeg (64 * zRS σ r + nI k))
def zCkrs (σ : ZS) : Nat → Int64
  | 0 => zCks σ 8
  | r + 1 => zCkr σ (Int32.toNatClampNeg (nI r)) (zCkrs σ r) (Int32.toNatClampNeg (zRL σ (Int32.toNatClampNeg (nI r))))
/-! facts of numbers -/
theorem zn_lt {k n : Nat} (h : ¬ nI n ≤ nI k) (hk : k ≤ n) (hn : n < 2 ^ 31) : k < n := by
  rcases Nat.lt_or_ge k n with q | q
  · exact q
  · rw [show k = n by omega] at h
    exact absurd (nI_le (Nat.le_refl n) hn) h
theorem zn_ge {k n : Nat} (h : nI n ≤ nI k) (hk : k ≤ n) (hn : n < 2 ^ 31) : k = n := by
  rw [nI_leI hn (by omega)] at h
  omega
theorem z_al_mono {σ : ZS} {i j : Nat} : ∀ {n k : Nat}, k ≤ n → zAlk σ i j k = false → zAlk σ i j n = false
  | 0, k, h, e => by rw [Nat.le_zero.mp h] at e; exact e
  | n + 1, k, h, e => by
    rcases Nat.lt_or_ge k (n + 1) with q | q
    · rw [zAlk, z_al_mono (Nat.le_of_lt_succ q) e]; rfl
    · rw [show n + 1 = k by omega]; exact e
theorem z_zero_get {F : Nat → Int64} {d : Nat} (hd : d < 11) : ∀ {n : Nat}, n ≤ 64 → ∀ q, zZero F (nI d) n q = if 64 * d ≤ q ∧ q < 64 * d + n then 0 else F q
  | 0, _, q => by rw [zZero, if_neg (by omega)]
  | n + 1, hn, q => by
    have e : Int32.toNatClampNeg (64 * nI d + nI n) = 64 * d + n := by
      rw [show (64 : Int32) = nI 64 from rfl, pk_mul, nI_add, nI_clamp (by omega)]
    rw [zZero, e]
    by_cases h : q = 64 * d + n
    · rw [h, pk_uLs, if_pos (by omega)]
    · rw [pk_uLn h, z_zero_get hd (by omega)]
      by_cases h1 : 64 * d ≤ q ∧ q < 64 * d + n
      · rw [if_pos h1, if_pos (by omega)]
      · rw [if_neg h1, if_neg (by omega)]
theorem zFill_f (σ : ZS) (i : Nat) (v st : Int64) : ∀ k, zPL (zFill σ i v st k) i = zPL σ i + nI k ∧ zEN (zFill σ i v st k) = zEN σ ∧ zSI (zFill σ i v st k) = zSI σ ∧ zFR (zFill σ i v st k) = zFR σ ∧ zSZ (zFill σ i v st k) = zSZ σ ∧ zK (zFill σ i v st k) = zK σ
  | 0 => ⟨by rw [nI_0, Int32.add_zero]; rfl, rfl, rfl, rfl, rfl, rfl⟩
  | k + 1 => by
    obtain ⟨h1, h2, h3, h4, h5, h6⟩ := zFill_f σ i v st k
    refine ⟨?_, h2, h3, h4, h5, h6⟩
    show upd (zPL (zFill σ i v st k)) i (zPL (zFill σ i v st k) i + 1) i = _
    rw [pk_us, h1, nI_succ, Int32.add_assoc]
theorem zPour_f (σ : ZS) {i j : Nat} (hij : i ≠ j) : ∀ k, zPL (zPour σ i j k) i = zPL σ i + nI k ∧ zPL (zPour σ i j k) j = zPL σ j + nI k ∧ zEN (zPour σ i j k) = zEN σ ∧ zSI (zPour σ i j k) = zSI σ ∧ zFR (zPour σ i j k) = zFR σ ∧ zSZ (zPour σ i j k) = zSZ σ ∧ zK (zPour σ i j k) = zK σ
  | 0 => ⟨by rw [nI_0, Int32.add_zero]; rfl, by rw [nI_0, Int32.add_zero]; rfl, rfl, rfl, rfl, rfl, rfl⟩
  | k + 1 => by
    obtain ⟨h1, h0, h2, h3, h4, h5, h6⟩ := zPour_f σ hij k
    refine ⟨?_, ?_, h2, h3, h4, h5, h6⟩
    · show upd (upd (zPL (zPour σ i j k)) i (zPL (zPour σ i j k) i + 1)) j (upd (zPL (zPour σ i j k)) i (zPL (zPour σ i j k) i + 1) j + 1) i = _
      rw [pk_un hij, pk_us, h1, nI_succ, Int32.add_assoc]
    · show upd (upd (zPL (zPour σ i j k)) i (zPL (zPour σ i j k) i + 1)) j (upd (zPL (zPour σ i j k)) i (zPL (zPour σ i j k) i + 1) j + 1) j = _
      rw [pk_us, pk_un (Ne.symm hij), h0, nI_succ, Int32.add_assoc]
theorem zComp_f (σ : ZS) (i : Nat) : ∀ k, zPL (zComp σ i k) = zPL σ ∧ zEN (zComp σ i k) = zEN σ ∧ zSI (zComp σ i k) = zSI σ ∧ zFR (zComp σ i k) = zFR σ ∧ zSZ (zComp σ i k) = zSZ σ ∧ zK (zComp σ i k) = zK σ
  | 0 => ⟨rfl, rfl, rfl, rfl, rfl, rfl⟩
  | k + 1 => zComp_f σ i k
theorem zAt_eq {σ τ : ZS} (i : Nat) (h1 : zSI τ = zSI σ) (h2 : zFR τ = zFR σ) (x : Int32) : zAt τ i x = zAt σ i x := by
  unfold zAt
  rw [h1, h2]
/-- a place from the window's place on -/
theorem zAt_pk {σ : ZS} {ln : Nat → Nat} {i k : Nat} (hw : zWin σ ln i) {n : Nat} (hn : zEN σ i - zPL σ i = nI n) (hn2 : n < 2 ^ 31) (hk : k < n) : vp_in (zAt σ i (zPL σ i + nI k)) 704 := by
  obtain ⟨d, fr, sz, pl, en, h2, h3, h4, h5, h6, h7, h8, h9, h10, h11, -⟩ := id hw
  rw [h5, h6, pk_sub h8, nI_eq (by omega) hn2] at hn
  refine zAt_in hw ?_ ?_
  · rw [h5, nI_add]; exact nI_pos (by omega)
  · rw [h5, h6, nI_add]; exact (nI_ltI (by omega) (by omega)).mpr (by omega)
theorem zAt_k0 {σ : ZS} {ln : Nat → Nat} {i k : Nat} (hw : zWin σ ln i) {n : Nat} (hn : zEN σ i - zPL σ i = nI n) (hn2 : n < 2 ^ 31) (hk : k < n) : vp_in (zAt σ i (nI k)) 704 := by
  obtain ⟨d, fr, sz, pl, en, h2, h3, h4, h5, h6, h7, h8, h9, h10, h11, -⟩ := id hw
  rw [h5, h6, pk_sub h8, nI_eq (by omega) hn2] at hn
  exact zAt_in hw (nI_pos (by omega)) (by rw [h6]; exact (nI_ltI (by omega) (by omega)).mpr (by omega))
theorem zWin_n {σ : ZS} {ln : Nat → Nat} {i : Nat} (hw : zWin σ ln i) : ∃ n, n ≤ 64 ∧ zEN σ i - zPL σ i = nI n := by
  obtain ⟨d, fr, sz, pl, en, h2, h3, h4, h5, h6, h7, h8, h9, h10, h11, -⟩ := hw
  exact ⟨en - pl, by omega, by rw [h5, h6, pk_sub h8]⟩
theorem zF_in {a : Int32} {k : Nat} (h : vp_in a 11) (hk : k < 64) : vp_in (64 * a + nI k) 704 := by
  obtain ⟨d, hd, rfl⟩ := vp_in_of h (by decide)
  rw [show (64 : Int32) = nI 64 from rfl, pk_mul, nI_add]
  exact vp_in_nI (by omega) (by omega)
theorem zI_kill {σ : ZS} {ln : Nat → Nat} {kd : Nat → Int32} (hI : zI σ ln kd) (i : Nat) : zI (zsK σ (upd (zK σ) i 0)) ln kd := by
  refine ⟨fun j hj hK => ?_, hI.2.1, hI.2.2⟩
  by_cases e : j = i
  · exact absurd (show upd (zK σ) i 0 j = 0 by rw [e, pk_us]) hK
  · have h1 : zK (zsK σ (upd (zK σ) i 0)) j = zK σ j := pk_un e
    rw [h1] at hK ⊢
    exact hI.1 j hj hK
theorem zUs_ex {σ : ZS} {x : Int32} : ∀ {w : Nat}, w ≤ 8 → zUsW σ x w = true → (x = zRS σ 0 ∨ x = zRS σ 1) ∨ ∃ v, v < w ∧ ¬ zK σ v = 0 ∧ zSI σ v = x
  | 0, _, h => by
    simp only [zUsW, Bool.or_eq_true, decide_eq_true_eq] at h
    exact Or.inl h
  | w + 1, hw, h => by
    simp only [zUsW, Bool.or_eq_true, Bool.and_eq_true, decide_eq_true_eq] at h
    rw [nI_clamp (by omega)] at h
    rcases h with h | h
    · rcases zUs_ex (by omega) h with h1 | ⟨v, h1, h2⟩
      · exact Or.inl h1
      · exact Or.inr ⟨v, by omega, h2⟩
    · exact Or.inr ⟨w, by omega, h⟩
theorem zUs_no {σ : ZS} {x : Int32} : ∀ {w : Nat}, w ≤ 8 → zUsW σ x w = false → (¬ x = zRS σ 0 ∧ ¬ x = zRS σ 1) ∧ ∀ v, v < w → ¬ zK σ v = 0 → ¬ zSI σ v = x
  | 0, _, h => by
    rw [Bool.eq_false_iff] at h
    simp only [zUsW, ne_eq, Bool.or_eq_true, decide_eq_true_eq, not_or] at h
    exact ⟨h, fun v hv => absurd hv (Nat.not_lt_zero v)⟩
  | w + 1, hw, h => by
    rw [Bool.eq_false_iff] at h
    simp only [zUsW, ne_eq, Bool.or_eq_true, Bool.and_eq_true, decide_eq_true_eq, not_or] at h
    rw [nI_clamp (by omega)] at h
    obtain ⟨h1, h2⟩ := zUs_no (w := w) (by omega) (Bool.eq_false_iff.mpr h.1)
    refine ⟨h1, fun v hv hK hs => ?_⟩
    rcases Nat.lt_or_ge v w with q | q
    · exact h2 v q hK hs
    · rw [show v = w by omega] at hK hs
      exact h.2 ⟨hK, hs⟩
theorem zFnd_ok {σ : ZS} : ∀ {n : Nat}, n ≤ 11 → (zFnd σ n = -1 ∧ ∀ d, d < n → zUsW σ (nI d) 8 = true) ∨ ∃ d, d < n ∧ zFnd σ n = nI d ∧ zUsW σ (nI d) 8 = false
  | 0, _ => Or.inl ⟨rfl, fun d h => absurd h (Nat.not_lt_zero d)⟩
  | n + 1, hn => by
    rcases zFnd_ok (σ := σ) (n := n) (by omega) with ⟨h1, h2⟩ | ⟨d, h1, h2, h3⟩
    · by_cases hu : zUsW σ (nI n) 8 = false
      · exact Or.inr ⟨n, by omega, if_pos ⟨h1, hu⟩, hu⟩
      · refine Or.inl ⟨(if_neg (fun h => hu h.2)).trans h1, fun d hd => ?_⟩
        rcases Nat.lt_or_ge d n with q | q
        · exact h2 d q
        · rw [show d = n by omega]
          cases hb : zUsW σ (nI n) 8
          · exact absurd hb hu
          · rfl
    · refine Or.inr ⟨d, by omega, (if_neg (fun h => ?_)).trans h2, h3⟩
      have h4 : nI d = -1 := h2.symm.trans h.1
      have h5 := congrArg Int32.toInt h4
      rw [nI_toInt (by omega)] at h5
      have h6 : (-1 : Int32).toInt = -1 := rfl
      omega
theorem zf_holes : ∀ (m n : Nat) (f : Nat → Nat), (∀ i, i < n → f i < m) → (∀ i j, i < j → j < n → f i ≠ f j) → n ≤ m := by
  intro m
  induction m with
  | zero =>
    intro n f h _
    rcases Nat.eq_zero_or_pos n with q | q
    · omega
    · exact absurd (h 0 q) (Nat.not_lt_zero _)
  | succ m ih =>
    intro n f h hne
    rcases Nat.eq_zero_or_pos n with q | q
    · omega
    · have h1 := ih (n - 1) (fun i => if f i = m then f (n - 1) else f i) (fun i hi => ?_) (fun i j hij hj => ?_)
      · omega
      · by_cases e : f i = m
        · simp only [e, if_true]
          have := h (n - 1) (by omega)
          have h3 := hne i (n - 1) (by omega) (by omega)
          omega
        · simp only [e, if_false]
          have := h i (by omega)
          omega
      · have h2 := hne i j hij (by omega)
        have h3 := hne i (n - 1) (by omega) (by omega)
        have h4 := hne j (n - 1) (by omega) (by omega)
        by_cases e1 : f i = m <;> by_cases e2 : f j = m <;> simp only [e1, e2, if_true, if_false] <;> omega
theorem zI_free {σ : ZS} {ln : Nat → Nat} {kd : Nat → Int32} (hI : zI σ ln kd) : vp_in (zFnd σ 11) 11 := by
  rcases zFnd_ok (σ := σ) (n := 11) (Nat.le_refl 11) with ⟨-, h⟩ | ⟨d, h1, h2, -⟩
  · exfalso
    have key : ∀ d, d < 11 → ∃ u, u < 10 ∧ (if u < 8 then zSI σ u else zRS σ (u - 8)) = nI d := fun d hd => by
      rcases zUs_ex (Nat.le_refl 8) (h d hd) with (h1 | h1) | ⟨v, h1, h2, h3⟩
      · exact ⟨8, by omega, h1.symm⟩
      · exact ⟨9, by omega, h1.symm⟩
      · exact ⟨v, by omega, by rw [if_pos h1]; exact h3⟩
    have hle := zf_holes 10 11 (fun d => if h9 : d < 11 then Classical.choose (key d h9) else 0) (fun i hi => by
      simp only [hi, dif_pos]
      exact (Classical.choose_spec (key i hi)).1) (fun i j hij hj => by
      have hi : i < 11 := by omega
      simp only [hi, hj, dif_pos]
      intro e
      have h1 := (Classical.choose_spec (key i hi)).2
      have h2 := (Classical.choose_spec (key j hj)).2
      rw [e, h2, nI_eq (by omega) (by omega)] at h1
      omega)
    omega
  · rw [h2]
    exact vp_in_nI h1 (by decide)
theorem zWin_run {σ : ZS} {ln : Nat → Nat} {i n k : Nat} (hw : zWin σ ln i) (h : nI n ≤ zEN σ i - zPL σ i) (hn : n < 2 ^ 31) (hk : k < n) : n ≤ 64 ∧ ¬ (zPL σ i + nI k) < 0 ∧ (zPL σ i + nI k) < zEN σ i := by
  obtain ⟨d, fr, sz, pl, en, h2, h3, h4, h5, h6, h7, h8, h9, h10, h11, -⟩ := hw
  rw [h5, h6, pk_sub h8, nI_leI hn (by omega)] at h
  rw [h5, h6, nI_add]
  exact ⟨by omega, nI_pos (by omega), (nI_ltI (by omega) (by omega)).mpr (by omega)⟩
theorem zFill_in {σ : ZS} {ln : Nat → Nat} {i n k : Nat} {v st : Int64} (hw : zWin σ ln i) (h : nI n ≤ zEN σ i - zPL σ i) (hn : n < 2 ^ 31) (hk : k < n) : vp_in (zAt (zFill σ i v st k) i (zPL (zFill σ i v st k) i)) 704 := by
  obtain ⟨h1, h2, h3, h4, -⟩ := zFill_f σ i v st k
  rw [zAt_eq i h3 h4, h1]
  exact zAt_in hw (zWin_run hw h hn hk).2.1 (zWin_run hw h hn hk).2.2
theorem zPour_in {σ : ZS} {ln : Nat → Nat} {i j n k : Nat} (hij : i ≠ j) (hw : zWin σ ln i) (hw2 : zWin σ ln j) (h : nI n ≤ zEN σ i - zPL σ i) (h9 : nI n ≤ zEN σ j - zPL σ j) (hn : n < 2 ^ 31) (hk : k < n) : vp_in (zAt (zPour σ i j k) i (zPL (zPour σ i j k) i)) 704 ∧ vp_in (zAt (zPour σ i j k) j (zPL (zPour σ i j k) j)) 704 := by
  obtain ⟨h1, h0, h2, h3, h4, -⟩ := zPour_f σ hij k
  rw [zAt_eq i h3 h4, zAt_eq j h3 h4, h1, h0]
  exact ⟨zAt_in hw (zWin_run hw h hn hk).2.1 (zWin_run hw h hn hk).2.2, zAt_in hw2 (zWin_run hw2 h9 hn hk).2.1 (zWin_run hw2 h9 hn hk).2.2⟩
theorem z_nne {a b : Int32} {n : Nat} (ha : vp_in a n) (hb : vp_in b n) (hn : n < 2 ^ 31) (h : ¬ a = b) : Int32.toNatClampNeg a ≠ Int32.toNatClampNeg b := by
  obtain ⟨x, hx, rfl⟩ := vp_in_of ha hn
  obtain ⟨y, hy, rfl⟩ := vp_in_of hb hn
  rw [nI_clamp (by omega), nI_clamp (by omega)]
  exact fun e => h (by rw [e])
theorem zrun_lt {σ : ZS} {ln : Nat → Nat} {i n k : Nat} (hw : zWin σ ln i) (hn : zEN σ i - zPL σ i = nI n) (hn2 : n ≤ 64) (hk : k ≤ n) : (zEN σ i ≤ zPL σ i + nI k) ↔ n ≤ k := by
  obtain ⟨d, fr, sz, pl, en, h2, h3, h4, h5, h6, h7, h8, h9, h10, h11, -⟩ := hw
  rw [h5, h6, pk_sub h8, nI_eq (by omega) (by omega)] at hn
  rw [h5, h6, nI_add, nI_leI (by omega) (by omega)]
  omega
theorem zcmp0 {x y : Int64} : lg_cmp x y = 0 ↔ x = y := by
  unfold lg_cmp
  by_cases h1 : x > y
  · rw [if_pos h1]
    constructor
    · intro h; exact absurd h (by decide)
    · intro h
      rw [h] at h1
      exact absurd h1 (Int64.lt_irrefl)
  · rw [if_neg h1]
    by_cases h2 : x = y
    · rw [if_pos h2]; exact ⟨fun _ => h2, fun _ => rfl⟩
    · rw [if_neg h2]; exact ⟨fun h => absurd h (by decide), fun h => absurd h h2⟩

