/-! THE CLASS HOLDS A STATE OF THE REFERENCE -/
def zRw (σ : ZS) (ad : Nat → Nat) (x : ZW) (i : Nat) : Prop :=
  (zK σ i = 0 → zwk x = 45) ∧ (¬ zK σ i = 0 → zwk x = zK σ i ∧ zwo x = zRD σ i ∧ (∀ d, d < 11 → zSI σ i = nI d → zws x = ad d) ∧ zwr x = zFR σ i ∧ zwc x = zSZ σ i ∧ zwp x = zPL σ i ∧ zwe x = zEN σ i ∧ zwm x = zMK σ i)
def zLv (σ : ZS) (d : Nat) : Prop := (∃ i, i < 8 ∧ ¬ zK σ i = 0 ∧ zSI σ i = nI d) ∨ ∃ r, r < 2 ∧ zRS σ r = nI d
def zHR (g : zG) (P : Nat → Prop) (σ : ZS) (L : List Nat) (f : Nat → va_E) (ah : Nat → Nat) (G Rw : Nat → Option Nat) (rs : Nat → Nat) (wn : Nat → ZW) (ad ln : Nat → Nat) (kd : Nat → Int32) (ct : Nat → Nat → Int64) : Prop :=
  zHE L f ah 13 (zCe g ah G Rw wn) ∧ (∀ i, i < 8 → G i = some (ah (i + 3))) ∧ (∀ r, r < 2 → Rw r = some (rs r)) ∧ (∀ r, r < 2 → ∀ d, d < 11 → zRS σ r = nI d → rs r = ad d) ∧ (∀ i, i < 8 → zRw σ ad (wn i) i) ∧
  (∀ d, d < 11 → zLv σ d → zc L f (ad d) (.inl (g.2 1, ln d, .inr (.inl (ct d)))) ∧ (∀ j, j < ln d → ct d j = zST σ (64 * d + j)) ∧ ¬ P (ad d)) ∧
  (∀ d d', d < 11 → d' < 11 → zLv σ d → zLv σ d' → ad d = ad d' → d = d') ∧ (∀ k, k < 13 → ¬ P (ah k)) ∧ (∀ b, P b → b ∈ L) ∧ zI σ ln kd
/-- h is a house that holds σ, its cells none of P's -/
def zHC (g : zG) (h : Nat) (P : Nat → Prop) (σ : ZS) (L : List Nat) (f : Nat → va_E) : Prop :=
  ∃ (ah : Nat → Nat) (G Rw : Nat → Option Nat) (rs : Nat → Nat) (wn : Nat → ZW) (ad ln : Nat → Nat) (kd : Nat → Int32) (ct : Nat → Nat → Int64), ah 0 = h ∧ zHR g P σ L f ah G Rw rs wn ad ln kd ct
/-- the k-th of the documented exceptions -/
def zXe (es : List String) (k : Int32) (E : String) : Prop := ∃ j, es[j]? = some E ∧ k = nI (j + 1)
section Z14
variable {g : zG} {P : Nat → Prop} {σ σ1 : ZS} {L : List Nat} {f : Nat → va_E} {ah : Nat → Nat} {G Rw : Nat → Option Nat} {rs : Nat → Nat} {wn : Nat → ZW} {ad ln : Nat → Nat} {kd : Nat → Int32} {ct : Nat → Nat → Int64}
theorem zHR.I (H : zHR g P σ L f ah G Rw rs wn ad ln kd ct) : zI σ ln kd := H.2.2.2.2.2.2.2.2.2
theorem zHR.rw (H : zHR g P σ L f ah G Rw rs wn ad ln kd ct) {i : Nat} (hi : i < 8) : zRw σ ad (wn i) i := H.2.2.2.2.1 i hi
theorem zin7 {w : Int32} : zin w 0 7 = true ↔ vp_in w 8 := by
  rw [zin_t, vp_in_iff, Int32.le_iff_toInt_le, Int32.le_iff_toInt_le]
  have h3 : (0 : Int32).toInt = 0 := rfl
  have h4 : (7 : Int32).toInt = 7 := rfl
  rw [h3, h4]
  omega
theorem zin1 {w : Int32} : zin w 0 1 = true ↔ vp_in w 2 := by
  rw [zin_t, vp_in_iff, Int32.le_iff_toInt_le, Int32.le_iff_toInt_le]
  have h3 : (0 : Int32).toInt = 0 := rfl
  have h4 : (1 : Int32).toInt = 1 := rfl
  rw [h3, h4]
  omega
theorem zis7 {w : Int32} : zis σ w = true ↔ vp_in w 8 ∧ ¬ zK σ (Int32.toNatClampNeg w) = 0 := by
  rw [zis_t, ← zin_t, zin7]
theorem zKind45 {k : Int32} (h : zKind k) : ¬ k = 45 := by rcases h with h | h | h | h <;> rw [h] <;> decide
theorem zH_is (H : zHR g P σ L f ah G Rw rs wn ad ln kd ct) {w : Int32} : (vp_in w 8 ∧ ¬ zwk (wn (Int32.toNatClampNeg w)) = 45) ↔ zis σ w = true := by
  rw [zis7]
  constructor
  · rintro ⟨h1, h2⟩
    exact ⟨h1, fun q => h2 ((H.rw (vp_lt h1)).1 q)⟩
  · rintro ⟨h1, h2⟩
    refine ⟨h1, fun q => ?_⟩
    rw [((H.rw (vp_lt h1)).2 h2).1] at q
    exact zKind45 (H.I.1 _ (vp_lt h1) h2).2.1 q
theorem zH_win (H : zHR g P σ L f ah G Rw rs wn ad ln kd ct) {w : Int32} (h : zis σ w = true) : zwk (wn (Int32.toNatClampNeg w)) = zK σ (Int32.toNatClampNeg w) ∧ zwo (wn (Int32.toNatClampNeg w)) = zRD σ (Int32.toNatClampNeg w) ∧ zwr (wn (Int32.toNatClampNeg w)) = zFR σ (Int32.toNatClampNeg w) ∧ zwc (wn (Int32.toNatClampNeg w)) = zSZ σ (Int32.toNatClampNeg w) ∧ zwp (wn (Int32.toNatClampNeg w)) = zPL σ (Int32.toNatClampNeg w) ∧ zwe (wn (Int32.toNatClampNeg w)) = zEN σ (Int32.toNatClampNeg w) ∧ zwm (wn (Int32.toNatClampNeg w)) = zMK σ (Int32.toNatClampNeg w) := by
  obtain ⟨h1, h2⟩ := zis7.mp h
  obtain ⟨a1, a2, -, a4, a5, a6, a7, a8⟩ := (H.rw (vp_lt h1)).2 h2
  exact ⟨a1, a2, a4, a5, a6, a7, a8⟩
/-- the store of a window -/
theorem zH_st (H : zHR g P σ L f ah G Rw rs wn ad ln kd ct) {w : Int32} (h : zis σ w = true) : ∃ d, d < 11 ∧ zSI σ (Int32.toNatClampNeg w) = nI d ∧ zws (wn (Int32.toNatClampNeg w)) = ad d ∧ zLv σ d ∧ zc L f (ad d) (.inl (g.2 1, ln d, .inr (.inl (ct d)))) ∧ (∀ j, j < ln d → ct d j = zST σ (64 * d + j)) ∧ kd d = zK σ (Int32.toNatClampNeg w) := by
  obtain ⟨h1, h2⟩ := zis7.mp h
  obtain ⟨⟨d, fr, sz, pl, en, h3, -, -, -, -, h8, -⟩, hk, hd⟩ := H.I.1 _ (vp_lt h1) h2
  have hl : zLv σ d := Or.inl ⟨_, vp_lt h1, h2, h3⟩
  obtain ⟨a1, a2, -⟩ := H.2.2.2.2.2.1 d h8 hl
  exact ⟨d, h8, h3, ((H.rw (vp_lt h1)).2 h2).2.2.1 d h8 h3, hl, a1, a2, hd d h8 h3⟩
/-- other windows are as they were -/
def zSmW (σ σ1 : ZS) (i : Nat) : Prop := zK σ1 i = zK σ i ∧ zSI σ1 i = zSI σ i ∧ zFR σ1 i = zFR σ i ∧ zSZ σ1 i = zSZ σ i ∧ zPL σ1 i = zPL σ i ∧ zEN σ1 i = zEN σ i ∧ zMK σ1 i = zMK σ i ∧ zRD σ1 i = zRD σ i
theorem zI_set {j : Nat} (hI : zI σ ln kd) (hst : zST σ1 = zST σ) (hrs : zRS σ1 = zRS σ) (hrl : zRL σ1 = zRL σ) (hoth : ∀ i, i < 8 → i ≠ j → zSmW σ σ1 i)
    (hwin : ¬ zK σ1 j = 0 → zWin σ1 ln j ∧ zKind (zK σ1 j) ∧ ∀ d, d < 11 → zSI σ1 j = nI d → kd d = zK σ1 j) : zI σ1 ln kd := by
  refine ⟨fun i hi hK => ?_, by rw [hrs, hrl]; exact hI.2.1, by rw [hst]; exact hI.2.2⟩
  by_cases q : i = j
  · rw [q] at hK ⊢
    exact hwin hK
  · obtain ⟨e1, e2, e3, e4, e5, e6, e7, e8⟩ := hoth i hi q
    unfold zWin
    rw [e1] at hK ⊢
    rw [e2, e3, e4, e5, e6, e7, e8]
    exact hI.1 i hi hK
theorem zHR_set (H : zHR g P σ L f ah G Rw rs wn ad ln kd ct) {j : Nat} (hj : j < 8) (x1 : ZW) (hst : zST σ1 = zST σ) (hrs : zRS σ1 = zRS σ) (hoth : ∀ i, i < 8 → i ≠ j → zSmW σ σ1 i) (hx : zRw σ1 ad x1 j)
    (hlv : ∀ d, d < 11 → ¬ zK σ1 j = 0 → zSI σ1 j = nI d → zLv σ d) (hI1 : zI σ1 ln kd) : zHR g P σ1 L (va_up f (ah (j + 3)) (.inr (0, zwf x1))) ah G Rw rs (va_up wn j x1) ad ln kd ct := by
  obtain ⟨hE, hG, hRw, hrd, hw, hd, hin, hP, hPL, hI⟩ := H
  have hl : ∀ d, d < 11 → zLv σ1 d → zLv σ d := fun d hd9 h => by
    rcases h with ⟨i, h1, h2, h3⟩ | ⟨r, h1, h2⟩
    · by_cases q : i = j
      · rw [q] at h2 h3
        exact hlv d hd9 h2 h3
      · obtain ⟨e1, e2, -⟩ := hoth i h1 q
        rw [e1] at h2
        rw [e2] at h3
        exact Or.inl ⟨i, h1, h2, h3⟩
    · rw [hrs] at h2
      exact Or.inr ⟨r, h1, h2⟩
  refine ⟨hE.up (j + 3) (by omega) _ ?_ ?_, hG, hRw, by rw [hrs]; exact hrd, fun i hi => ?_, fun d hd9 h => ?_, fun d d' h1 h2 h3 h4 => hin d d' h1 h2 (hl d h1 h3) (hl d' h2 h4), hP, hPL, hI1⟩
  · show Sum.inr (0, zwf (va_up wn j x1 j)) = _
    rw [va_up_self]
  · intro k hk hne
    match k, hne with
    | 0, _ => rfl
    | 1, _ => rfl
    | 2, _ => rfl
    | k + 3, hne =>
      show Sum.inr (0, zwf (va_up wn j x1 k)) = Sum.inr (0, zwf (wn k))
      rw [va_up_ne _ _ (fun q => hne (by rw [q]))]
  · by_cases q : i = j
    · rw [q, va_up_self]
      exact hx
    · rw [va_up_ne _ _ q]
      obtain ⟨e1, e2, e3, e4, e5, e6, e7, e8⟩ := hoth i hi q
      have h := hw i hi
      unfold zRw at h ⊢
      rw [e1, e2, e3, e4, e5, e6, e7, e8]
      exact h
  · obtain ⟨a1, a2, a3⟩ := hd d hd9 (hl d hd9 h)
    refine ⟨a1.ne (a1.dj (hE.1 (j + 3) (by omega)) (by intro h; cases h)), by rw [hst]; exact a2, a3⟩
/-- place, end and mark of a window anew -/
def zPem (σ : ZS) (i : Nat) (pl en mk : Int32) : ZS := zsMK (zsEN (zsPL σ (upd (zPL σ) i pl)) (upd (zEN σ) i en)) (upd (zMK σ) i mk)
theorem zupd_id {F : ZF} {i : Nat} : upd F i (F i) = F := funext fun k => by
  by_cases q : k = i
  · rw [q, pk_us]
  · rw [pk_un q]
theorem zWin_pem {i : Nat} (hw : zWin σ ln i) {pl en mk : Int32} (h : ∃ p e s, pl = nI p ∧ en = nI e ∧ zSZ σ i = nI s ∧ p ≤ e ∧ e ≤ s ∧ s ≤ 64 ∧ (mk = -1 ∨ ∃ k, k ≤ p ∧ mk = nI k)) : zWin (zPem σ i pl en mk) ln i := by
  obtain ⟨d, fr, sz, pl0, en0, h2, h3, h4, h5, h6, h7, h8, h9, h10, h11, -, h13⟩ := hw
  obtain ⟨p, e, s, g1, g2, g3, g4, g5, g6, g7⟩ := h
  rw [g3, nI_eq (by omega) (by omega)] at h4
  subst h4
  refine ⟨d, fr, s, p, e, h2, h3, g3, ?_, ?_, h7, g4, g5, h10, h11, ?_, h13⟩
  · exact pk_us.trans g1
  · exact pk_us.trans g2
  · rcases g7 with g7 | ⟨k, g7, g8⟩
    · exact Or.inl (pk_us.trans g7)
    · exact Or.inr ⟨k, g7, pk_us.trans g8⟩
theorem zSm_pem {i : Nat} {pl en mk : Int32} : ∀ k, k ≠ i → zSmW σ (zPem σ i pl en mk) k := fun k hk => ⟨rfl, rfl, rfl, rfl, pk_un hk, pk_un hk, pk_un hk, rfl⟩
theorem zHR_pem (H : zHR g P σ L f ah G Rw rs wn ad ln kd ct) {w : Int32} (hz : zis σ w = true) {x1 : ZW} {pl en mk : Int32} (hx1 : x1 = (zK σ (Int32.toNatClampNeg w), zRD σ (Int32.toNatClampNeg w), zws (wn (Int32.toNatClampNeg w)), zFR σ (Int32.toNatClampNeg w), zSZ σ (Int32.toNatClampNeg w), pl, en, mk))
    (h : ∃ p e s, pl = nI p ∧ en = nI e ∧ zSZ σ (Int32.toNatClampNeg w) = nI s ∧ p ≤ e ∧ e ≤ s ∧ s ≤ 64 ∧ (mk = -1 ∨ ∃ k, k ≤ p ∧ mk = nI k)) :
    zHR g P (zPem σ (Int32.toNatClampNeg w) pl en mk) L (va_up f (ah (Int32.toNatClampNeg w + 3)) (.inr (0, zwf x1))) ah G Rw rs (va_up wn (Int32.toNatClampNeg w) x1) ad ln kd ct := by
  obtain ⟨h1, h2⟩ := zis7.mp hz
  have hi := vp_lt h1
  obtain ⟨hwin, hk, hd⟩ := H.I.1 _ hi h2
  refine zHR_set H hi x1 rfl rfl (fun k _ hne => zSm_pem k hne) ⟨fun q => absurd q h2, fun _ => ?_⟩ (fun d hd9 hK hs => Or.inl ⟨_, hi, hK, hs⟩) (zI_set H.I rfl rfl rfl (fun k _ hne => zSm_pem k hne) (fun _ => ⟨zWin_pem hwin h, hk, hd⟩))
  rw [hx1]
  exact ⟨rfl, rfl, fun d hd9 hs => ((H.rw hi).2 h2).2.2.1 d hd9 hs, rfl, rfl, pk_us.symm, pk_us.symm, pk_us.symm⟩
/-- a value of a store is written -/
theorem zHR_wr (H : zHR g P σ L f ah G Rw rs wn ad ln kd ct) {d j : Nat} (hd : d < 11) (hl : zLv σ d) (hj : j < ln d) (hln : ln d ≤ 64) {v : Int64} (hv : zcut (kd d) v = v) :
    zHR g P (zsST σ (vp_updL (zST σ) (64 * d + j) v)) L (va_up f (ad d) (.inl (g.2 1, ln d, .inr (.inl (vp_updL (ct d) j v))))) ah G Rw rs wn ad ln kd (va_up ct d (vp_updL (ct d) j v)) := by
  obtain ⟨hE, hG, hRw, hrd, hw, hdd, hin, hP, hPL, hI⟩ := H
  have hc := (hdd d hd hl).1
  refine ⟨⟨fun k hk => (hE.1 k hk).ne ((hE.1 k hk).dj hc ?_), hE.2⟩, hG, hRw, hrd, hw, fun d' hd' hl' => ?_, hin, hP, hPL, hI.1, hI.2.1, fun d' j' h1 h2 => ?_⟩
  · match k with
    | 0 => intro h; cases h
    | 1 => intro h; simp [zCe] at h
    | 2 => intro h; simp [zCe] at h
    | k + 3 => intro h; cases h
  · by_cases q : d' = d
    · rw [q, va_up_self]
      refine ⟨zc.up hc.1, fun j' hj' => ?_, (hdd d hd hl).2.2⟩
      show vp_updL (ct d) j v j' = vp_updL (zST σ) (64 * d + j) v (64 * d + j')
      by_cases e : j' = j
      · rw [e, pk_uLs, pk_uLs]
      · rw [pk_uLn e, pk_uLn (by omega)]
        exact (hdd d hd hl).2.1 j' hj'
    · rw [va_up_ne _ _ q]
      obtain ⟨a1, a2, a3⟩ := hdd d' hd' hl'
      refine ⟨a1.ne (fun e => q (hin d' d hd' hd hl' hl e)), fun j' hj' => ?_, a3⟩
      show ct d' j' = vp_updL (zST σ) (64 * d + j) v (64 * d' + j')
      have h64 : ln d' ≤ 64 := by
        rcases hl' with ⟨i, h1, h2, h3⟩ | ⟨r, h1, h2⟩
        · obtain ⟨⟨d2, fr, sz, pl, en, g2, g3, g4, g5, g6, g7, g8, g9, g10, g11, -⟩, -⟩ := hI.1 i h1 h2
          rw [h3, nI_eq (by omega) (by omega)] at g2
          rw [g2]; exact g11
        · obtain ⟨d2, g1, g2, g3, g4, -⟩ := hI.2.1 r h1
          rw [h2, nI_eq (by omega) (by omega)] at g2
          rw [g2]; exact g4
      rw [pk_uLn (by omega)]
      exact a2 j' hj'
  · show zcut (kd d') (vp_updL (zST σ) (64 * d + j) v (64 * d' + j')) = vp_updL (zST σ) (64 * d + j) v (64 * d' + j')
    by_cases e : 64 * d' + j' = 64 * d + j
    · have : d' = d := by omega
      rw [e, pk_uLs, this]
      exact hv
    · rw [pk_uLn e]
      exact hI.2.2 d' j' h1 h2
theorem zcut2 (k : Int32) (v : Int64) : zcut k (zcut k v) = zcut k v := by
  unfold zcut
  by_cases h1 : k = 105
  · simp only [if_pos h1]
    rw [Int32.toInt32_toInt64]
  · simp only [if_neg h1]
    by_cases h2 : k = 99
    · simp only [if_pos h2]
      rw [Int64.and_assoc]
      rfl
    · simp only [if_neg h2]
      by_cases h3 : k = 115
      · simp only [if_pos h3]
        rw [Int32.toInt32_toInt64, Int16.toInt16_toInt32]
      · simp only [if_neg h3]
/-- frames -/
theorem zfr_win (H : zHR g P σ L f ah G Rw rs wn ad ln kd ct) {k : Nat} (hk : k < 13) {e : va_E} : ∀ b, P b → va_up f (ah k) e b = f b := fun b hb => va_up_ne _ _ (fun q => H.2.2.2.2.2.2.2.1 k hk (q ▸ hb))
theorem zfr_st (H : zHR g P σ L f ah G Rw rs wn ad ln kd ct) {d : Nat} (hd : d < 11) (hl : zLv σ d) {e : va_E} : ∀ b, P b → va_up f (ad d) e b = f b := fun b hb => va_up_ne _ _ (fun q => (H.2.2.2.2.2.1 d hd hl).2.2 (q ▸ hb))
end Z14

