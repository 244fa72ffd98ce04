section Z15c
variable {g : zG} {P : Nat → Prop} {σ σ1 : ZS} {L : List Nat} {f : Nat → va_E} {ah : Nat → Nat} {G Rw : Nat → Option Nat} {rs : Nat → Nat} {wn : Nat → ZW} {ad ln : Nat → Nat} {kd : Nat → Int32} {ct : Nat → Nat → Int64}
/-- the store d, whether it is in use or not -/
def zSt (g : zG) (P : Nat → Prop) (σ : ZS) (L : List Nat) (f : Nat → va_E) (ad ln : Nat → Nat) (ct : Nat → Nat → Int64) (d : Nat) : Prop :=
  zc L f (ad d) (.inl (g.2 1, ln d, .inr (.inl (ct d)))) ∧ (∀ j, j < ln d → ct d j = zST σ (64 * d + j)) ∧ ¬ P (ad d) ∧ ∀ d', d' < 11 → zLv σ d' → ad d' = ad d → d' = d
theorem zHR.St (H : zHR g P σ L f ah G Rw rs wn ad ln kd ct) {d : Nat} (hd : d < 11) (hl : zLv σ d) : zSt g P σ L f ad ln ct d := by
  obtain ⟨hE, hG, hRw, hrd, hw, hdd, hin, hP, hPL, hI⟩ := H
  obtain ⟨a1, a2, a3⟩ := hdd d hd hl
  exact ⟨a1, a2, a3, fun d' h1 h2 h3 => hin d' d h1 hd h2 hl h3⟩
theorem zHR_set2 (H : zHR g P σ L f ah G Rw rs wn ad ln kd ct) {j : Nat} (hj : j < 8) (x1 : ZW) (hst : zST σ1 = zST σ) (hrs : zRS σ1 = zRS σ) (hoth : ∀ i, i < 8 → i ≠ j → zSmW σ σ1 i) (hx : zRw σ1 ad x1 j)
    (hlv : ∀ d, d < 11 → ¬ zK σ1 j = 0 → zSI σ1 j = nI d → zSt g P σ L f ad ln ct d) (hI1 : zI σ1 ln kd) : zHR g P σ1 L (va_up f (ah (j + 3)) (.inr (0, zwf x1))) ah G Rw rs (va_up wn j x1) ad ln kd ct := by
  have hS := fun d hd hl => zHR.St H (d := d) hd hl
  obtain ⟨hE, hG, hRw, hrd, hw, hd, hin, hP, hPL, hI⟩ := H
  have hl : ∀ d, d < 11 → zLv σ1 d → zLv σ d ∨ (¬ zK σ1 j = 0 ∧ zSI σ1 j = nI d) := fun d hd9 h => by
    rcases h with ⟨i, h1, h2, h3⟩ | ⟨r, h1, h2⟩
    · by_cases q : i = j
      · rw [q] at h2 h3
        exact Or.inr ⟨h2, h3⟩
      · obtain ⟨e1, e2, -⟩ := hoth i h1 q
        rw [e1] at h2
        rw [e2] at h3
        exact Or.inl (Or.inl ⟨i, h1, h2, h3⟩)
    · rw [hrs] at h2
      exact Or.inl (Or.inr ⟨r, h1, h2⟩)
  have hS1 : ∀ d, d < 11 → zLv σ1 d → zSt g P σ L f ad ln ct d := fun d hd9 h => by
    rcases hl d hd9 h with h | ⟨h, h1⟩
    · exact hS d hd9 h
    · exact hlv d hd9 h h1
  refine ⟨hE.up (j + 3) (by omega) _ ?_ ?_, hG, hRw, by rw [hrs]; exact hrd, fun i hi => ?_, fun d hd9 h => ?_, fun d d' h1 h2 h3 h4 h5 => ?_, hP, hPL, hI1⟩
  · show Sum.inr (0, zwf (va_up wn j x1 j)) = _
    rw [va_up_self]
  · intro k hk hne
    match k, hne with
    | 0, _ => rfl
    | 1, _ => rfl
    | 2, _ => rfl
    | k + 3, hne =>
      show Sum.inr (0, zwf (va_up wn j x1 k)) = Sum.inr (0, zwf (wn k))
      rw [va_up_ne _ _ (fun q => hne (by rw [q]))]
  · by_cases q : i = j
    · rw [q, va_up_self]
      exact hx
    · rw [va_up_ne _ _ q]
      obtain ⟨e1, e2, e3, e4, e5, e6, e7, e8⟩ := hoth i hi q
      have h := hw i hi
      unfold zRw at h ⊢
      rw [e1, e2, e3, e4, e5, e6, e7, e8]
      exact h
  · obtain ⟨a1, a2, a3, -⟩ := hS1 d hd9 h
    refine ⟨a1.ne (a1.dj (hE.1 (j + 3) (by omega)) (by intro h; cases h)), by rw [hst]; exact a2, a3⟩
  · rcases hl d h1 h3 with q1 | ⟨q1, q2⟩
    · exact (hS1 d' h2 h4).2.2.2 d h1 q1 h5
    · rcases hl d' h2 h4 with q3 | ⟨q3, q4⟩
      · exact ((hS1 d h1 h3).2.2.2 d' h2 q3 h5.symm).symm
      · rw [q2, nI_eq (by omega) (by omega)] at q4
        exact q4
theorem zBec_oth {j : Nat} {k si fr sz rd : Int32} : ∀ i, i ≠ j → zSmW σ (zBecomes σ j k si fr sz rd) i := fun i h => ⟨pk_un h, pk_un h, pk_un h, pk_un h, pk_un h, pk_un h, pk_un h, pk_un h⟩
theorem zRd_nar {rd : Int32} (h : rd = 0 ∨ rd = 1) : vp_nar .boolean rd = rd := by rcases h with e | e <;> rw [e] <;> rfl
/-- a window is laid over a store -/
theorem zHR_bec (H : zHR g P σ L f ah G Rw rs wn ad ln kd ct) {j : Nat} (hj : j < 8) {d fr sz : Nat} {k rd si fr9 sz9 : Int32} {x1 : ZW} (hx1 : x1 = (k, rd, ad d, fr9, sz9, 0, sz9, -1)) (hsi : si = nI d) (hfr : fr9 = nI fr) (hsz : sz9 = nI sz) (hk : zKind k) (hd : d < 11) (hS : zSt g P σ L f ad ln ct d) (hl64 : ln d ≤ 64) (hkd : kd d = k) (hfs : fr + sz ≤ ln d) (hrd : rd = 0 ∨ rd = 1) :
    zHR g P (zBecomes σ j k si fr9 sz9 rd) L (va_up f (ah (j + 3)) (.inr (0, zwf x1))) ah G Rw rs (va_up wn j x1) ad ln kd ct := by
  subst hx1
  subst hsi
  subst hfr
  subst hsz
  have hKj : zK (zBecomes σ j k (nI d) (nI fr) (nI sz) rd) j = k := pk_us
  have hSj : zSI (zBecomes σ j k (nI d) (nI fr) (nI sz) rd) j = nI d := pk_us
  have hFj : zFR (zBecomes σ j k (nI d) (nI fr) (nI sz) rd) j = nI fr := pk_us
  have hZj : zSZ (zBecomes σ j k (nI d) (nI fr) (nI sz) rd) j = nI sz := pk_us
  have hPj : zPL (zBecomes σ j k (nI d) (nI fr) (nI sz) rd) j = 0 := pk_us
  have hEj : zEN (zBecomes σ j k (nI d) (nI fr) (nI sz) rd) j = nI sz := pk_us
  have hMj : zMK (zBecomes σ j k (nI d) (nI fr) (nI sz) rd) j = -1 := pk_us
  have hRj : zRD (zBecomes σ j k (nI d) (nI fr) (nI sz) rd) j = rd := pk_us.trans (zRd_nar hrd)
  have hk0 : ¬ k = 0 := by rcases hk with e | e | e | e <;> rw [e] <;> decide
  have hd' : ∀ d', d' < 11 → nI d = nI d' → d = d' := fun d' h1 h2 => by rw [nI_eq (by omega) (by omega)] at h2; exact h2
  refine zHR_set2 H hj _ rfl rfl (fun i _ h => zBec_oth i h) ⟨fun q => ?_, fun _ => ?_⟩ (fun d' h1 _ h3 => ?_) (zI_set H.I rfl rfl rfl (fun i _ h => zBec_oth i h) (fun _ => ⟨?_, ?_, fun d' h1 h2 => ?_⟩))
  · rw [hKj] at q
    exact absurd q hk0
  · rw [hKj, hSj, hFj, hZj, hPj, hEj, hMj, hRj]
    exact ⟨rfl, rfl, fun d' h1 h2 => by rw [hd' d' h1 h2], rfl, rfl, rfl, rfl, rfl⟩
  · rw [hSj] at h3
    rw [← hd' d' h1 h3]
    exact hS
  · exact ⟨d, fr, sz, 0, sz, hSj, hFj, hZj, hPj, hEj, hd, Nat.zero_le _, Nat.le_refl _, hfs, hl64, Or.inl hMj, by rw [hRj]; exact hrd⟩
  · rw [hKj]; exact hk
  · rw [hSj] at h2
    rw [hKj, ← hd' d' h1 h2]
    exact hkd
theorem zLv_64 (H : zHR g P σ L f ah G Rw rs wn ad ln kd ct) {d : Nat} (hd : d < 11) (hl : zLv σ d) : ln d ≤ 64 := by
  have hI := H.I
  rcases hl with ⟨i, h1, h2, h3⟩ | ⟨r, h1, h2⟩
  · obtain ⟨⟨d2, fr, sz, pl, en, g2, g3, g4, g5, g6, g7, g8, g9, g10, g11, -⟩, -⟩ := hI.1 i h1 h2
    rw [h3, nI_eq (by omega) (by omega)] at g2
    rw [g2]; exact g11
  · obtain ⟨d2, g1, g2, g3, g4, -⟩ := hI.2.1 r h1
    rw [h2, nI_eq (by omega) (by omega)] at g2
    rw [g2]; exact g4
theorem zH_kb (H : zHR g P σ L f ah G Rw rs wn ad ln kd ct) {w : Int32} (h : zis σ w = true) : zKind (zK σ (Int32.toNatClampNeg w)) ∧ zchar (zwk (wn (Int32.toNatClampNeg w))) ∧ zbool (zwo (wn (Int32.toNatClampNeg w))) ∧ (zRD σ (Int32.toNatClampNeg w) = 0 ∨ zRD σ (Int32.toNatClampNeg w) = 1) := by
  obtain ⟨hk, ho, -⟩ := zH_win H h
  have hw := zI_win H.I h
  have h1 := (H.I.1 _ (vp_lt (zis_7 h)) (zis_t.mp h).2).2.1
  exact ⟨h1, by rw [hk]; exact zchar_of h1, by rw [ho]; exact zbool_of (zWin_rd hw), zWin_rd hw⟩
/-- a part of a window, a window of its own -/
theorem zHR_slice (H : zHR g P σ L f ah G Rw rs wn ad ln kd ct) {w : Int32} (h : zis σ w = true) {j : Nat} (hj : j < 8) {x n : Int32} {xn nn : Nat} (hx : x = nI xn) (hn : n = nI nn) (hb : nI (xn + nn) ≤ zEN σ (Int32.toNatClampNeg w)) (hxn : xn + nn ≤ 64) {x1 : ZW} (hx1 : x1 = (zwk (wn (Int32.toNatClampNeg w)), zwo (wn (Int32.toNatClampNeg w)), zws (wn (Int32.toNatClampNeg w)), zwr (wn (Int32.toNatClampNeg w)) + x, n, 0, n, -1)) :
    zHR g P (zBecomes σ j (zK σ (Int32.toNatClampNeg w)) (zSI σ (Int32.toNatClampNeg w)) (zFR σ (Int32.toNatClampNeg w) + x) n (zRD σ (Int32.toNatClampNeg w))) L (va_up f (ah (j + 3)) (.inr (0, zwf x1))) ah G Rw rs (va_up wn j x1) ad ln kd ct := by
  obtain ⟨hk, ho, hr, hc, hp, he, hm⟩ := zH_win H h
  obtain ⟨d, g1, g2, g3, g4, g5, g6, g7⟩ := zH_st H h
  obtain ⟨k1, -, -, k4⟩ := zH_kb H h
  obtain ⟨d2, fr, sz, pl, en, h2, h3, h4, h5, h6, h7, h8, h9, h10, h11, -⟩ := zI_win H.I h
  rw [g2, nI_eq (by omega) (by omega)] at h2
  subst h2
  rw [h6, nI_leI (by omega) (by omega)] at hb
  refine zHR_bec H hj (d := d) (fr := fr + xn) (sz := nn) (by rw [hx1, hk, ho, hr, g3]) g2 (by rw [h3, hx, nI_add]) hn k1 g1 (H.St g1 g4) h11 g7 (by omega) k4
theorem zBec_is {j : Int32} {k si fr sz rd : Int32} (h : zin j 0 7 = true) (hk : zKind k) : zis (zBecomes σ (Int32.toNatClampNeg j) k si fr sz rd) j = true := by
  rw [zis_t, ← zin_t]
  refine ⟨h, ?_⟩
  show ¬ upd (zK σ) (Int32.toNatClampNeg j) k (Int32.toNatClampNeg j) = 0
  rw [pk_us]
  rcases hk with e | e | e | e <;> rw [e] <;> decide
/-- a twin of a window, which only reads or not -/
theorem zHR_twin (H : zHR g P σ L f ah G Rw rs wn ad ln kd ct) {w : Int32} (h : zis σ w = true) {j : Int32} (hj : zin j 0 7 = true) {rd : Int32} (hrd : rd = 0 ∨ rd = 1) {x1 : ZW} (hx1 : x1 = (zwk (wn (Int32.toNatClampNeg w)), rd, zws (wn (Int32.toNatClampNeg w)), zwr (wn (Int32.toNatClampNeg w)), zwc (wn (Int32.toNatClampNeg w)), zwp (wn (Int32.toNatClampNeg w)), zwe (wn (Int32.toNatClampNeg w)), zwm (wn (Int32.toNatClampNeg w)))) :
    zHR g P (zPem (zBecomes σ (Int32.toNatClampNeg j) (zK σ (Int32.toNatClampNeg w)) (zSI σ (Int32.toNatClampNeg w)) (zFR σ (Int32.toNatClampNeg w)) (zSZ σ (Int32.toNatClampNeg w)) rd) (Int32.toNatClampNeg j) (zPL σ (Int32.toNatClampNeg w)) (zEN σ (Int32.toNatClampNeg w)) (zMK σ (Int32.toNatClampNeg w))) L (va_up f (ah (Int32.toNatClampNeg j + 3)) (.inr (0, zwf x1))) ah G Rw rs (va_up (va_up wn (Int32.toNatClampNeg j) (zK σ (Int32.toNatClampNeg w), rd, zws (wn (Int32.toNatClampNeg w)), zFR σ (Int32.toNatClampNeg w), zSZ σ (Int32.toNatClampNeg w), 0, zSZ σ (Int32.toNatClampNeg w), -1)) (Int32.toNatClampNeg j) x1) ad ln kd ct := by
  obtain ⟨hk, ho, hr, hc, hp, he, hm⟩ := zH_win H h
  obtain ⟨d, g1, g2, g3, g4, g5, g6, g7⟩ := zH_st H h
  obtain ⟨k1, -, -, k4⟩ := zH_kb H h
  obtain ⟨d2, fr, sz, pl, en, h2, h3, h4, h5, h6, h7, h8, h9, h10, h11, h12, -⟩ := zI_win H.I h
  rw [g2, nI_eq (by omega) (by omega)] at h2
  subst h2
  have H1 := zHR_bec H (vp_lt (zin7.mp hj)) (d := d) (fr := fr) (sz := sz) (x1 := (zK σ (Int32.toNatClampNeg w), rd, zws (wn (Int32.toNatClampNeg w)), zFR σ (Int32.toNatClampNeg w), zSZ σ (Int32.toNatClampNeg w), 0, zSZ σ (Int32.toNatClampNeg w), -1)) (by rw [g3]) g2 h3 h4 k1 g1 (H.St g1 g4) h11 g7 h10 hrd
  have hsz : zSZ (zBecomes σ (Int32.toNatClampNeg j) (zK σ (Int32.toNatClampNeg w)) (zSI σ (Int32.toNatClampNeg w)) (zFR σ (Int32.toNatClampNeg w)) (zSZ σ (Int32.toNatClampNeg w)) rd) (Int32.toNatClampNeg j) = nI sz := pk_us.trans h4
  have H2 := zHR_pem H1 (zBec_is hj k1) (x1 := x1) (pl := zPL σ (Int32.toNatClampNeg w)) (en := zEN σ (Int32.toNatClampNeg w)) (mk := zMK σ (Int32.toNatClampNeg w)) ?_ ⟨pl, en, sz, h5, h6, hsz, h8, h9, by omega, h12⟩
  · rw [zu_up] at H2
    exact H2
  · rw [va_up_self, hx1]
    show _ = (upd (zK σ) _ _ _, upd (zRD σ) _ _ _, zws (wn _), upd (zFR σ) _ _ _, upd (zSZ σ) _ _ _, _, _, _)
    rw [pk_us, pk_us, pk_us, pk_us, zRd_nar hrd, hk, hr, hc, hp, he, hm]
theorem oz_slice {w j : Int32} (h : zis σ w = true) (h1 : zin j 0 7 = true) : o_slice σ w j = (0, zEN σ (Int32.toNatClampNeg w) - zPL σ (Int32.toNatClampNeg w), zBecomes σ (Int32.toNatClampNeg j) (zK σ (Int32.toNatClampNeg w)) (zSI σ (Int32.toNatClampNeg w)) (zFR σ (Int32.toNatClampNeg w) + zPL σ (Int32.toNatClampNeg w)) (zEN σ (Int32.toNatClampNeg w) - zPL σ (Int32.toNatClampNeg w)) (zRD σ (Int32.toNatClampNeg w))) := by
  unfold o_slice
  rw [if_pos h, if_pos h1]
  exact congrArg (fun z => ((0 : Int32), z, zBecomes σ (Int32.toNatClampNeg j) (zK σ (Int32.toNatClampNeg w)) (zSI σ (Int32.toNatClampNeg w)) (zFR σ (Int32.toNatClampNeg w) + zPL σ (Int32.toNatClampNeg w)) (zEN σ (Int32.toNatClampNeg w) - zPL σ (Int32.toNatClampNeg w)) (zRD σ (Int32.toNatClampNeg w)))) (pk_us (f := zSZ σ) (k := Int32.toNatClampNeg j) (x := zEN σ (Int32.toNatClampNeg w) - zPL σ (Int32.toNatClampNeg w)))
theorem oz_sliceAt_bad {w x n j : Int32} (h : ¬ (zis σ w = true ∧ zin x 0 (zEN σ (Int32.toNatClampNeg w)) = true ∧ zin n 0 (zEN σ (Int32.toNatClampNeg w) - x) = true ∧ zin j 0 7 = true)) : o_sliceAt σ w x n j = (1, 0, σ) := by
  unfold o_sliceAt
  by_cases h1 : zis σ w = true
  · rw [if_pos h1]
    by_cases h2 : zin x 0 (zEN σ (Int32.toNatClampNeg w)) = true
    · rw [if_pos h2]
      by_cases h3 : zin n 0 (zEN σ (Int32.toNatClampNeg w) - x) = true
      · rw [if_pos h3]
        exact if_neg (fun h4 => h ⟨h1, h2, h3, h4⟩)
      · exact if_neg h3
    · exact if_neg h2
  · exact if_neg h1
theorem oz_duplicate {w j : Int32} (h : zis σ w = true) (h1 : zin j 0 7 = true) (hr : zRD σ (Int32.toNatClampNeg w) = 0 ∨ zRD σ (Int32.toNatClampNeg w) = 1) : o_duplicate σ w j = (0, zEN σ (Int32.toNatClampNeg w) - zPL σ (Int32.toNatClampNeg w), zPem (zBecomes σ (Int32.toNatClampNeg j) (zK σ (Int32.toNatClampNeg w)) (zSI σ (Int32.toNatClampNeg w)) (zFR σ (Int32.toNatClampNeg w)) (zSZ σ (Int32.toNatClampNeg w)) (zRD σ (Int32.toNatClampNeg w))) (Int32.toNatClampNeg j) (zPL σ (Int32.toNatClampNeg w)) (zEN σ (Int32.toNatClampNeg w)) (zMK σ (Int32.toNatClampNeg w))) := by
  unfold o_duplicate o_twin
  rw [if_pos h, if_pos h1]
  rcases hr with e | e
  · rw [e]; rfl
  · rw [e]; rfl
theorem oz_readOnly {w j : Int32} (h : zis σ w = true) (h1 : zin j 0 7 = true) : o_readOnly σ w j = (0, zEN σ (Int32.toNatClampNeg w) - zPL σ (Int32.toNatClampNeg w), zPem (zBecomes σ (Int32.toNatClampNeg j) (zK σ (Int32.toNatClampNeg w)) (zSI σ (Int32.toNatClampNeg w)) (zFR σ (Int32.toNatClampNeg w)) (zSZ σ (Int32.toNatClampNeg w)) 1) (Int32.toNatClampNeg j) (zPL σ (Int32.toNatClampNeg w)) (zEN σ (Int32.toNatClampNeg w)) (zMK σ (Int32.toNatClampNeg w))) := by
  unfold o_readOnly o_twin
  rw [if_pos h, if_pos h1]
  by_cases e : zRD σ (Int32.toNatClampNeg w) = 0
  · rw [if_pos e]; rfl
  · rw [if_neg e]; rfl
/-- a row -/
theorem zH_row (H : zHR g P σ L f ah G Rw rs wn ad ln kd ct) {w : Int32} (h : zin w 0 1 = true) : ∃ d, d < 11 ∧ zRS σ (Int32.toNatClampNeg w) = nI d ∧ rs (Int32.toNatClampNeg w) = ad d ∧ zLv σ d ∧ zc L f (ad d) (.inl (g.2 1, ln d, .inr (.inl (ct d)))) ∧ (∀ j, j < ln d → ct d j = zST σ (64 * d + j)) ∧ kd d = 105 ∧ zRL σ (Int32.toNatClampNeg w) = nI (ln d) ∧ ln d ≤ 64 := by
  have hr := vp_lt (zin_1 h)
  obtain ⟨d, h1, h2, h3, h4, h5⟩ := H.I.2.1 _ hr
  have hl : zLv σ d := Or.inr ⟨_, hr, h2⟩
  obtain ⟨a1, a2, -⟩ := H.St h1 hl
  exact ⟨d, h1, h2, H.2.2.2.1 _ hr d h1 h2, hl, a1, a2, h5, h3, h4⟩
theorem zin_m1 {x : Int32} {n : Nat} (hn : n ≤ 64) : zin x 0 (nI n - 1) = true ↔ ¬ x < 0 ∧ x < nI n := by
  constructor
  · intro h
    obtain ⟨h0, h1⟩ := zin_t.mp h
    have h0 := Int32.not_lt.mpr h0
    obtain ⟨k, hk, rfl⟩ := nI_of h0
    refine ⟨h0, ?_⟩
    by_cases he : n = 0
    · subst he
      have h7 : nI k ≤ (-1 : Int32) := h1
      have h8 : (nI k).toInt ≤ (-1 : Int32).toInt := Int32.le_iff_toInt_le.mp h7
      rw [nI_toInt hk] at h8
      have : (-1 : Int32).toInt = -1 := rfl
      omega
    · rw [show (1 : Int32) = nI 1 from rfl, pk_sub (by omega), nI_leI hk (by omega)] at h1
      exact (nI_ltI hk (by omega)).mpr (by omega)
  · rintro ⟨h0, h1⟩
    obtain ⟨k, hk, rfl⟩ := nI_of h0
    rw [nI_ltI hk (by omega)] at h1
    rw [zin_t, show (1 : Int32) = nI 1 from rfl, pk_sub (by omega)]
    exact ⟨nI_pos' hk, (nI_leI hk (by omega)).mpr (by omega)⟩
theorem z_rowat {d n : Nat} {x rw9 : Int32} (hd : d < 11) (hr : rw9 = nI d) (hn : n ≤ 64) (h0 : ¬ x < 0) (h1 : x < nI n) : vp_in x n ∧ Int32.toNatClampNeg x < n ∧ Int32.toNatClampNeg (64 * rw9 + x) = 64 * d + Int32.toNatClampNeg x := by
  obtain ⟨k, hk, rfl⟩ := nI_of h0
  rw [nI_ltI hk (by omega)] at h1
  rw [hr, show (64 : Int32) = nI 64 from rfl, pk_mul, nI_add, nI_clamp (by omega), nI_clamp (by omega)]
  exact ⟨vp_in_nI (by omega) (by omega), h1, rfl⟩
theorem zcut_i {v : Int32} : zcut 105 v.toInt64 = v.toInt64 := by
  unfold zcut
  rw [if_pos rfl, Int32.toInt32_toInt64]
end Z15c

