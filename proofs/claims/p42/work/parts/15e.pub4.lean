theorem zis_K {σ τ : ZS} (h : zK τ = zK σ) (w : Int32) : zis τ w = zis σ w := by
  unfold zis
  rw [h]
theorem nI_l1 : ∀ k, k < 65 → (nI (k + 1)).toInt64 = (nI k).toInt64 + 1 := by decide
theorem z_next {k : Nat} (hk : k < 65) (v st : Int64) : (v + (nI k).toInt64 * st) + st = v + (nI (k + 1)).toInt64 * st := by
  rw [nI_l1 k hk, Int64.add_mul, Int64.one_mul, Int64.add_assoc]
section Z15e
variable {g : zG} {P : Nat → Prop} {σ σ1 : ZS} {L : List Nat} {f : Nat → va_E} {ah : Nat → Nat} {G Rw : Nat → Option Nat} {rs : Nat → Nat} {wn : Nat → ZW} {ad ln : Nat → Nat} {kd : Nat → Int32} {ct : Nat → Nat → Int64}
theorem zFill_ne {i n k : Nat} {v st : Int64} (hw : zWin σ ln i) (h : nI n ≤ zEN σ i - zPL σ i) (hn : n < 2 ^ 31) (hk : k < n) : ¬ zPL (zFill σ i v st k) i = zEN (zFill σ i v st k) i ∧ k < 65 := by
  obtain ⟨h1, h2, h3, h4, -⟩ := zFill_f σ i v st k
  obtain ⟨a1, a2, a3⟩ := zWin_run hw h hn hk
  rw [h1, h2]
  exact ⟨fun e => absurd a3 (by rw [e]; exact Int32.lt_irrefl), by omega⟩
theorem zPour_ne {i j n k : Nat} (hij : i ≠ j) (hw : zWin σ ln i) (hw2 : zWin σ ln j) (h : nI n ≤ zEN σ i - zPL σ i) (h9 : nI n ≤ zEN σ j - zPL σ j) (hn : n < 2 ^ 31) (hk : k < n) : (¬ zPL (zPour σ i j k) i = zEN (zPour σ i j k) i) ∧ ¬ zPL (zPour σ i j k) j = zEN (zPour σ i j k) j := by
  obtain ⟨h1, h0, h2, h3, h4, -⟩ := zPour_f σ hij k
  have a3 := (zWin_run hw h hn hk).2.2
  have b3 := (zWin_run hw2 h9 hn hk).2.2
  rw [h1, h0, h2]
  exact ⟨fun e => absurd a3 (by rw [e]; exact Int32.lt_irrefl), fun e => absurd b3 (by rw [e]; exact Int32.lt_irrefl)⟩
theorem zPour_nx {i j k : Nat} (hij : i ≠ j) : zNx (zInc (zPour σ i j k) i) j (zVal (zPour σ i j k) i (zPL (zPour σ i j k) i)) = zPour σ i j (k + 1) := by
  have e : zPL (zInc (zPour σ i j k) i) j = zPL (zPour σ i j k) j := pk_un (Ne.symm hij)
  unfold zNx
  rw [e]
  rfl
theorem zH_pl (H : zHR g P σ L f ah G Rw rs wn ad ln kd ct) {w : Int32} (h : zis σ w = true) (hne : ¬ zPL σ (Int32.toNatClampNeg w) = zEN σ (Int32.toNatClampNeg w)) : ¬ zwp (wn (Int32.toNatClampNeg w)) < 0 ∧ zwp (wn (Int32.toNatClampNeg w)) < zEN σ (Int32.toNatClampNeg w) := by
  rw [(zH_win H h).2.2.2.2.1]
  exact ⟨(zWin_pl (zI_win H.I h)).1, (zWin_pl (zI_win H.I h)).2 hne⟩
/-- a store's values anew -/
theorem zHR_store (H : zHR g P σ L f ah G Rw rs wn ad ln kd ct) {d : Nat} (hd : d < 11) (hl : zLv σ d) {F S1 : Nat → Int64} (hF : ∀ j, j < ln d → F j = S1 (64 * d + j)) (hoth : ∀ d' j, d' < 11 → j < 64 → d' ≠ d → S1 (64 * d' + j) = zST σ (64 * d' + j)) (hcut : ∀ j, j < 64 → zcut (kd d) (S1 (64 * d + j)) = S1 (64 * d + j)) :
    zHR g P (zsST σ S1) L (va_up f (ad d) (.inl (g.2 1, ln d, .inr (.inl F)))) ah G Rw rs wn ad ln kd (va_up ct d F) := by
  have h64 : ∀ d', d' < 11 → zLv σ d' → ln d' ≤ 64 := fun d' h1 h2 => zLv_64 H h1 h2
  obtain ⟨hE, hG, hRw, hrd, hw, hdd, hin, hP, hPL, hI⟩ := H
  have hc := (hdd d hd hl).1
  refine ⟨⟨fun k hk => (hE.1 k hk).ne ((hE.1 k hk).dj hc ?_), hE.2⟩, hG, hRw, hrd, hw, fun d' hd' hl' => ?_, hin, hP, hPL, hI.1, hI.2.1, fun d' j' h1 h2 => ?_⟩
  · match k with
    | 0 => intro h; cases h
    | 1 => intro h; simp [zCe] at h
    | 2 => intro h; simp [zCe] at h
    | k + 3 => intro h; cases h
  · by_cases q : d' = d
    · rw [q, va_up_self]
      exact ⟨zc.up hc.1, hF, (hdd d hd hl).2.2⟩
    · rw [va_up_ne _ _ q]
      obtain ⟨a1, a2, a3⟩ := hdd d' hd' hl'
      refine ⟨a1.ne (fun e => q (hin d' d hd' hd hl' hl e)), fun j' hj' => ?_, a3⟩
      have h9 := h64 d' hd' hl'
      exact (a2 j' hj').trans (hoth d' j' hd' (by omega) q).symm
  · show zcut (kd d') (S1 (64 * d' + j')) = S1 (64 * d' + j')
    by_cases q : d' = d
    · rw [q]; exact hcut j' h2
    · rw [hoth d' j' h1 h2 q]
      exact hI.2.2 d' j' h1 h2
theorem zLay_st {σ τ : ZS} {S : Nat → Int64} {i : Nat} {a : Int32} {v : Int64} (e : τ = zsST σ S) : zLay τ i a v = zsST σ (zST (zLay τ i a v)) := by
  subst e
  rfl
theorem zComp_st (σ : ZS) (i : Nat) : ∀ k, zComp σ i k = zsST σ (zST (zComp σ i k))
  | 0 => rfl
  | k + 1 => zLay_st (zComp_st σ i k)
/-- what moving the values left to the front makes of the stores -/
theorem zComp_get {i d fr sz pl en : Nat} (h1 : zSI σ i = nI d) (h2 : zFR σ i = nI fr) (h3 : zPL σ i = nI pl) (hpe : pl ≤ en) (hes : en ≤ sz) (hfs : fr + sz ≤ 64) (hd : d < 11) (hcut : ∀ j, j < 64 → zcut (zK σ i) (zST σ (64 * d + j)) = zST σ (64 * d + j)) : ∀ k, k ≤ en - pl → ∀ q, zST (zComp σ i k) q = if 64 * d + fr ≤ q ∧ q < 64 * d + fr + k then zST σ (q + pl) else zST σ q
  | 0, _, q => by rw [if_neg (by omega)]; rfl
  | k + 1, hk, q => by
    have ih := zComp_get h1 h2 h3 hpe hes hfs hd hcut k (by omega)
    have hf := zComp_f σ i k
    have e1 : zAt (zComp σ i k) i (nI k) = nI (64 * d + fr + k) := by
      rw [zAt_eq i hf.2.2.1 hf.2.2.2.1]
      unfold zAt
      rw [h1, h2, show (64 : Int32) = nI 64 from rfl, pk_mul, nI_add, nI_add]
    have e2 : zVal σ i (zPL σ i + nI k) = zST σ (64 * d + (fr + pl + k)) := by
      unfold zVal zAt
      rw [h1, h2, h3, show (64 : Int32) = nI 64 from rfl, pk_mul, nI_add, nI_add, nI_add, nI_clamp (by omega)]
      congr 1
      omega
    show vp_updL (zST (zComp σ i k)) (Int32.toNatClampNeg (zAt (zComp σ i k) i (nI k))) (zcut (zK (zComp σ i k) i) (zVal σ i (zPL σ i + nI k))) q = _
    rw [e1, nI_clamp (by omega), hf.2.2.2.2.2, e2, hcut _ (by omega)]
    by_cases e : q = 64 * d + fr + k
    · rw [e, pk_uLs, if_pos (by omega)]
      congr 1
      omega
    · rw [pk_uLn e, ih q]
      by_cases r : 64 * d + fr ≤ q ∧ q < 64 * d + fr + k
      · rw [if_pos r, if_pos (by omega)]
      · rw [if_neg r, if_neg (by omega)]
theorem zHR_comp (H : zHR g P σ L f ah G Rw rs wn ad ln kd ct) {w : Int32} (h : zis σ w = true) : ∃ d n, d < 11 ∧ zSI σ (Int32.toNatClampNeg w) = nI d ∧ zws (wn (Int32.toNatClampNeg w)) = ad d ∧ zEN σ (Int32.toNatClampNeg w) - zPL σ (Int32.toNatClampNeg w) = nI n ∧ n ≤ 64 ∧ zc L f (ad d) (.inl (g.2 1, ln d, .inr (.inl (ct d)))) ∧ ¬ (zFR σ (Int32.toNatClampNeg w) + zPL σ (Int32.toNatClampNeg w)) < 0 ∧ ¬ zFR σ (Int32.toNatClampNeg w) < 0 ∧ Int32.toNatClampNeg (zFR σ (Int32.toNatClampNeg w) + zPL σ (Int32.toNatClampNeg w)) + n ≤ ln d ∧ Int32.toNatClampNeg (zFR σ (Int32.toNatClampNeg w)) + n ≤ ln d ∧
    (∃ s9 e9 : Nat, n ≤ e9 ∧ zSZ σ (Int32.toNatClampNeg w) = nI s9 ∧ n ≤ s9 ∧ s9 ≤ 64) ∧ (∀ e : va_E, ∀ b, P b → va_up f (ad d) e b = f b) ∧
    zHR g P (zComp σ (Int32.toNatClampNeg w) n) L (va_up f (ad d) (.inl (g.2 1, ln d, .inr (.inl (va_cpy (ct d) (ct d) (Int32.toNatClampNeg (zFR σ (Int32.toNatClampNeg w) + zPL σ (Int32.toNatClampNeg w))) (Int32.toNatClampNeg (zFR σ (Int32.toNatClampNeg w))) n))))) ah G Rw rs wn ad ln kd (va_up ct d (va_cpy (ct d) (ct d) (Int32.toNatClampNeg (zFR σ (Int32.toNatClampNeg w) + zPL σ (Int32.toNatClampNeg w))) (Int32.toNatClampNeg (zFR σ (Int32.toNatClampNeg w))) n)) := by
  obtain ⟨d, g1, g2, g3, g4, g5, g6, g7⟩ := zH_st H h
  obtain ⟨d2, fr, sz, pl, en, h2, h3, h4, h5, h6, h7, h8, h9, h10, h11, -⟩ := zI_win H.I h
  rw [g2, nI_eq (by omega) (by omega)] at h2
  subst h2
  have e1 : zFR σ (Int32.toNatClampNeg w) + zPL σ (Int32.toNatClampNeg w) = nI (fr + pl) := by rw [h3, h5, nI_add]
  have hcut : ∀ j, j < 64 → zcut (zK σ (Int32.toNatClampNeg w)) (zST σ (64 * d + j)) = zST σ (64 * d + j) := fun j hj => by rw [← g7]; exact H.I.2.2 d j g1 hj
  have hget := zComp_get g2 h3 h5 h8 h9 (by omega) g1 hcut (en - pl) (Nat.le_refl _)
  refine ⟨d, en - pl, g1, g2, g3, by rw [h5, h6, pk_sub h8], by omega, g5, by rw [e1]; exact nI_pos (by omega), by rw [h3]; exact nI_pos (by omega), by rw [e1, nI_clamp (by omega)]; omega, by rw [h3, nI_clamp (by omega)]; omega, ⟨sz, en, by omega, h4, by omega, by omega⟩, fun e => zfr_st H g1 g4, ?_⟩
  rw [zComp_st]
  refine zHR_store H g1 g4 (fun j hj => ?_) (fun d' j h1 h2 hne => ?_) (fun j hj => ?_)
  · rw [hget, e1, h3, nI_clamp (by omega), nI_clamp (by omega)]
    unfold va_cpy
    by_cases r : fr ≤ j ∧ j < fr + (en - pl)
    · rw [if_pos r, if_pos (by omega), g6 _ (by omega)]
      congr 1
      omega
    · rw [if_neg r, if_neg (by omega)]
      exact g6 j hj
  · rw [hget, if_neg (by omega)]
  · rw [hget, g7]
    by_cases r : 64 * d + fr ≤ 64 * d + j ∧ 64 * d + j < 64 * d + fr + (en - pl)
    · rw [if_pos r]
      have := hcut (j + pl) (by omega)
      rw [← Nat.add_assoc] at this
      exact this
    · rw [if_neg r]
      exact hcut j hj
theorem oz_compact {w : Int32} {n : Nat} (h : zis σ w = true) (h1 : zRD σ (Int32.toNatClampNeg w) = 0) (hn : zEN σ (Int32.toNatClampNeg w) - zPL σ (Int32.toNatClampNeg w) = nI n) (hn2 : n ≤ 64) : o_compact σ w = (0, nI n, zPem (zComp σ (Int32.toNatClampNeg w) n) (Int32.toNatClampNeg w) (nI n) (zSZ σ (Int32.toNatClampNeg w)) (-1)) := by
  unfold o_compact
  rw [if_pos h, if_pos h1, hn, nI_clamp (by omega), (zComp_f σ (Int32.toNatClampNeg w) n).2.2.2.2.1]
  rfl
/-- one window's part of the checksum -/
theorem c_X0_sumOfAll (l : Launch) (H : zHR g P σ L f ah G Rw rs wn ad ln kd ct) {i : Nat} (hi : i < 8) (p0 : Int64) : zC l yX0_sumOfAll wsX0_sumOfAll { frames := 2, cells := 0, slots := 0, locals := 49 } 0 0 g [.ref (ah (i + 3)), .long p0] L f (fun r L1 f1 => some (.long (zCkw σ i p0)) = r ∧ L = L1 ∧ f = f1) zNo := by
  have hc : zc L f (ah (i + 3)) (.inr (0, zwf (wn i))) := H.1.1 (i + 3) (by omega)
  unfold zCkw
  by_cases q : zK σ i = 0
  · have h45 := (H.rw hi).1 q
    have e : (zwk (wn i)).toInt64 = (45 : Int32).toInt64 := congrArg Int32.toInt64 h45
    rw [if_pos q, ← e]
    exact c_X0_sumOfAll_n l g L f (ah (i + 3)) (wn i) p0 hc h45
  · have hz : zis σ (nI i) = true := (zis_n hi).mpr q
    have hiw : Int32.toNatClampNeg (nI i) = i := nI_clamp (by omega)
    obtain ⟨d, g1, g2, g3, g4, g5, g6, g7⟩ := zH_st H hz
    have hv := fun x h0 h1 => zH_val H hz g2 g1 (x := x) h0 h1
    have hw := zH_win H hz
    have hkb := zH_kb H hz
    have hwin := zI_win H.I hz
    rw [hiw] at g2 g3 g7 hv hw hkb hwin
    obtain ⟨hk, ho, hr, hc9, hp, he, hm⟩ := hw
    obtain ⟨hen, he64⟩ := zWin_en hwin
    have hx : ∀ k, k < Int32.toNatClampNeg (zEN σ i) → ¬ ((0 : Int32) + nI k) < 0 ∧ ((0 : Int32) + nI k) < zEN σ i := fun k hk9 => by
      rw [Int32.zero_add, hen]
      exact ⟨nI_pos (by omega), (nI_ltI (by omega) (by omega)).mpr hk9⟩
    rw [← g3] at g5
    have h45 : ¬ zwk (wn i) = 45 := by rw [hk]; exact zKind45 hkb.1
    have h := c_X0_sumOfAll_y l g L f (ah (i + 3)) (wn i) p0 (Int32.toNatClampNeg (zEN σ i)) hc g5 he64 (fun k hk9 => by
      rw [he, hen, Int32.zero_add, nI_clamp (by omega), nI_leI (by omega) (by omega)]) (fun k hk9 => (hv _ (hx k hk9).1 (hx k hk9).2).1) h45
    rw [if_neg q, ← zSm_sum (F := fun k => ct d (Int32.toNatClampNeg (zwr (wn i) + (0 + nI k)))) (Int32.toNatClampNeg (zEN σ i)) (fun k hk9 => (hv _ (hx k hk9).1 (hx k hk9).2).2)]
    rw [hk, hp, he, hc9] at h
    exact h
theorem zH_rows (H : zHR g P σ L f ah G Rw rs wn ad ln kd ct) {r : Nat} (hr : r < 2) : ∃ d, d < 11 ∧ zRS σ r = nI d ∧ zc L f (rs r) (.inl (g.2 1, ln d, .inr (.inl (ct d)))) ∧ zRL σ r = nI (ln d) ∧ ln d ≤ 64 ∧ ∀ s0, zSm (ct d) s0 (ln d) = zCkr σ r s0 (Int32.toNatClampNeg (zRL σ r)) := by
  have h : zin (nI r) 0 1 = true := by
    rw [zin_t, show (1 : Int32) = nI 1 from rfl, nI_leI (by omega) (by omega)]
    exact ⟨nI_pos' (by omega), by omega⟩
  obtain ⟨d, h1, h2, h3, h4, h5, h6, h7, h8, h9⟩ := zH_row H h
  rw [nI_clamp (by omega)] at h2 h3 h8
  refine ⟨d, h1, h2, by rw [h3]; exact h5, h8, h9, fun s0 => ?_⟩
  rw [h8, nI_clamp (by omega)]
  have key : ∀ n, n ≤ ln d → zSm (ct d) s0 n = zCkr σ r s0 n := by
    intro n
    induction n with
    | zero => intro _; rfl
    | succ n ih =>
      intro hn
      rw [zSm, zCkr, ih (by omega), h6 n (by omega), h2, show (64 : Int32) = nI 64 from rfl, pk_mul, nI_add, nI_clamp (by omega)]
  exact key _ (Nat.le_refl _)
end Z15e

