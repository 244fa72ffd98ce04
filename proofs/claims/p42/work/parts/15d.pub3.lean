section Z15d
variable {g : zG} {P : Nat → Prop} {σ σ1 : ZS} {L : List Nat} {f : Nat → va_E} {ah : Nat → Nat} {G Rw : Nat → Option Nat} {rs : Nat → Nat} {wn : Nat → ZW} {ad ln : Nat → Nat} {kd : Nat → Int32} {ct : Nat → Nat → Int64}
/-- the pool grows -/
theorem zHR_push (H : zHR g P σ L f ah G Rw rs wn ad ln kd ct) {q : Nat} {e : va_E} (hq : q ∉ L) : zHR g P σ (L ++ [q]) (va_up f q e) ah G Rw rs wn ad ln kd ct := by
  obtain ⟨hE, hG, hRw, hrd, hw, hdd, hin, hP, hPL, hI⟩ := H
  refine ⟨⟨fun k hk => (hE.1 k hk).push hq, hE.2⟩, hG, hRw, hrd, hw, fun d hd hl => ?_, hin, hP, fun b hb => List.mem_append_left _ (hPL b hb), hI⟩
  obtain ⟨a1, a2, a3⟩ := hdd d hd hl
  exact ⟨a1.push hq, a2, a3⟩
theorem zfr_push (H : zHR g P σ L f ah G Rw rs wn ad ln kd ct) {q : Nat} {e : va_E} (hq : q ∉ L) : ∀ b, P b → va_up f q e b = f b := fun b hb => va_up_ne _ _ (fun z => hq (z ▸ H.2.2.2.2.2.2.2.2.1 b hb))
theorem zH_out (H : zHR g P σ L f ah G Rw rs wn ad ln kd ct) {q : Nat} (hq : q ∉ L) : ¬ P q ∧ ∀ d, d < 11 → zLv σ d → ad d ≠ q := by
  obtain ⟨hE, hG, hRw, hrd, hw, hdd, hin, hP, hPL, hI⟩ := H
  exact ⟨fun h => hq (hPL q h), fun d hd hl e => hq (e ▸ (hdd d hd hl).1.1)⟩
theorem zUs_nl {d : Nat} (hf : zUsW σ (nI d) 8 = false) : ¬ zLv σ d := by
  obtain ⟨⟨h0, h1⟩, h2⟩ := zUs_no (Nat.le_refl 8) hf
  rintro (⟨i, a1, a2, a3⟩ | ⟨r, a1, a2⟩)
  · exact h2 i a1 a2 a3
  · rcases Nat.lt_or_ge r 1 with q | q
    · rw [show r = 0 by omega] at a2; exact h0 a2.symm
    · rw [show r = 1 by omega] at a2; exact h1 a2.symm
theorem zcut_0 (k : Int32) : zcut k 0 = 0 := by
  unfold zcut
  split
  · rfl
  · split
    · rfl
    · split <;> rfl
/-- a fresh store, not yet in use -/
theorem zHR_fresh (H : zHR g P σ L f ah G Rw rs wn ad ln kd ct) {d q n : Nat} {k : Int32} (hd : d < 11) (hf : zUsW σ (nI d) 8 = false) (hq : zc L f q (.inl (g.2 1, n, .inr (.inl (fun _ => 0))))) (hqP : ¬ P q) (hqn : ∀ d', d' < 11 → zLv σ d' → ad d' ≠ q) (hn : n ≤ 64) :
    zHR g P (zsST σ (zZero (zST σ) (nI d) 64)) L f ah G Rw rs wn (va_up ad d q) (va_up ln d n) (va_up kd d k) (va_up ct d (fun _ => 0)) ∧ zSt g P (zsST σ (zZero (zST σ) (nI d) 64)) L f (va_up ad d q) (va_up ln d n) (va_up ct d (fun _ => 0)) d := by
  have hnl := zUs_nl hf
  have hne : ∀ d', zLv σ d' → d' ≠ d := fun d' h e => hnl (e ▸ h)
  obtain ⟨hE, hG, hRw, hrd, hw, hdd, hin, hP, hPL, hI⟩ := H
  have hwl : ∀ i, i < 8 → ¬ zK σ i = 0 → ∀ d', d' < 11 → zSI σ i = nI d' → d' ≠ d := fun i hi hK d' h1 h2 => hne d' (Or.inl ⟨i, hi, hK, h2⟩)
  have hrl : ∀ r, r < 2 → ∀ d', d' < 11 → zRS σ r = nI d' → d' ≠ d := fun r hr d' h1 h2 => hne d' (Or.inr ⟨r, hr, h2⟩)
  have hz : ∀ d' j, d' < 11 → j < 64 → d' ≠ d → zZero (zST σ) (nI d) 64 (64 * d' + j) = zST σ (64 * d' + j) := fun d' j h1 h2 h3 => by
    rw [z_zero_get hd (Nat.le_refl 64), if_neg (by omega)]
  have hz0 : ∀ j, j < 64 → zZero (zST σ) (nI d) 64 (64 * d + j) = 0 := fun j hj => by
    rw [z_zero_get hd (Nat.le_refl 64), if_pos (by omega)]
  have h64 : ∀ d', d' < 11 → zLv σ d' → ln d' ≤ 64 := fun d' h1 h2 => zLv_64 ⟨hE, hG, hRw, hrd, hw, hdd, hin, hP, hPL, hI⟩ h1 h2
  refine ⟨⟨hE, hG, hRw, fun r hr d' h1 h2 => ?_, fun i hi => ⟨(hw i hi).1, fun hK => ?_⟩, fun d' h1 h2 => ?_, fun d1 d2 h1 h2 h3 h4 => ?_, hP, hPL, fun i hi hK => ?_, fun r hr => ?_, fun d' j h1 h2 => ?_⟩, ?_, fun j hj => ?_, ?_, fun d' h1 h2 h3 => ?_⟩
  · rw [va_up_ne _ _ (hrl r hr d' h1 h2)]
    exact hrd r hr d' h1 h2
  · obtain ⟨b1, b2, b3, b4⟩ := (hw i hi).2 hK
    exact ⟨b1, b2, fun d' h1 h2 => by rw [va_up_ne _ _ (hwl i hi hK d' h1 h2)]; exact b3 d' h1 h2, b4⟩
  · have hd' := hne d' h2
    obtain ⟨a1, a2, a3⟩ := hdd d' h1 h2
    rw [va_up_ne _ _ hd', va_up_ne _ _ hd', va_up_ne _ _ hd']
    exact ⟨a1, fun j hj => (a2 j hj).trans (hz d' j h1 (Nat.lt_of_lt_of_le hj (h64 d' h1 h2)) hd').symm, a3⟩
  · rw [va_up_ne _ _ (hne d1 h3), va_up_ne _ _ (hne d2 h4)]
    exact hin d1 d2 h1 h2 h3 h4
  · obtain ⟨⟨d', fr, sz, pl, en, g2, g3, g4, g5, g6, g7, g8, g9, g10, g11, g12⟩, hk, hkd⟩ := hI.1 i hi hK
    have hd' := hwl i hi hK d' g7 g2
    refine ⟨⟨d', fr, sz, pl, en, g2, g3, g4, g5, g6, g7, g8, g9, by rw [va_up_ne _ _ hd']; exact g10, by rw [va_up_ne _ _ hd']; exact g11, g12⟩, hk, fun d2 h1 h2 => ?_⟩
    rw [va_up_ne _ _ (hwl i hi hK d2 h1 h2)]
    exact hkd d2 h1 h2
  · obtain ⟨d', g1, g2, g3, g4, g5⟩ := hI.2.1 r hr
    have hd' := hrl r hr d' g1 g2
    exact ⟨d', g1, g2, by rw [va_up_ne _ _ hd']; exact g3, by rw [va_up_ne _ _ hd']; exact g4, by rw [va_up_ne _ _ hd']; exact g5⟩
  · show zcut (va_up kd d k d') (zZero (zST σ) (nI d) 64 (64 * d' + j)) = zZero (zST σ) (nI d) 64 (64 * d' + j)
    by_cases hd' : d' = d
    · rw [hd', hz0 j h2]; exact zcut_0 _
    · rw [hz d' j h1 h2 hd', va_up_ne _ _ hd']
      exact hI.2.2 d' j h1 h2
  · rw [va_up_self, va_up_self, va_up_self]
    exact hq
  · rw [va_up_self] at hj ⊢
    exact (hz0 j (by omega)).symm
  · rw [va_up_self]; exact hqP
  · rw [va_up_self, va_up_ne _ _ (hne d' h2)] at h3
    exact absurd h3 (hqn d' h1 h2)
theorem zFnd_d (hI : zI σ ln kd) : ∃ d, d < 11 ∧ zFnd σ 11 = nI d ∧ zUsW σ (nI d) 8 = false := by
  rcases zFnd_ok (σ := σ) (n := 11) (Nat.le_refl 11) with ⟨h, -⟩ | h
  · exfalso
    have h1 := zI_free hI
    rw [h] at h1
    exact h1 (Or.inl (by decide))
  · exact h
/-- a window over a new store -/
theorem zHR_alloc (H : zHR g P σ L f ah G Rw rs wn ad ln kd ct) {j q n : Nat} (hj : j < 8) (hq : zc L f q (.inl (g.2 1, n, .inr (.inl (fun _ => 0))))) (hqP : ¬ P q) (hqn : ∀ d', d' < 11 → zLv σ d' → ad d' ≠ q) (hn : n ≤ 64) {k : Int32} (hk : zKind k) : ∃ d wn1,
    zHR g P (zBecomes (zsST (zsK σ (upd (zK σ) j 0)) (zZero (zST (zsK σ (upd (zK σ) j 0))) (zFnd (zsK σ (upd (zK σ) j 0)) 11) 64)) j k (zFnd (zsK σ (upd (zK σ) j 0)) 11) 0 (nI n) 0) L (va_up f (ah (j + 3)) (.inr (0, zwf (k, 0, q, 0, nI n, 0, nI n, -1)))) ah G Rw rs wn1 (va_up ad d q) (va_up ln d n) (va_up kd d k) (va_up ct d (fun _ => 0)) := by
  have Hk := zHR_set (σ1 := zsK σ (upd (zK σ) j 0)) H hj (45, 0, q, 0, nI n, 0, nI n, -1) rfl rfl (fun i _ h => ⟨pk_un h, rfl, rfl, rfl, rfl, rfl, rfl, rfl⟩) ⟨fun _ => rfl, fun h => absurd (pk_us (f := zK σ)) h⟩ (fun d _ h => absurd (pk_us (f := zK σ)) h) (zI_kill H.I j)
  obtain ⟨d, hd, hz, hu⟩ := zFnd_d Hk.I
  have hlv : ∀ d', zLv (zsK σ (upd (zK σ) j 0)) d' → zLv σ d' := fun d' h => by
    rcases h with ⟨i, h1, h2, h3⟩ | h
    · by_cases e : i = j
      · rw [e] at h2
        exact absurd (pk_us (f := zK σ)) h2
      · rw [show zK (zsK σ (upd (zK σ) j 0)) i = zK σ i from pk_un e] at h2
        exact Or.inl ⟨i, h1, h2, h3⟩
    · exact Or.inr h
  have hqa : q ≠ ah (j + 3) := hq.dj (H.1.1 (j + 3) (by omega)) (by intro h; cases h)
  obtain ⟨Hf, hS⟩ := zHR_fresh Hk (k := k) hd hu (hq.ne hqa) hqP (fun d' h1 h2 => hqn d' h1 (hlv d' h2)) hn
  have Hb := zHR_bec Hf hj (d := d) (fr := 0) (sz := n) (k := k) (rd := 0) (si := nI d) (fr9 := 0) (sz9 := nI n) (x1 := (k, 0, q, 0, nI n, 0, nI n, -1)) (by rw [va_up_self]) rfl rfl rfl hk hd hS (by rw [va_up_self]; exact hn) (by rw [va_up_self]) (by rw [va_up_self]; omega) (Or.inl rfl)
  rw [zu_up] at Hb
  rw [hz]
  exact ⟨d, _, Hb⟩
/-- a row gets a store -/
theorem zHR_row (H : zHR g P σ L f ah G Rw rs wn ad ln kd ct) {r d : Nat} (hr : r < 2) (hd : d < 11) (hS : zSt g P σ L f ad ln ct d) (h64 : ln d ≤ 64) (hkd : kd d = 105) {n : Int32} (hn : n = nI (ln d)) :
    zHR g P (zsRL (zsRS σ (upd (zRS σ) r (nI d))) (upd (zRL σ) r n)) L (va_up f (ah 2) (.inl (g.2 5, 2, .inr (.inr (.inr (.inr (va_up Rw r (some (ad d)))))))) ) ah G (va_up Rw r (some (ad d))) (va_up rs r (ad d)) wn ad ln kd ct := by
  have hSt := fun d hd hl => zHR.St H (d := d) hd hl
  obtain ⟨hE, hG, hRw, hrd, hw, hdd, hin, hP, hPL, hI⟩ := H
  have hl : ∀ d', d' < 11 → zLv (zsRL (zsRS σ (upd (zRS σ) r (nI d))) (upd (zRL σ) r n)) d' → zLv σ d' ∨ d' = d := fun d' h1 h => by
    rcases h with h | ⟨r', h2, h3⟩
    · exact Or.inl (Or.inl h)
    · by_cases e : r' = r
      · rw [e, show zRS (zsRL (zsRS σ (upd (zRS σ) r (nI d))) (upd (zRL σ) r n)) r = nI d from pk_us, nI_eq (by omega) (by omega)] at h3
        exact Or.inr h3.symm
      · rw [show zRS (zsRL (zsRS σ (upd (zRS σ) r (nI d))) (upd (zRL σ) r n)) r' = zRS σ r' from pk_un e] at h3
        exact Or.inl (Or.inr ⟨r', h2, h3⟩)
  have hS1 : ∀ d', d' < 11 → zLv (zsRL (zsRS σ (upd (zRS σ) r (nI d))) (upd (zRL σ) r n)) d' → zSt g P σ L f ad ln ct d' := fun d' h1 h => by
    rcases hl d' h1 h with h | h
    · exact hSt d' h1 h
    · rw [h]; exact hS
  refine ⟨hE.up 2 (by decide) _ rfl (fun k hk hne => ?_), hG, fun r' hr' => ?_, fun r' hr' d' h1 h2 => ?_, hw, fun d' h1 h2 => ?_, fun d1 d2 h1 h2 h3 h4 h5 => ?_, hP, hPL, hI.1, fun r' hr' => ?_, hI.2.2⟩
  · match k, hne with
    | 0, _ => rfl
    | 1, _ => rfl
    | 2, hne => exact absurd rfl hne
    | k + 3, _ => rfl
  · by_cases e : r' = r
    · rw [e, va_up_self, va_up_self]
    · rw [va_up_ne _ _ e, va_up_ne _ _ e]
      exact hRw r' hr'
  · by_cases e : r' = r
    · rw [e, show zRS (zsRL (zsRS σ (upd (zRS σ) r (nI d))) (upd (zRL σ) r n)) r = nI d from pk_us, nI_eq (by omega) (by omega)] at h2
      rw [e, va_up_self, h2]
    · rw [show zRS (zsRL (zsRS σ (upd (zRS σ) r (nI d))) (upd (zRL σ) r n)) r' = zRS σ r' from pk_un e] at h2
      rw [va_up_ne _ _ e]
      exact hrd r' hr' d' h1 h2
  · obtain ⟨a1, a2, a3, -⟩ := hS1 d' h1 h2
    exact ⟨a1.ne (a1.dj (hE.1 2 (by decide)) (by intro h; simp [zCe] at h)), a2, a3⟩
  · rcases hl d1 h1 h3 with q1 | q1
    · exact (hS1 d2 h2 h4).2.2.2 d1 h1 q1 h5
    · rcases hl d2 h2 h4 with q2 | q2
      · exact ((hS1 d1 h1 h3).2.2.2 d2 h2 q2 h5.symm).symm
      · rw [q1, q2]
  · by_cases e : r' = r
    · rw [e]
      exact ⟨d, hd, pk_us, pk_us.trans hn, h64, hkd⟩
    · obtain ⟨d', g1, g2, g3, g4, g5⟩ := hI.2.1 r' hr'
      exact ⟨d', g1, (pk_un e).trans g2, (pk_un e).trans g3, g4, g5⟩
theorem oz_allocate {w k n : Int32} (h : zin w 0 7 = true) (hk : zKind k) (hn : zin n 0 64 = true) : o_allocate σ w k n = (0, if zK σ (Int32.toNatClampNeg w) = 0 then 0 else 1, zBecomes (zsST (zsK σ (upd (zK σ) (Int32.toNatClampNeg w) 0)) (zZero (zST (zsK σ (upd (zK σ) (Int32.toNatClampNeg w) 0))) (zFnd (zsK σ (upd (zK σ) (Int32.toNatClampNeg w) 0)) 11) 64)) (Int32.toNatClampNeg w) k (zFnd (zsK σ (upd (zK σ) (Int32.toNatClampNeg w) 0)) 11) 0 n 0) := by
  unfold o_allocate
  rw [if_pos h]
  by_cases q : zK σ (Int32.toNatClampNeg w) = 0
  · simp only [if_pos q]
    rcases hk with e | e | e | e
    · rw [if_pos e, if_pos hn]
    · rw [if_neg (by rw [e]; decide), if_pos e, if_pos hn]
    · rw [if_neg (by rw [e]; decide), if_neg (by rw [e]; decide), if_pos e, if_pos hn]
    · rw [if_neg (by rw [e]; decide), if_neg (by rw [e]; decide), if_neg (by rw [e]; decide), if_pos e, if_pos hn]
  · simp only [if_neg q]
    rcases hk with e | e | e | e
    · rw [if_pos e, if_pos hn]
    · rw [if_neg (by rw [e]; decide), if_pos e, if_pos hn]
    · rw [if_neg (by rw [e]; decide), if_neg (by rw [e]; decide), if_pos e, if_pos hn]
    · rw [if_neg (by rw [e]; decide), if_neg (by rw [e]; decide), if_neg (by rw [e]; decide), if_pos e, if_pos hn]
theorem oz_allocate_bad {w k n : Int32} (h : zin w 0 7 = true) (hk : ¬ zKind k ∨ ¬ zin n 0 64 = true) : o_allocate σ w k n = (2, 0, σ) := by
  unfold o_allocate
  rw [if_pos h]
  by_cases h1 : k = 105
  · rw [if_pos h1]
    rcases hk with hk | hk
    · exact absurd (Or.inl h1) hk
    · exact if_neg hk
  · rw [if_neg h1]
    by_cases h2 : k = 108
    · rw [if_pos h2]
      rcases hk with hk | hk
      · exact absurd (Or.inr (Or.inl h2)) hk
      · exact if_neg hk
    · rw [if_neg h2]
      by_cases h3 : k = 99
      · rw [if_pos h3]
        rcases hk with hk | hk
        · exact absurd (Or.inr (Or.inr (Or.inl h3))) hk
        · exact if_neg hk
      · rw [if_neg h3]
        by_cases h4 : k = 115
        · rw [if_pos h4]
          rcases hk with hk | hk
          · exact absurd (Or.inr (Or.inr (Or.inr h4))) hk
          · exact if_neg hk
        · rw [if_neg h4]
theorem zH_there (H : zHR g P σ L f ah G Rw rs wn ad ln kd ct) {w : Int32} (h : zin w 0 7 = true) : (if zK σ (Int32.toNatClampNeg w) = 0 then 0 else 1 : Int32) = zb (decide (¬ zwk (wn (Int32.toNatClampNeg w)) = 45)) := by
  have hi := vp_lt (zin7.mp h)
  by_cases q : zK σ (Int32.toNatClampNeg w) = 0
  · rw [if_pos q, (H.rw hi).1 q]; rfl
  · obtain ⟨-, hk, -⟩ := H.I.1 _ hi q
    rw [if_neg q, ((H.rw hi).2 q).1, decide_eq_true (zKind45 hk)]; rfl
end Z15d

