section Z15
variable {g : zG} {P : Nat → Prop} {σ σ1 : ZS} {L : List Nat} {f : Nat → va_E} {ah : Nat → Nat} {G Rw : Nat → Option Nat} {rs : Nat → Nat} {wn : Nat → ZW} {ad ln : Nat → Nat} {kd : Nat → Int32} {ct : Nat → Nat → Int64}
theorem zH_kind (H : zHR g P σ L f ah G Rw rs wn ad ln kd ct) {w : Int32} (h : zin w 0 7 = true) : zchar (zwk (wn (Int32.toNatClampNeg w))) ∧ o_kind σ w = (0, zwk (wn (Int32.toNatClampNeg w)), σ) := by
  have hi := vp_lt (zin7.mp h)
  unfold o_kind
  rw [if_pos h]
  by_cases q : zK σ (Int32.toNatClampNeg w) = 0
  · rw [if_pos q, (H.rw hi).1 q]
    exact ⟨⟨rfl, rfl⟩, rfl⟩
  · obtain ⟨-, hk, -⟩ := H.I.1 _ hi q
    rw [if_neg q, ((H.rw hi).2 q).1]
    refine ⟨zchar_of hk, ?_⟩
    rcases hk with e | e | e | e <;> rw [e] <;> rfl
theorem zWin_rd {i : Nat} (hw : zWin σ ln i) : zRD σ i = 0 ∨ zRD σ i = 1 := by
  obtain ⟨d, fr, sz, pl, en, h2, h3, h4, h5, h6, h7, h8, h9, h10, h11, h12, h13⟩ := hw
  exact h13
theorem oz_isReadOnly {w : Int32} (h : zis σ w = true) (h1 : zRD σ (Int32.toNatClampNeg w) = 0 ∨ zRD σ (Int32.toNatClampNeg w) = 1) : o_isReadOnly σ w = (0, zRD σ (Int32.toNatClampNeg w), σ) := by
  unfold o_isReadOnly
  rw [if_pos h]
  rcases h1 with e | e <;> rw [e] <;> rfl
theorem zsPL_pem {i : Nat} {x : Int32} : zsPL σ (upd (zPL σ) i x) = zPem σ i x (zEN σ i) (zMK σ i) := by
  unfold zPem
  show _ = (_, _, _, _, _, _, upd (zEN σ) i (zEN σ i), upd (zMK σ) i (zMK σ i), _, _, _)
  rw [zupd_id, zupd_id]
theorem zsMK_pem {i : Nat} {x : Int32} : zsMK σ (upd (zMK σ) i x) = zPem σ i (zPL σ i) (zEN σ i) x := by
  unfold zPem
  show _ = (_, _, _, _, _, upd (zPL σ) i (zPL σ i), upd (zEN σ) i (zEN σ i), _, _, _, _)
  rw [zupd_id, zupd_id]
theorem oz_placeAt {w x : Int32} (h : zis σ w = true) (h1 : zin x 0 (zEN σ (Int32.toNatClampNeg w)) = true) : o_placeAt σ w x = (0, zPL σ (Int32.toNatClampNeg w), zPem σ (Int32.toNatClampNeg w) x (zEN σ (Int32.toNatClampNeg w)) (if zMK σ (Int32.toNatClampNeg w) ≤ x then zMK σ (Int32.toNatClampNeg w) else -1)) := by
  have e : upd (zEN σ) (Int32.toNatClampNeg w) (zEN σ (Int32.toNatClampNeg w)) = zEN σ := zupd_id
  unfold o_placeAt zPem
  rw [if_pos h, if_pos h1, e]
  by_cases q : zMK σ (Int32.toNatClampNeg w) ≤ x
  · rw [if_pos q, if_pos q]
  · rw [if_neg q, if_neg q]
theorem oz_endAt {w x : Int32} (h : zis σ w = true) (h1 : zin x 0 (zSZ σ (Int32.toNatClampNeg w)) = true) : o_endAt σ w x = (0, zEN σ (Int32.toNatClampNeg w), zPem σ (Int32.toNatClampNeg w) (if x < zPL σ (Int32.toNatClampNeg w) then x else zPL σ (Int32.toNatClampNeg w)) x (if zMK σ (Int32.toNatClampNeg w) ≤ x then zMK σ (Int32.toNatClampNeg w) else -1)) := by
  unfold o_endAt zPem
  rw [if_pos h, if_pos h1]
  by_cases r : zPL σ (Int32.toNatClampNeg w) ≤ x
  · rw [if_pos r, if_neg (Int32.not_lt.mpr r)]
    by_cases q : zMK σ (Int32.toNatClampNeg w) ≤ x
    · rw [if_pos q, if_pos q]
    · rw [if_neg q, if_neg q]
  · rw [if_neg r, if_pos (Int32.not_le.mp r)]
    by_cases q : zMK σ (Int32.toNatClampNeg w) ≤ x
    · rw [if_pos q, if_pos q]
    · rw [if_neg q, if_neg q]
theorem zmk_if {m : Int32} {p x : Nat} (hp : p ≤ 64) (hx : x ≤ 64) (h : m = -1 ∨ ∃ k, k ≤ p ∧ m = nI k) : (if m ≤ nI x then m else -1) = -1 ∨ ∃ k, k ≤ x ∧ (if m ≤ nI x then m else -1) = nI k := by
  by_cases q : m ≤ nI x
  · rw [if_pos q]
    rcases h with h | ⟨k, h1, rfl⟩
    · exact Or.inl h
    · exact Or.inr ⟨k, (nI_leI (by omega) (by omega)).mp q, rfl⟩
  · rw [if_neg q]
    exact Or.inl rfl
theorem zmk_if2 {m : Int32} {p x : Nat} (hp : p ≤ 64) (hx : x ≤ 64) (h : m = -1 ∨ ∃ k, k ≤ p ∧ m = nI k) : (if m ≤ nI x then m else -1) = -1 ∨ ∃ k, (k ≤ x ∧ k ≤ p) ∧ (if m ≤ nI x then m else -1) = nI k := by
  by_cases q : m ≤ nI x
  · rw [if_pos q]
    rcases h with h | ⟨k, h1, rfl⟩
    · exact Or.inl h
    · exact Or.inr ⟨k, ⟨(nI_leI (by omega) (by omega)).mp q, h1⟩, rfl⟩
  · rw [if_neg q]
    exact Or.inl rfl
/-- a value read -/
theorem zH_val (H : zHR g P σ L f ah G Rw rs wn ad ln kd ct) {w : Int32} (h : zis σ w = true) {d : Nat} (hd : zSI σ (Int32.toNatClampNeg w) = nI d) (hd1 : d < 11) {x : Int32} (h0 : ¬ x < 0) (h1 : x < zEN σ (Int32.toNatClampNeg w)) :
    vp_in (zwr (wn (Int32.toNatClampNeg w)) + x) (ln d) ∧ ct d (Int32.toNatClampNeg (zwr (wn (Int32.toNatClampNeg w)) + x)) = zVal σ (Int32.toNatClampNeg w) x := by
  obtain ⟨d2, g1, g2, g3, g4, g5, g6, g7⟩ := zH_st H h
  rw [g2, nI_eq (by omega) (by omega)] at hd
  subst hd
  obtain ⟨j, a1, a2, a3, a4, a5, a6, a7⟩ := zH_at H h g2 hd1 h0 h1
  obtain ⟨hk, ho, hr, -⟩ := zH_win H h
  rw [hr]
  refine ⟨a5, ?_⟩
  unfold zVal
  rw [a6, a7]
  exact g6 j a1
/-- a value laid -/
theorem zHR_lay (H : zHR g P σ L f ah G Rw rs wn ad ln kd ct) {w : Int32} (h : zis σ w = true) {d : Nat} (hd : zSI σ (Int32.toNatClampNeg w) = nI d) (hd1 : d < 11) {x : Int32} (h0 : ¬ x < 0) (h1 : x < zEN σ (Int32.toNatClampNeg w)) {v : Int64} :
    zHR g P (zLay σ (Int32.toNatClampNeg w) x v) L (va_up f (zws (wn (Int32.toNatClampNeg w))) (.inl (g.2 1, ln d, .inr (.inl (vp_updL (ct d) (Int32.toNatClampNeg (zwr (wn (Int32.toNatClampNeg w)) + x)) (zcut (zwk (wn (Int32.toNatClampNeg w))) v)))))) ah G Rw rs wn ad ln kd (va_up ct d (vp_updL (ct d) (Int32.toNatClampNeg (zwr (wn (Int32.toNatClampNeg w)) + x)) (zcut (zwk (wn (Int32.toNatClampNeg w))) v))) := by
  obtain ⟨d2, g1, g2, g3, g4, g5, g6, g7⟩ := zH_st H h
  rw [g2, nI_eq (by omega) (by omega)] at hd
  subst hd
  obtain ⟨j, a1, a2, a3, a4, a5, a6, a7⟩ := zH_at H h g2 hd1 h0 h1
  obtain ⟨hk, ho, hr, -⟩ := zH_win H h
  unfold zLay
  rw [hr, hk, a6, a7, g3]
  exact zHR_wr H hd1 g4 a1 a2 (by rw [g7]; exact zcut2 _ _)
def zNx (σ : ZS) (i : Nat) (v : Int64) : ZS := zInc (zLay σ i (zPL σ i) v) i
theorem zInc_pem {i : Nat} : zInc σ i = zPem σ i (zPL σ i + 1) (zEN σ i) (zMK σ i) := zsPL_pem
theorem zinc_nat {i : Nat} (hw : zWin σ ln i) (hne : ¬ zPL σ i = zEN σ i) : ∃ p e s, zPL σ i + 1 = nI p ∧ zEN σ i = nI e ∧ zSZ σ i = nI s ∧ p ≤ e ∧ e ≤ s ∧ s ≤ 64 ∧ (zMK σ i = -1 ∨ ∃ k, k ≤ p ∧ zMK σ i = nI k) := by
  obtain ⟨s, p, e, h1, h2, h3, h4, h5, h6, h7⟩ := zW_nat hw
  rw [h2, h3, nI_eq (by omega) (by omega)] at hne
  refine ⟨p + 1, e, s, by rw [h2, nI_1], h3, h1, by omega, h5, h6, ?_⟩
  rcases h7 with h7 | ⟨k, h7, h8⟩
  · exact Or.inl h7
  · exact Or.inr ⟨k, by omega, h8⟩
theorem zHR_inc (H : zHR g P σ L f ah G Rw rs wn ad ln kd ct) {w : Int32} (h : zis σ w = true) (hne : ¬ zPL σ (Int32.toNatClampNeg w) = zEN σ (Int32.toNatClampNeg w)) :
    zHR g P (zInc σ (Int32.toNatClampNeg w)) L (va_up f (ah (Int32.toNatClampNeg w + 3)) (.inr (0, zwf (zwk (wn (Int32.toNatClampNeg w)), zwo (wn (Int32.toNatClampNeg w)), zws (wn (Int32.toNatClampNeg w)), zwr (wn (Int32.toNatClampNeg w)), zwc (wn (Int32.toNatClampNeg w)), zwp (wn (Int32.toNatClampNeg w)) + 1, zwe (wn (Int32.toNatClampNeg w)), zwm (wn (Int32.toNatClampNeg w)))))) ah G Rw rs (va_up wn (Int32.toNatClampNeg w) (zwk (wn (Int32.toNatClampNeg w)), zwo (wn (Int32.toNatClampNeg w)), zws (wn (Int32.toNatClampNeg w)), zwr (wn (Int32.toNatClampNeg w)), zwc (wn (Int32.toNatClampNeg w)), zwp (wn (Int32.toNatClampNeg w)) + 1, zwe (wn (Int32.toNatClampNeg w)), zwm (wn (Int32.toNatClampNeg w)))) ad ln kd ct := by
  obtain ⟨hk, ho, hr, hc, hp, he, hm⟩ := zH_win H h
  rw [zInc_pem]
  exact zHR_pem H h (x1 := (zwk (wn (Int32.toNatClampNeg w)), zwo (wn (Int32.toNatClampNeg w)), zws (wn (Int32.toNatClampNeg w)), zwr (wn (Int32.toNatClampNeg w)), zwc (wn (Int32.toNatClampNeg w)), zwp (wn (Int32.toNatClampNeg w)) + 1, zwe (wn (Int32.toNatClampNeg w)), zwm (wn (Int32.toNatClampNeg w)))) (by simp only [hk, ho, hr, hc, hp, he, hm]) (zinc_nat (zI_win H.I h) hne)
theorem zHR_put (H : zHR g P σ L f ah G Rw rs wn ad ln kd ct) {w : Int32} (h : zis σ w = true) {d : Nat} (hd : zSI σ (Int32.toNatClampNeg w) = nI d) (hd1 : d < 11) (hne : ¬ zPL σ (Int32.toNatClampNeg w) = zEN σ (Int32.toNatClampNeg w)) {v : Int64} :
    zHR g P (zNx σ (Int32.toNatClampNeg w) v) L (va_up (va_up f (zws (wn (Int32.toNatClampNeg w))) (.inl (g.2 1, ln d, .inr (.inl (vp_updL (ct d) (Int32.toNatClampNeg (zwr (wn (Int32.toNatClampNeg w)) + zwp (wn (Int32.toNatClampNeg w)))) (zcut (zwk (wn (Int32.toNatClampNeg w))) v)))))) (ah (Int32.toNatClampNeg w + 3)) (.inr (0, zwf (zwk (wn (Int32.toNatClampNeg w)), zwo (wn (Int32.toNatClampNeg w)), zws (wn (Int32.toNatClampNeg w)), zwr (wn (Int32.toNatClampNeg w)), zwc (wn (Int32.toNatClampNeg w)), zwp (wn (Int32.toNatClampNeg w)) + 1, zwe (wn (Int32.toNatClampNeg w)), zwm (wn (Int32.toNatClampNeg w)))))) ah G Rw rs (va_up wn (Int32.toNatClampNeg w) (zwk (wn (Int32.toNatClampNeg w)), zwo (wn (Int32.toNatClampNeg w)), zws (wn (Int32.toNatClampNeg w)), zwr (wn (Int32.toNatClampNeg w)), zwc (wn (Int32.toNatClampNeg w)), zwp (wn (Int32.toNatClampNeg w)) + 1, zwe (wn (Int32.toNatClampNeg w)), zwm (wn (Int32.toNatClampNeg w)))) ad ln kd (va_up ct d (vp_updL (ct d) (Int32.toNatClampNeg (zwr (wn (Int32.toNatClampNeg w)) + zwp (wn (Int32.toNatClampNeg w)))) (zcut (zwk (wn (Int32.toNatClampNeg w))) v))) := by
  have hp := (zH_win H h).2.2.2.2.1
  have hw := zI_win H.I h
  have H1 := zHR_lay H h hd hd1 (x := zwp (wn (Int32.toNatClampNeg w))) (by rw [hp]; exact (zWin_pl hw).1) (by rw [hp]; exact (zWin_pl hw).2 hne) (v := v)
  rw [hp] at H1 ⊢
  have H2 := zHR_inc H1 h hne
  rw [hp] at H2
  exact H2
theorem zfr_ws (H : zHR g P σ L f ah G Rw rs wn ad ln kd ct) {w : Int32} (h : zis σ w = true) {e : va_E} : ∀ b, P b → va_up f (zws (wn (Int32.toNatClampNeg w))) e b = f b := by
  obtain ⟨d2, g1, g2, g3, g4, g5, g6, g7⟩ := zH_st H h
  rw [g3]
  exact zfr_st H g1 g4
theorem zSm_sum {F : Nat → Int64} {i : Nat} {x : Int32} {s0 : Int64} : ∀ n, (∀ k, k < n → F k = zVal σ i (x + nI k)) → zSm F s0 n = zSum σ i x s0 n
  | 0, _ => rfl
  | n + 1, h => by rw [zSm, zSum, zSm_sum n (fun k hk => h k (by omega)), h n (by omega)]
theorem zmin_n {x p : Nat} (hx : x < 2 ^ 31) (hp : p < 2 ^ 31) : (if nI x < nI p then nI x else nI p) = nI (if x < p then x else p) := by
  by_cases q : x < p
  · rw [if_pos q, if_pos ((nI_ltI hx hp).mpr q)]
  · rw [if_neg q, if_neg (fun r => q ((nI_ltI hx hp).mp r))]
theorem oz_get {w : Int32} (h : zis σ w = true) (h1 : ¬ zPL σ (Int32.toNatClampNeg w) = zEN σ (Int32.toNatClampNeg w)) : o_get σ w = (0, zVal σ (Int32.toNatClampNeg w) (zPL σ (Int32.toNatClampNeg w)), zInc σ (Int32.toNatClampNeg w)) := by
  unfold o_get
  rw [if_pos h, if_neg h1]
  have e : upd (zPL σ) (Int32.toNatClampNeg w) (zPL σ (Int32.toNatClampNeg w) + 1) (Int32.toNatClampNeg w) - 1 = zPL σ (Int32.toNatClampNeg w) := by rw [pk_us, Int32.add_sub_cancel]
  show ((0 : Int32), zVal σ (Int32.toNatClampNeg w) (upd (zPL σ) (Int32.toNatClampNeg w) (zPL σ (Int32.toNatClampNeg w) + 1) (Int32.toNatClampNeg w) - 1), _) = _
  rw [e]
  rfl
theorem oz_put {w : Int32} {v : Int64} (h : zis σ w = true) (h2 : zRD σ (Int32.toNatClampNeg w) = 0) (h1 : ¬ zPL σ (Int32.toNatClampNeg w) = zEN σ (Int32.toNatClampNeg w)) : o_put σ w v = (0, zPL σ (Int32.toNatClampNeg w) + 1, zNx σ (Int32.toNatClampNeg w) v) := by
  unfold o_put
  rw [if_pos h, if_pos h2, if_neg h1]
  exact congrArg (fun z => ((0 : Int32), z, zNx σ (Int32.toNatClampNeg w) v)) (pk_us (f := zPL σ) (k := Int32.toNatClampNeg w) (x := zPL σ (Int32.toNatClampNeg w) + 1))
theorem oz_append {w x : Int32} (h : zis σ w = true) (h3 : zK σ (Int32.toNatClampNeg w) = 99) (h2 : zRD σ (Int32.toNatClampNeg w) = 0) (h1 : ¬ zPL σ (Int32.toNatClampNeg w) = zEN σ (Int32.toNatClampNeg w)) : o_append σ w x = (0, zPL σ (Int32.toNatClampNeg w) + 1, zNx σ (Int32.toNatClampNeg w) x.toInt64) := by
  unfold o_append
  rw [if_pos h, if_pos h3, if_pos h2, if_neg h1]
  exact congrArg (fun z => ((0 : Int32), z, zNx σ (Int32.toNatClampNeg w) x.toInt64)) (pk_us (f := zPL σ) (k := Int32.toNatClampNeg w) (x := zPL σ (Int32.toNatClampNeg w) + 1))
theorem zfr_put (H : zHR g P σ L f ah G Rw rs wn ad ln kd ct) {w : Int32} (h : zis σ w = true) {e e1 : va_E} : ∀ b, P b → va_up (va_up f (zws (wn (Int32.toNatClampNeg w))) e) (ah (Int32.toNatClampNeg w + 3)) e1 b = f b := fun b hb =>
  (va_up_ne _ _ (fun q => H.2.2.2.2.2.2.2.1 (Int32.toNatClampNeg w + 3) (by have := vp_lt (zis_7 h); omega) (q ▸ hb))).trans (zfr_ws H h b hb)
theorem zHR_f {f1 : Nat → va_E} (e : f = f1) (H : zHR g P σ L f ah G Rw rs wn ad ln kd ct) : zHR g P σ L f1 ah G Rw rs wn ad ln kd ct := e ▸ H
end Z15

