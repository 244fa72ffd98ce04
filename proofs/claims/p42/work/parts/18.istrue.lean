theorem z_back {F : Nat → Int64} {j : Nat} {a b : Int64} (h : b = F j) : vp_updL (vp_updL F j a) j b = F := funext fun q => by
  by_cases e : q = j
  · rw [e, pk_uLs, h]
  · rw [pk_uLn e, pk_uLn e]
section Z18
variable {g : zG} {P : Nat → Prop} {σ σ1 : ZS} {L : List Nat} {f : Nat → va_E} {ah : Nat → Nat} {G Rw : Nat → Option Nat} {rs : Nat → Nat} {wn : Nat → ZW} {ad ln : Nat → Nat} {kd : Nat → Int32} {ct : Nat → Nat → Int64}
/-- the probe and the twin may be anything -/
theorem zHR_oth (H : zHR g P σ L f ah G Rw rs wn ad ln kd ct) {j : Nat} (hj : 8 ≤ j) (hj2 : j < 10) (x1 : ZW) : zHR g P σ L (va_up f (ah (j + 3)) (.inr (0, zwf x1))) ah G Rw rs (va_up wn j x1) ad ln kd ct := by
  obtain ⟨hE, hG, hRw, hrd, hw, hd, hin, hP, hPL, hI⟩ := H
  refine ⟨hE.up (j + 3) (by omega) _ ?_ ?_, hG, hRw, hrd, fun i hi => ?_, fun d hd9 h => ?_, hin, hP, hPL, hI⟩
  · show Sum.inr (0, zwf (va_up wn j x1 j)) = _
    rw [va_up_self]
  · intro k hk hne
    match k, hne with
    | 0, _ => rfl
    | 1, _ => rfl
    | 2, _ => rfl
    | k + 3, hne =>
      show Sum.inr (0, zwf (va_up wn j x1 k)) = Sum.inr (0, zwf (wn k))
      rw [va_up_ne _ _ (fun q => hne (by rw [q]))]
  · rw [va_up_ne _ _ (show i ≠ j by omega)]
    exact hw i hi
  · obtain ⟨a1, a2, a3⟩ := hd d hd9 h
    exact ⟨a1.ne (a1.dj (hE.1 (j + 3) (by omega)) (by intro h; cases h)), a2, a3⟩
/-- a window that is there is in bounds -/
theorem zH_bounds (H : zHR g P σ L f ah G Rw rs wn ad ln kd ct) {w : Int32} (h : zis σ w = true) : ∃ d, d < 11 ∧ zSI σ (Int32.toNatClampNeg w) = nI d ∧ zws (wn (Int32.toNatClampNeg w)) = ad d ∧ zc L f (ad d) (.inl (g.2 1, ln d, .inr (.inl (ct d)))) ∧ (0 : Int32) ≤ zwp (wn (Int32.toNatClampNeg w)) ∧ zwp (wn (Int32.toNatClampNeg w)) ≤ zwe (wn (Int32.toNatClampNeg w)) ∧ zwe (wn (Int32.toNatClampNeg w)) ≤ zwc (wn (Int32.toNatClampNeg w)) ∧ (0 : Int32) ≤ zwr (wn (Int32.toNatClampNeg w)) ∧ zwc (wn (Int32.toNatClampNeg w)) ≤ nI (ln d) - zwr (wn (Int32.toNatClampNeg w)) ∧ ∃ n, n ≤ 64 ∧ zwe (wn (Int32.toNatClampNeg w)) - zwp (wn (Int32.toNatClampNeg w)) = nI n ∧
    ∀ k, k < n → vp_in (zwr (wn (Int32.toNatClampNeg w)) + zwp (wn (Int32.toNatClampNeg w)) + nI k) (ln d) ∧ zcut (zwk (wn (Int32.toNatClampNeg w))) (ct d (Int32.toNatClampNeg (zwr (wn (Int32.toNatClampNeg w)) + zwp (wn (Int32.toNatClampNeg w)) + nI k))) = ct d (Int32.toNatClampNeg (zwr (wn (Int32.toNatClampNeg w)) + zwp (wn (Int32.toNatClampNeg w)) + nI k)) := by
  obtain ⟨d, g1, g2, g3, g4, g5, g6, g7⟩ := zH_st H h
  obtain ⟨hk, ho, hr, hc, hp, he, hm⟩ := zH_win H h
  obtain ⟨d2, fr, sz, pl, en, h2, h3, h4, h5, h6, h7, h8, h9, h10, h11, -⟩ := zI_win H.I h
  rw [g2, nI_eq (by omega) (by omega)] at h2
  subst h2
  rw [hk, hr, hc, hp, he, h3, h4, h5, h6]
  refine ⟨d, g1, g2, g3, g5, nI_pos' (by omega), (nI_leI (by omega) (by omega)).mpr h8, (nI_leI (by omega) (by omega)).mpr h9, nI_pos' (by omega), ?_, en - pl, by omega, by rw [pk_sub h8], fun k hk9 => ?_⟩
  · rw [pk_sub (by omega), nI_leI (by omega) (by omega)]
    omega
  · rw [nI_add, nI_add, nI_clamp (by omega), g6 _ (by omega), ← g7]
    exact ⟨vp_in_nI (by omega) (by omega), H.I.2.2 d _ g1 (by omega)⟩
end Z18

theorem hi_X1_showsChange_X0 : ∀ w ∈ wsX00, w ∈ wsX1_showsChange := by decide +kernel
theorem hi_X1_showsChange_X1 : ∀ w ∈ wsX10, w ∈ wsX1_showsChange := by decide +kernel
theorem hf_X1_showsChange_21 : Cond.fieldLink RX1 21 (TX1 2).1 (TX1 2).2.1 (TX1 2).2.2.1 ∈ wsX1_showsChange := by decide +kernel
theorem hf_X1_showsChange_25 : Cond.fieldLink RX1 25 (TX1 3).1 (TX1 3).2.1 (TX1 3).2.2.1 ∈ wsX1_showsChange := by decide +kernel
theorem hf_X1_showsChange_63 : Cond.fieldLink RX1 63 (TX0 5).1 (TX0 5).2.1 (TX0 5).2.2.1 ∈ wsX1_showsChange := by decide +kernel
set_option maxRecDepth 100000 in
set_option maxHeartbeats 4000000 in
theorem c_X1_showsChange (l : Launch) (g : zG) (L : List Nat) (f : Nat → va_E) (ah : Nat → Nat) (a : Nat) (x : ZW) (yc : Int32) {n : Nat} {ct : Nat → Int64} (p0 : Int32) (hc0 : zc L f (ah 0) (.inr (1, [.ref (ah 1), .ref (ah 2), .ref (ah 11), .ref (ah 12)]))) (hc : zc L f a (.inr (0, zwf x))) (hcp : zc L f (ah 11) (.inr (0, zwf ((zwk x), (zwo x), (zws x), (zwr x + zwp x), yc, 0, yc, (-1))))) (hct : zc L f (ah 12) (.inr (0, zwf x))) (hs : zc L f (zws x) (.inl (g.2 1, n, .inr (.inl ct)))) (hi : vp_in (zwr x + zwp x + p0) n) (hcut : zcut (zwk x) (ct (Int32.toNatClampNeg ((zwr x + zwp x) + p0))) = ct (Int32.toNatClampNeg ((zwr x + zwp x) + p0))) : zC l yX1_showsChange wsX1_showsChange { frames := 2, cells := 0, slots := 0, locals := 45 } 0 0 g [.ref (ah 0), .ref a, .int p0] L f (fun r L1 f1 => some (.int 1) = r ∧ L = L1 ∧ f = f1) zNo := by
  refine z_ofW (cc := cX1_showsChange) (maxL := 8) (ret := (some .boolean)) (by decide) rfl (Nat.le_of_ble_eq_true rfl) ?_
  intro p e s m args below meth c ls A hx hb hr hts hown hlocks hml htab hin hw hX hl
  have hl : lv_has ls 8 [(0, .ref (ah 0)), (1, .ref a), (2, .int p0)] := hl
  have hown : s.vm.findClass RX1 = some m.cls := hown
  refine lv_aload_n hx hb dX1_showsChange_0 rfl (lv_at hl 0 rfl) ?_
  refine zr_get (C := RX1) (T := TX1) (N := 4) (v := .ref (ah 11)) hx hb hts hi_X1_showsChange_X1 hown hw hc0 rfl 2 (by decide) hf_X1_showsChange_21 rfl dX1_showsChange_1 ?_
  refine lv_iload_n hx hb dX1_showsChange_4 rfl (lv_at hl 2 rfl) ?_
  refine z_callV (As := [.int p0]) (rest := []) ⟨hx, hb, hml, hown, hts⟩ hw hX hcp rfl (c_X0_valueAt l g L f (ah 11) ((zwk x), (zwo x), (zws x), (zwr x + zwp x), yc, 0, yc, (-1)) p0 hcp hs hi) (cwV 1 hts gX1_showsChange_X0_valueAt rfl rfl rfl (by decide +kernel) ⟨(Nat.le_of_ble_eq_true rfl), (Nat.le_of_ble_eq_true rfl)⟩) rfl hl.1 rfl (Nat.le_of_ble_eq_true rfl) dX1_showsChange_5 ⟨(Nat.le_of_ble_eq_true rfl), (Nat.le_of_ble_eq_true rfl)⟩ (fun _ _ _ _ _ _ _ hp => False.elim hp) (fun r9 L9 f9 H locs hp hw => ?_)
  obtain ⟨rfl, rfl, rfl⟩ := hp
  refine W.eq (g2 := F0 m 8 ls [.long (ct (Int32.toNatClampNeg ((zwr x + zwp x) + p0)))]) rfl ?_
  refine lv_lstore_n (lv' := [(3, .long (ct (Int32.toNatClampNeg ((zwr x + zwp x) + p0)))), (0, .ref (ah 0)), (1, .ref a), (2, .int p0)]) hx hb dX1_showsChange_8 rfl hl (by decide) rfl (fun ls hl => ?_)
  refine lv_aload_n hx hb dX1_showsChange_9 rfl (lv_at hl 1 rfl) ?_
  refine zr_get (C := RX1) (T := TX1) (N := 4) (v := .ref (ah 11)) hx hb hts hi_X1_showsChange_X1 hown hw hc0 rfl 2 (by decide) hf_X1_showsChange_21 rfl dX1_showsChange_10 ?_
  refine lv_lload_n hx hb dX1_showsChange_13 rfl (lv_at hl 0 rfl) ?_
  refine lv_ldc2 (v := (-1)) hx hb hown (hts (.constantLong RX1 205 (-1)) (by decide +kernel)) dX1_showsChange_14 ?_
  refine lv_lxor hx hb dX1_showsChange_17 ?_
  refine z_callV (As := [.long ((ct (Int32.toNatClampNeg ((zwr x + zwp x) + p0))) ^^^ (-1))]) (rest := []) ⟨hx, hb, hml, hown, hts⟩ hw hX hcp rfl (c_X0_cut l g L f (ah 11) ((zwk x), (zwo x), (zws x), (zwr x + zwp x), yc, 0, yc, (-1)) ((ct (Int32.toNatClampNeg ((zwr x + zwp x) + p0))) ^^^ (-1)) hcp) (cwV 1 hts gX1_showsChange_X0_cut rfl rfl rfl (by decide +kernel) ⟨(Nat.le_of_ble_eq_true rfl), (Nat.le_of_ble_eq_true rfl)⟩) rfl hl.1 rfl (Nat.le_of_ble_eq_true rfl) dX1_showsChange_18 ⟨(Nat.le_of_ble_eq_true rfl), (Nat.le_of_ble_eq_true rfl)⟩ (fun _ _ _ _ _ _ _ hp => False.elim hp) (fun r9 L9 f9 H locs hp hw => ?_)
  obtain ⟨rfl, rfl, rfl⟩ := hp
  refine W.eq (g2 := F0 m 21 ls [.long (zcut (zwk x) ((ct (Int32.toNatClampNeg ((zwr x + zwp x) + p0))) ^^^ (-1)))]) rfl ?_
  refine lv_lstore (lv' := [(5, .long (zcut (zwk x) ((ct (Int32.toNatClampNeg ((zwr x + zwp x) + p0))) ^^^ (-1)))), (3, .long (ct (Int32.toNatClampNeg ((zwr x + zwp x) + p0)))), (0, .ref (ah 0)), (1, .ref a), (2, .int p0)]) hx hb dX1_showsChange_21 hl (by decide) rfl (fun ls hl => ?_)
  refine lv_aload_n hx hb dX1_showsChange_23 rfl (lv_at hl 2 rfl) ?_
  refine zr_get (C := RX1) (T := TX1) (N := 4) (v := .ref (ah 11)) hx hb hts hi_X1_showsChange_X1 hown hw hc0 rfl 2 (by decide) hf_X1_showsChange_21 rfl dX1_showsChange_24 ?_
  refine lv_iload_n hx hb dX1_showsChange_27 rfl (lv_at hl 4 rfl) ?_
  refine lv_lload hx hb dX1_showsChange_28 (lv_at hl 0 rfl) ?_
  refine z_callV (As := [.int p0, .long (zcut (zwk x) ((ct (Int32.toNatClampNeg ((zwr x + zwp x) + p0))) ^^^ (-1)))]) (rest := []) ⟨hx, hb, hml, hown, hts⟩ hw hX hcp rfl (c_X0_changeAt l g L f (ah 11) ((zwk x), (zwo x), (zws x), (zwr x + zwp x), yc, 0, yc, (-1)) p0 (zcut (zwk x) ((ct (Int32.toNatClampNeg ((zwr x + zwp x) + p0))) ^^^ (-1))) hcp hs hi) (cwV 2 hts gX1_showsChange_X0_changeAt rfl rfl rfl (by decide +kernel) ⟨(Nat.le_of_ble_eq_true rfl), (Nat.le_of_ble_eq_true rfl)⟩) rfl hl.1 rfl (Nat.le_of_ble_eq_true rfl) dX1_showsChange_30 ⟨(Nat.le_of_ble_eq_true rfl), (Nat.le_of_ble_eq_true rfl)⟩ (fun _ _ _ _ _ _ _ hp => False.elim hp) (fun r9 L9 f9 H locs hp hw => ?_)
  obtain ⟨rfl, rfl, he_2⟩ := hp
  refine W.eq (g2 := F0 m 33 ls []) rfl ?_
  obtain ⟨f_1, rfl⟩ : ∃ z, z = f9 := ⟨_, rfl⟩
  have hc_3 := zu_o he_2 hc0 (zc.dj hc0 hs (by intro h; cases h))
  have hc_4 := zu_o he_2 hc (zc.dj hc hs (by intro h; cases h))
  have hc_5 := zu_o he_2 hcp (zc.dj hcp hs (by intro h; cases h))
  have hc_6 := zu_o he_2 hct (zc.dj hct hs (by intro h; cases h))
  have hc_7 := zu_c (hs).1 he_2
  refine lv_aload_n hx hb dX1_showsChange_33 rfl (lv_at hl 3 rfl) ?_
  refine lv_aload_n hx hb dX1_showsChange_34 rfl (lv_at hl 3 rfl) ?_
  refine zr_get (C := RX0) (T := TX0) (N := 8) (v := .int (zwp x)) hx hb hts hi_X1_showsChange_X0 hown hw hc_4 rfl 5 (by decide) hf_X1_showsChange_63 rfl dX1_showsChange_35 ?_
  refine lv_iload_n hx hb dX1_showsChange_38 rfl (lv_at hl 4 rfl) ?_
  refine lv_iadd hx hb dX1_showsChange_39 ?_
  refine z_callV (As := [.int ((zwp x) + p0)]) (rest := []) ⟨hx, hb, hml, hown, hts⟩ hw hX hc_4 rfl (c_X0_valueAt l g L f_1 a ((zwk x), (zwo x), (zws x), (zwr x), (zwc x), (zwp x), (zwe x), (zwm x)) ((zwp x) + p0) hc_4 hc_7 (by rw [← Int32.add_assoc]; exact hi)) (cwV 1 hts gX1_showsChange_X0_valueAt rfl rfl rfl (by decide +kernel) ⟨(Nat.le_of_ble_eq_true rfl), (Nat.le_of_ble_eq_true rfl)⟩) rfl hl.1 rfl (Nat.le_of_ble_eq_true rfl) dX1_showsChange_40 ⟨(Nat.le_of_ble_eq_true rfl), (Nat.le_of_ble_eq_true rfl)⟩ (fun _ _ _ _ _ _ _ hp => False.elim hp) (fun r9 L9 f9 H locs hp hw => ?_)
  obtain ⟨rfl, rfl, rfl⟩ := hp
  refine W.eq (g2 := F0 m 43 ls [.long ((vp_updL ct (Int32.toNatClampNeg ((zwr x + zwp x) + p0)) (zcut (zwk x) (zcut (zwk x) ((ct (Int32.toNatClampNeg ((zwr x + zwp x) + p0))) ^^^ (-1))))) (Int32.toNatClampNeg ((zwr x) + ((zwp x) + p0))))]) rfl ?_
  refine lv_lload hx hb dX1_showsChange_43 (lv_at hl 0 rfl) ?_
  refine W.lcmp hx hb dX1_showsChange_45 ?_
  have hk46 : (lg_cmp ((vp_updL ct (Int32.toNatClampNeg ((zwr x + zwp x) + p0)) (zcut (zwk x) (zcut (zwk x) ((ct (Int32.toNatClampNeg ((zwr x + zwp x) + p0))) ^^^ (-1))))) (Int32.toNatClampNeg ((zwr x) + ((zwp x) + p0)))) (zcut (zwk x) ((ct (Int32.toNatClampNeg ((zwr x + zwp x) + p0))) ^^^ (-1)))) = 0 := zcmp0.mpr (by rw [← Int32.add_assoc, pk_uLs, zcut2])
  refine lv_if_ne (tgt := 75) hx hb dX1_showsChange_46 (by decide) (fun c_8 => absurd hk46 c_8) (fun c_8 => ?_)
  refine lv_aload_n hx hb dX1_showsChange_49 rfl (lv_at hl 2 rfl) ?_
  refine zr_get (C := RX1) (T := TX1) (N := 4) (v := .ref (ah 12)) hx hb hts hi_X1_showsChange_X1 hown hw hc_3 rfl 3 (by decide) hf_X1_showsChange_25 rfl dX1_showsChange_50 ?_
  refine lv_aload_n hx hb dX1_showsChange_53 rfl (lv_at hl 2 rfl) ?_
  refine zr_get (C := RX1) (T := TX1) (N := 4) (v := .ref (ah 12)) hx hb hts hi_X1_showsChange_X1 hown hw hc_3 rfl 3 (by decide) hf_X1_showsChange_25 rfl dX1_showsChange_54 ?_
  refine zr_get (C := RX0) (T := TX0) (N := 8) (v := .int (zwp x)) hx hb hts hi_X1_showsChange_X0 hown hw hc_6 rfl 5 (by decide) hf_X1_showsChange_63 rfl dX1_showsChange_57 ?_
  refine lv_iload_n hx hb dX1_showsChange_60 rfl (lv_at hl 4 rfl) ?_
  refine lv_iadd hx hb dX1_showsChange_61 ?_
  refine z_callV (As := [.int ((zwp x) + p0)]) (rest := []) ⟨hx, hb, hml, hown, hts⟩ hw hX hc_6 rfl (c_X0_valueAt l g L f_1 (ah 12) ((zwk x), (zwo x), (zws x), (zwr x), (zwc x), (zwp x), (zwe x), (zwm x)) ((zwp x) + p0) hc_6 hc_7 (by rw [← Int32.add_assoc]; exact hi)) (cwV 1 hts gX1_showsChange_X0_valueAt rfl rfl rfl (by decide +kernel) ⟨(Nat.le_of_ble_eq_true rfl), (Nat.le_of_ble_eq_true rfl)⟩) rfl hl.1 rfl (Nat.le_of_ble_eq_true rfl) dX1_showsChange_62 ⟨(Nat.le_of_ble_eq_true rfl), (Nat.le_of_ble_eq_true rfl)⟩ (fun _ _ _ _ _ _ _ hp => False.elim hp) (fun r9 L9 f9 H locs hp hw => ?_)
  obtain ⟨rfl, rfl, rfl⟩ := hp
  refine W.eq (g2 := F0 m 65 ls [.long ((vp_updL ct (Int32.toNatClampNeg ((zwr x + zwp x) + p0)) (zcut (zwk x) (zcut (zwk x) ((ct (Int32.toNatClampNeg ((zwr x + zwp x) + p0))) ^^^ (-1))))) (Int32.toNatClampNeg ((zwr x) + ((zwp x) + p0))))]) rfl ?_
  refine lv_lload hx hb dX1_showsChange_65 (lv_at hl 0 rfl) ?_
  refine W.lcmp hx hb dX1_showsChange_67 ?_
  have hk68 : (lg_cmp ((vp_updL ct (Int32.toNatClampNeg ((zwr x + zwp x) + p0)) (zcut (zwk x) (zcut (zwk x) ((ct (Int32.toNatClampNeg ((zwr x + zwp x) + p0))) ^^^ (-1))))) (Int32.toNatClampNeg ((zwr x) + ((zwp x) + p0)))) (zcut (zwk x) ((ct (Int32.toNatClampNeg ((zwr x + zwp x) + p0))) ^^^ (-1)))) = 0 := zcmp0.mpr (by rw [← Int32.add_assoc, pk_uLs, zcut2])
  refine lv_if_ne (tgt := 75) hx hb dX1_showsChange_68 (by decide) (fun c_9 => absurd hk68 c_9) (fun c_9 => ?_)
  refine lv_iconst (v := 1) hx hb dX1_showsChange_71 (by decide) ?_
  refine lv_goto (tgt := 76) hx hb dX1_showsChange_72 (by decide) ?_
  refine lv_istore (lv' := [(7, .int 1), (5, .long (zcut (zwk x) ((ct (Int32.toNatClampNeg ((zwr x + zwp x) + p0))) ^^^ (-1)))), (3, .long (ct (Int32.toNatClampNeg ((zwr x + zwp x) + p0)))), (0, .ref (ah 0)), (1, .ref a), (2, .int p0)]) hx hb dX1_showsChange_76 hl (by decide) rfl (fun ls hl => ?_)
  refine lv_aload_n hx hb dX1_showsChange_78 rfl (lv_at hl 3 rfl) ?_
  refine zr_get (C := RX1) (T := TX1) (N := 4) (v := .ref (ah 11)) hx hb hts hi_X1_showsChange_X1 hown hw hc_3 rfl 2 (by decide) hf_X1_showsChange_21 rfl dX1_showsChange_79 ?_
  refine lv_iload_n hx hb dX1_showsChange_82 rfl (lv_at hl 5 rfl) ?_
  refine lv_lload_n hx hb dX1_showsChange_83 rfl (lv_at hl 2 rfl) ?_
  refine z_callV (As := [.int p0, .long (ct (Int32.toNatClampNeg ((zwr x + zwp x) + p0)))]) (rest := []) ⟨hx, hb, hml, hown, hts⟩ hw hX hc_5 rfl (c_X0_changeAt l g L f_1 (ah 11) ((zwk x), (zwo x), (zws x), (zwr x + zwp x), yc, 0, yc, (-1)) p0 (ct (Int32.toNatClampNeg ((zwr x + zwp x) + p0))) hc_5 hc_7 hi) (cwV 2 hts gX1_showsChange_X0_changeAt rfl rfl rfl (by decide +kernel) ⟨(Nat.le_of_ble_eq_true rfl), (Nat.le_of_ble_eq_true rfl)⟩) rfl hl.1 rfl (Nat.le_of_ble_eq_true rfl) dX1_showsChange_84 ⟨(Nat.le_of_ble_eq_true rfl), (Nat.le_of_ble_eq_true rfl)⟩ (fun _ _ _ _ _ _ _ hp => False.elim hp) (fun r9 L9 f9 H locs hp hw => ?_)
  obtain ⟨rfl, rfl, he_11⟩ := hp
  refine W.eq (g2 := F0 m 87 ls []) rfl ?_
  obtain ⟨f_10, rfl⟩ : ∃ z, z = f9 := ⟨_, rfl⟩
  have hc_12 := zu_o he_11 hc_3 (zc.dj hc_3 hc_7 (by intro h; cases h))
  have hc_13 := zu_o he_11 hc_4 (zc.dj hc_4 hc_7 (by intro h; cases h))
  have hc_14 := zu_o he_11 hc_5 (zc.dj hc_5 hc_7 (by intro h; cases h))
  have hc_15 := zu_o he_11 hc_6 (zc.dj hc_6 hc_7 (by intro h; cases h))
  have hc_16 := zu_c (hc_7).1 he_11
  refine lv_iload hx hb dX1_showsChange_87 (lv_at hl 0 rfl) ?_
  have hback := z_back (F := ct) (j := (Int32.toNatClampNeg ((zwr x + zwp x) + p0))) (a := zcut (zwk x) (zcut (zwk x) (ct (Int32.toNatClampNeg ((zwr x + zwp x) + p0)) ^^^ (-1)))) hcut
  have hfin : f = f_10 := by
    rw [← he_11, ← he_2]
    refine Eq.symm ?_
    refine Eq.trans zu_up ?_
    refine Eq.trans (congrArg (fun z => va_up f (zws x) (.inl (g.2 1, n, .inr (.inl z)))) hback) ?_
    exact zu_id hs.2
  exact z_zret hx hb hr hlocks rfl hw (Nat.le_of_ble_eq_true rfl) (Nat.le_of_ble_eq_true rfl) dX1_showsChange_89 ⟨rfl, rfl, hfin⟩

theorem hi_X1_keepsTheorem_X0 : ∀ w ∈ wsX00, w ∈ wsX1_keepsTheorem := by decide +kernel
theorem hi_X1_keepsTheorem_X1 : ∀ w ∈ wsX10, w ∈ wsX1_keepsTheorem := by decide +kernel
theorem hf_X1_keepsTheorem_21 : Cond.fieldLink RX1 21 (TX1 2).1 (TX1 2).2.1 (TX1 2).2.2.1 ∈ wsX1_keepsTheorem := by decide +kernel
theorem hf_X1_keepsTheorem_25 : Cond.fieldLink RX1 25 (TX1 3).1 (TX1 3).2.1 (TX1 3).2.2.1 ∈ wsX1_keepsTheorem := by decide +kernel
theorem hf_X1_keepsTheorem_63 : Cond.fieldLink RX1 63 (TX0 5).1 (TX0 5).2.1 (TX0 5).2.2.1 ∈ wsX1_keepsTheorem := by decide +kernel
theorem hf_X1_keepsTheorem_85 : Cond.fieldLink RX1 85 (TX0 1).1 (TX0 1).2.1 (TX0 1).2.2.1 ∈ wsX1_keepsTheorem := by decide +kernel
set_option maxRecDepth 100000 in
set_option maxHeartbeats 4000000 in
theorem c_X1_keepsTheorem (l : Launch) (g : zG) (L : List Nat) (f : Nat → va_E) {P : Nat → Prop} {σ : ZS} {ah : Nat → Nat} {G Rw : Nat → Option Nat} {rs : Nat → Nat} {wn : Nat → ZW} {ad ln : Nat → Nat} {kd : Nat → Int32} {ct : Nat → Nat → Int64} (w : Int32) (HR : zHR g P σ L f ah G Rw rs wn ad ln kd ct) (hz : zis σ w = true) : zC l yX1_keepsTheorem wsX1_keepsTheorem { frames := 3, cells := 0, slots := 0, locals := 72 } 0 0 g [.ref (ah 0), .ref (ah ((Int32.toNatClampNeg w) + 3))] L f (fun r L1 f1 => some (.int 1) = r ∧ L = L1 ∧ ∃ wn1, zHR g P σ L f1 ah G Rw rs wn1 ad ln kd ct ∧ ∀ b, P b → f1 b = f b) zNo := by
  refine z_ofW (cc := cX1_keepsTheorem) (maxL := 4) (ret := (some .boolean)) (by decide) rfl (Nat.le_of_ble_eq_true rfl) ?_
  intro p e s m args below meth c ls A hx hb hr hts hown hlocks hml htab hin hw hX hl
  have hl : lv_has ls 4 [(0, .ref (ah 0)), (1, .ref (ah ((Int32.toNatClampNeg w) + 3)))] := hl
  have hown : s.vm.findClass RX1 = some m.cls := hown
  obtain ⟨hE, hG, hRw, -⟩ := id HR
  have hiw := vp_lt (zis_7 hz)
  have hc0 : zc L f (ah 0) (.inr (1, [.ref (ah 1), .ref (ah 2), .ref (ah 11), .ref (ah 12)])) := hE.1 0 (by decide)
  have hc : zc L f (ah ((Int32.toNatClampNeg w) + 3)) (.inr (0, zwf (wn (Int32.toNatClampNeg w)))) := hE.1 ((Int32.toNatClampNeg w) + 3) (by omega)
  have hc8 : zc L f (ah 11) (.inr (0, zwf (wn 8))) := hE.1 11 (by decide)
  have hc9 : zc L f (ah 12) (.inr (0, zwf (wn 9))) := hE.1 12 (by decide)
  obtain ⟨d, hd, hsi, hw9, hs, hb1, hb2, hb3, hb4, hb5, n, hn64, hnn, hbk⟩ := zH_bounds HR hz
  have hlv : zLv σ d := Or.inl ⟨_, hiw, (zis_t.mp hz).2, hsi⟩
  rw [← hw9] at hs
  have hne1 : (ah 12) ≠ (ah 11) := fun q => absurd (hE.2 12 11 (by decide) (by decide) q) (by decide)
  have hne2 : (ah ((Int32.toNatClampNeg w) + 3)) ≠ (ah 11) := fun q => absurd (hE.2 ((Int32.toNatClampNeg w) + 3) 11 (by omega) (by decide) q) (by omega)
  have hne3 : (ah ((Int32.toNatClampNeg w) + 3)) ≠ (ah 12) := fun q => absurd (hE.2 ((Int32.toNatClampNeg w) + 3) 12 (by omega) (by decide) q) (by omega)
  have hne4 : (ah 11) ≠ (ah 12) := Ne.symm hne1
  have hne5 : (ah 0) ≠ (ah 11) := fun q => absurd (hE.2 0 11 (by decide) (by decide) q) (by decide)
  have hne6 : (ah 0) ≠ (ah 12) := fun q => absurd (hE.2 0 12 (by decide) (by decide) q) (by decide)
  refine lv_aload_n hx hb dX1_keepsTheorem_0 rfl (lv_at hl 1 rfl) ?_
  refine z_callV (As := []) (rest := []) ⟨hx, hb, hml, hown, hts⟩ hw hX hc rfl (c_X0_isInBounds l g L f (ah ((Int32.toNatClampNeg w) + 3)) (wn (Int32.toNatClampNeg w)) hc hs hb1 hb2 hb3 hb4 hb5) (cwV 0 hts gX1_keepsTheorem_X0_isInBounds rfl rfl rfl (by decide +kernel) ⟨(Nat.le_of_ble_eq_true rfl), (Nat.le_of_ble_eq_true rfl)⟩) rfl hl.1 rfl (Nat.le_of_ble_eq_true rfl) dX1_keepsTheorem_1 ⟨(Nat.le_of_ble_eq_true rfl), (Nat.le_of_ble_eq_true rfl)⟩ (fun _ _ _ _ _ _ _ hp => False.elim hp) (fun r9 L9 f9 H locs hp hw => ?_)
  obtain ⟨rfl, rfl, rfl⟩ := hp
  refine W.eq (g2 := F0 m 4 ls [.int 1]) rfl ?_
  refine lv_if_ne (tgt := 9) hx hb dX1_keepsTheorem_4 (by decide) (fun c_1 => ?_) (fun c_1 => absurd c_1 (by decide))
  refine lv_aload_n hx hb dX1_keepsTheorem_9 rfl (lv_at hl 1 rfl) ?_
  refine zr_get (C := RX0) (T := TX0) (N := 8) (v := .int (zwo (wn (Int32.toNatClampNeg w)))) hx hb hts hi_X1_keepsTheorem_X0 hown hw hc rfl 1 (by decide) hf_X1_keepsTheorem_85 rfl dX1_keepsTheorem_10 ?_
  refine lv_if_eq (tgt := 18) hx hb dX1_keepsTheorem_13 (by decide) (fun c_2 => ?_) (fun c_2 => ?_)
  · refine lv_aload_n hx hb dX1_keepsTheorem_18 rfl (lv_at hl 1 rfl) ?_
    refine z_callV (As := []) (rest := []) ⟨hx, hb, hml, hown, hts⟩ hw hX hc rfl (c_X0_rest l g L f (ah ((Int32.toNatClampNeg w) + 3)) ((zwk (wn (Int32.toNatClampNeg w))), (zwo (wn (Int32.toNatClampNeg w))), (zws (wn (Int32.toNatClampNeg w))), (zwr (wn (Int32.toNatClampNeg w))), (zwc (wn (Int32.toNatClampNeg w))), (zwp (wn (Int32.toNatClampNeg w))), (zwe (wn (Int32.toNatClampNeg w))), (zwm (wn (Int32.toNatClampNeg w)))) hc) (cwV 0 hts gX1_keepsTheorem_X0_rest rfl rfl rfl (by decide +kernel) ⟨(Nat.le_of_ble_eq_true rfl), (Nat.le_of_ble_eq_true rfl)⟩) rfl hl.1 rfl (Nat.le_of_ble_eq_true rfl) dX1_keepsTheorem_19 ⟨(Nat.le_of_ble_eq_true rfl), (Nat.le_of_ble_eq_true rfl)⟩ (fun _ _ _ _ _ _ _ hp => False.elim hp) (fun r9 L9 f9 H locs hp hw => ?_)
    obtain ⟨rfl, rfl, rfl⟩ := hp
    refine W.eq (g2 := F0 m 22 ls [.int ((zwe (wn (Int32.toNatClampNeg w))) - (zwp (wn (Int32.toNatClampNeg w))))]) rfl ?_
    refine lv_istore_n (lv' := [(2, .int ((zwe (wn (Int32.toNatClampNeg w))) - (zwp (wn (Int32.toNatClampNeg w))))), (0, .ref (ah 0)), (1, .ref (ah ((Int32.toNatClampNeg w) + 3)))]) hx hb dX1_keepsTheorem_22 rfl hl (by decide) rfl (fun ls hl => ?_)
    refine lv_aload_n hx hb dX1_keepsTheorem_23 rfl (lv_at hl 1 rfl) ?_
    refine zr_get (C := RX1) (T := TX1) (N := 4) (v := .ref (ah 11)) hx hb hts hi_X1_keepsTheorem_X1 hown hw hc0 rfl 2 (by decide) hf_X1_keepsTheorem_21 rfl dX1_keepsTheorem_24 ?_
    refine lv_aload_n hx hb dX1_keepsTheorem_27 rfl (lv_at hl 2 rfl) ?_
    refine lv_aload_n hx hb dX1_keepsTheorem_28 rfl (lv_at hl 2 rfl) ?_
    refine zr_get (C := RX0) (T := TX0) (N := 8) (v := .int (zwp (wn (Int32.toNatClampNeg w)))) hx hb hts hi_X1_keepsTheorem_X0 hown hw hc rfl 5 (by decide) hf_X1_keepsTheorem_63 rfl dX1_keepsTheorem_29 ?_
    refine lv_iload_n hx hb dX1_keepsTheorem_32 rfl (lv_at hl 0 rfl) ?_
    refine z_callV (As := [.ref (ah ((Int32.toNatClampNeg w) + 3)), .int (zwp (wn (Int32.toNatClampNeg w))), .int ((zwe (wn (Int32.toNatClampNeg w))) - (zwp (wn (Int32.toNatClampNeg w))))]) (rest := []) ⟨hx, hb, hml, hown, hts⟩ hw hX hc8 rfl (c_X0_becomeSlice l g L f (ah 11) (wn 8) (ah ((Int32.toNatClampNeg w) + 3)) (wn (Int32.toNatClampNeg w)) (zwp (wn (Int32.toNatClampNeg w))) ((zwe (wn (Int32.toNatClampNeg w))) - (zwp (wn (Int32.toNatClampNeg w)))) hc8 hc (zH_kb HR hz).2.1 (zH_kb HR hz).2.2.1) (cwV 3 hts gX1_keepsTheorem_X0_becomeSlice rfl rfl rfl (by decide +kernel) ⟨(Nat.le_of_ble_eq_true rfl), (Nat.le_of_ble_eq_true rfl)⟩) rfl hl.1 rfl (Nat.le_of_ble_eq_true rfl) dX1_keepsTheorem_33 ⟨(Nat.le_of_ble_eq_true rfl), (Nat.le_of_ble_eq_true rfl)⟩ (fun _ _ _ _ _ _ _ hp => False.elim hp) (fun r9 L9 f9 H locs hp hw => ?_)
    obtain ⟨rfl, rfl, hu9⟩ := hp
    refine W.eq (g2 := F0 m 36 ls []) rfl ?_
    have hu := hu9
    obtain ⟨f_3, rfl⟩ : ∃ z, z = f9 := ⟨_, rfl⟩
    have hq1 := hu
    refine lv_aload_n hx hb dX1_keepsTheorem_36 rfl (lv_at hl 1 rfl) ?_
    refine zr_get (C := RX1) (T := TX1) (N := 4) (v := .ref (ah 12)) hx hb hts hi_X1_keepsTheorem_X1 hown hw (zu_o hu hc0 hne5) rfl 3 (by decide) hf_X1_keepsTheorem_25 rfl dX1_keepsTheorem_37 ?_
    refine lv_aload_n hx hb dX1_keepsTheorem_40 rfl (lv_at hl 2 rfl) ?_
    have hc_4 := (zu_o hu hc0 hne5)
    have hc_5 := (zu_o hu hc hne2)
    have hc_6 := (zu_c (hc8).1 hu)
    have hc_7 := (zu_o hu hc9 hne1)
    refine z_callV (As := [.ref (ah ((Int32.toNatClampNeg w) + 3))]) (rest := []) ⟨hx, hb, hml, hown, hts⟩ hw hX hc_7 rfl (c_X0_becomeDuplicate l g L f_3 (ah 12) (wn 9) (ah ((Int32.toNatClampNeg w) + 3)) (wn (Int32.toNatClampNeg w)) hc_7 hc_5 (zH_kb HR hz).2.1 (zH_kb HR hz).2.2.1) (cwV 1 hts gX1_keepsTheorem_X0_becomeDuplicate rfl rfl rfl (by decide +kernel) ⟨(Nat.le_of_ble_eq_true rfl), (Nat.le_of_ble_eq_true rfl)⟩) rfl hl.1 rfl (Nat.le_of_ble_eq_true rfl) dX1_keepsTheorem_41 ⟨(Nat.le_of_ble_eq_true rfl), (Nat.le_of_ble_eq_true rfl)⟩ (fun _ _ _ _ _ _ _ hp => False.elim hp) (fun r9 L9 f9 H locs hp hw => ?_)
    obtain ⟨rfl, rfl, hu9⟩ := hp
    refine W.eq (g2 := F0 m 44 ls []) rfl ?_
    have hu := hu9
    obtain ⟨f_8, rfl⟩ : ∃ z, z = f9 := ⟨_, rfl⟩
    have HRd := zHR_f hu (zHR_oth (zHR_f hq1 (zHR_oth HR (j := 8) (by decide) (by decide) ((zwk (wn (Int32.toNatClampNeg w))), (zwo (wn (Int32.toNatClampNeg w))), (zws (wn (Int32.toNatClampNeg w))), ((zwr (wn (Int32.toNatClampNeg w))) + (zwp (wn (Int32.toNatClampNeg w)))), ((zwe (wn (Int32.toNatClampNeg w))) - (zwp (wn (Int32.toNatClampNeg w)))), 0, ((zwe (wn (Int32.toNatClampNeg w))) - (zwp (wn (Int32.toNatClampNeg w)))), (-1)))) (j := 9) (by decide) (by decide) ((zwk (wn (Int32.toNatClampNeg w))), (zwo (wn (Int32.toNatClampNeg w))), (zws (wn (Int32.toNatClampNeg w))), (zwr (wn (Int32.toNatClampNeg w))), (zwc (wn (Int32.toNatClampNeg w))), (zwp (wn (Int32.toNatClampNeg w))), (zwe (wn (Int32.toNatClampNeg w))), (zwm (wn (Int32.toNatClampNeg w)))))
    have hfrd : ∀ b, P b → f_8 b = f b := fun b hb => by rw [← hu]; exact (zfr_win (zHR_f hq1 (zHR_oth HR (j := 8) (by decide) (by decide) ((zwk (wn (Int32.toNatClampNeg w))), (zwo (wn (Int32.toNatClampNeg w))), (zws (wn (Int32.toNatClampNeg w))), ((zwr (wn (Int32.toNatClampNeg w))) + (zwp (wn (Int32.toNatClampNeg w)))), ((zwe (wn (Int32.toNatClampNeg w))) - (zwp (wn (Int32.toNatClampNeg w)))), 0, ((zwe (wn (Int32.toNatClampNeg w))) - (zwp (wn (Int32.toNatClampNeg w)))), (-1)))) (k := 12) (by decide) b hb).trans (by rw [← hq1]; exact zfr_win HR (k := 11) (by decide) b hb)
    refine lv_iconst (v := 0) hx hb dX1_keepsTheorem_44 (by decide) ?_
    refine lv_istore_n (lv' := [(3, .int 0), (2, .int ((zwe (wn (Int32.toNatClampNeg w))) - (zwp (wn (Int32.toNatClampNeg w))))), (0, .ref (ah 0)), (1, .ref (ah ((Int32.toNatClampNeg w) + 3)))]) hx hb dX1_keepsTheorem_45 rfl hl (by decide) rfl (fun ls hl => ?_)
    have hc_9 := (zu_o hu hc_4 hne6)
    have hc_10 := (zu_o hu hc_5 hne3)
    have hc_11 := (zu_o hu hc_6 hne4)
    have hc_12 := (zu_c (hc_7).1 hu)
    rw [hnn] at hl
    have hs_13 : zc L f_8 (zws (wn (Int32.toNatClampNeg w))) (.inl (g.2 1, ln d, .inr (.inl (ct d)))) := by rw [hw9]; exact (HRd.2.2.2.2.2.1 d hd hlv).1
    have loop_46 : ∀ (n9 : Nat) (k : Nat) (H : Heap) (locs : List Loc) (ls : Array Slot), (k ≤ n) → (n + 1 ≤ k + n9) → zW g A s L f_8 H locs → lv_has ls 4 [(0, .ref (ah 0)), (1, .ref (ah ((Int32.toNatClampNeg w) + 3))), (2, .int (nI n)), (3, .int (nI k))] → W p l e { frames := 3, cells := 0, slots := 0, locals := 72 } s m args below meth c H locs 0 0 (vx_MQ below (zQ g A (fun r L1 f1 => some (.int 1) = r ∧ L = L1 ∧ ∃ wn1, zHR g P σ L f1 ah G Rw rs wn1 ad ln kd ct ∧ ∀ b, P b → f1 b = f b)) (zXC g A zNo) args s 0 0 A) (F0 m 46 ls []) := by
      intro n9
      induction n9 with
      | zero => intro k H locs ls hk hn hw hl; exact absurd hn (by omega)
      | succ n9 ih_46 =>
        intro k H locs ls hk hn hw hl
        refine lv_iload_n hx hb dX1_keepsTheorem_46 rfl (lv_at hl 3 rfl) ?_
        refine lv_iload_n hx hb dX1_keepsTheorem_47 rfl (lv_at hl 2 rfl) ?_
        refine lv_icmp_ge (tgt := 68) hx hb dX1_keepsTheorem_48 (by decide) (fun c_14 => ?_) (fun c_14 => ?_)
        · refine lv_iconst (v := 1) hx hb dX1_keepsTheorem_68 (by decide) ?_
          exact z_zret hx hb hr hlocks rfl hw (Nat.le_of_ble_eq_true rfl) (Nat.le_of_ble_eq_true rfl) dX1_keepsTheorem_69 ⟨rfl, rfl, _, HRd, hfrd⟩
        · have hlt : k < n := zn_lt (n := n) c_14 hk (by omega)
          refine lv_aload_n hx hb dX1_keepsTheorem_51 rfl (lv_at hl 0 rfl) ?_
          refine lv_aload_n hx hb dX1_keepsTheorem_52 rfl (lv_at hl 1 rfl) ?_
          refine lv_iload_n hx hb dX1_keepsTheorem_53 rfl (lv_at hl 3 rfl) ?_
          refine z_callV (As := [.ref (ah ((Int32.toNatClampNeg w) + 3)), .int (nI k)]) (rest := []) ⟨hx, hb, hml, hown, hts⟩ hw hX hc_9 rfl (c_X1_showsChange l g L f_8 ah (ah ((Int32.toNatClampNeg w) + 3)) (wn (Int32.toNatClampNeg w)) ((zwe (wn (Int32.toNatClampNeg w))) - (zwp (wn (Int32.toNatClampNeg w)))) (nI k) hc_9 hc_10 hc_11 hc_12 hs_13 (hbk k hlt).1 (hbk k hlt).2) (cwV 2 hts gX1_keepsTheorem_X1_showsChange rfl rfl rfl (by decide +kernel) ⟨(Nat.le_of_ble_eq_true rfl), (Nat.le_of_ble_eq_true rfl)⟩) rfl hl.1 rfl (Nat.le_of_ble_eq_true rfl) dX1_keepsTheorem_54 ⟨(Nat.le_of_ble_eq_true rfl), (Nat.le_of_ble_eq_true rfl)⟩ (fun _ _ _ _ _ _ _ hp => False.elim hp) (fun r9 L9 f9 H locs hp hw => ?_)
          obtain ⟨rfl, rfl, rfl⟩ := hp
          refine W.eq (g2 := F0 m 57 ls [.int 1]) rfl ?_
          refine lv_if_ne (tgt := 62) hx hb dX1_keepsTheorem_57 (by decide) (fun c_15 => ?_) (fun c_15 => absurd c_15 (by decide))
          refine lv_iinc (v := ((nI k) + 1)) (lv' := [(3, .int ((nI k) + 1)), (0, .ref (ah 0)), (1, .ref (ah ((Int32.toNatClampNeg w) + 3))), (2, .int (nI n))]) hx hb dX1_keepsTheorem_62 hl (k := 3) rfl rfl (by decide) rfl (fun ls hl => ?_)
          refine lv_goto (tgt := 46) hx hb dX1_keepsTheorem_65 (by decide) ?_
          refine ih_46 (k + 1) _ _ _ (by omega) (by omega) hw ?_
          have hl := lv_sub hl (l' := [(0, .ref (ah 0)), (1, .ref (ah ((Int32.toNatClampNeg w) + 3))), (2, .int (nI n)), (3, .int ((nI k) + 1))]) [1, 2, 3, 0] rfl
          rw [← nI_1 k]
          exact hl
    refine loop_46 (n + 1) 0 _ _ _ (Nat.zero_le _) (by omega) hw ?_
    have hl := lv_sub hl (l' := [(0, .ref (ah 0)), (1, .ref (ah ((Int32.toNatClampNeg w) + 3))), (2, .int (nI n)), (3, .int 0)]) [2, 3, 1, 0] rfl
    exact hl
  · refine lv_iconst (v := 1) hx hb dX1_keepsTheorem_16 (by decide) ?_
    exact z_zret hx hb hr hlocks rfl hw (Nat.le_of_ble_eq_true rfl) (Nat.le_of_ble_eq_true rfl) dX1_keepsTheorem_17 ⟨rfl, rfl, _, HR, fun _ _ => rfl⟩

theorem hi_X1_isTrue_X1 : ∀ w ∈ wsX10, w ∈ wsX1_isTrue := by decide +kernel
theorem hf_X1_isTrue_16 : Cond.fieldLink RX1 16 (TX1 0).1 (TX1 0).2.1 (TX1 0).2.2.1 ∈ wsX1_isTrue := by decide +kernel
set_option maxRecDepth 100000 in
set_option maxHeartbeats 4000000 in
theorem c_X1_isTrue (l : Launch) (g : zG) (L : List Nat) (f : Nat → va_E) (h : Nat) (P : Nat → Prop) (σ : ZS)  (hH : zHC g h P σ L f) : zC l yX1_isTrue wsX1_isTrue { frames := 4, cells := 0, slots := 0, locals := 95 } 0 0 g [.ref h] L f (fun r L1 f1 => (o_isTrue σ).1 = 0 ∧ some (.int (o_isTrue σ).2.1) = r ∧ zHC g h P (o_isTrue σ).2.2 L1 f1 ∧ ∀ b, P b → f1 b = f b) zNo := by
  obtain ⟨ah, G, Rw, rs, wn, ad, ln, kd, ct, rfl, HR⟩ := hH
  obtain ⟨hE, hG, hRw, -⟩ := id HR
  refine z_ofW (cc := cX1_isTrue) (maxL := 2) (ret := (some .boolean)) (by decide) rfl (Nat.le_of_ble_eq_true rfl) ?_
  intro p e s m args below meth c ls A hx hb hr hts hown hlocks hml htab hin hw hX hl
  have hl : lv_has ls 2 [(0, .ref (ah 0))] := hl
  have hown : s.vm.findClass RX1 = some m.cls := hown
  refine lv_iconst (v := 0) hx hb dX1_isTrue_0 (by decide) ?_
  refine lv_istore_n (lv' := [(1, .int 0), (0, .ref (ah 0))]) hx hb dX1_isTrue_1 rfl hl (by decide) rfl (fun ls hl => ?_)
  have loop_2 : ∀ (n9 : Nat) (w : Nat) (wn : Nat → ZW) (f8 : Nat → va_E) (H : Heap) (locs : List Loc) (ls : Array Slot), (w ≤ 8) → (9 ≤ w + n9) → (zHR g P σ L f8 ah G Rw rs wn ad ln kd ct) → (∀ b, P b → f8 b = f b) → zW g A s L f8 H locs → lv_has ls 2 [(0, .ref (ah 0)), (1, .int (nI w))] → W p l e { frames := 4, cells := 0, slots := 0, locals := 95 } s m args below meth c H locs 0 0 (vx_MQ below (zQ g A (fun r L1 f1 => (o_isTrue σ).1 = 0 ∧ some (.int (o_isTrue σ).2.1) = r ∧ zHC g (ah 0) P (o_isTrue σ).2.2 L1 f1 ∧ ∀ b, P b → f1 b = f b)) (zXC g A zNo) args s 0 0 A) (F0 m 2 ls []) := by
    intro n9
    induction n9 with
    | zero => intro w wn f8 H locs ls hk hn HR hfr8 hw hl; exact absurd hn (by omega)
    | succ n9 ih_2 =>
      intro w wn f8 H locs ls hk hn HR hfr8 hw hl
      obtain ⟨hE, hG, hRw, -⟩ := id HR
      refine lv_iload_n hx hb dX1_isTrue_2 rfl (lv_at hl 1 rfl) ?_
      refine lv_bipush (v := 8) hx hb dX1_isTrue_3 (by decide) ?_
      refine lv_icmp_ge (tgt := 41) hx hb dX1_isTrue_5 (by decide) (fun c_1 => ?_) (fun c_1 => ?_)
      · refine lv_iconst (v := 1) hx hb dX1_isTrue_41 (by decide) ?_
        have ho : (o_isTrue σ) = (0, 1, σ) := rfl
        exact z_zret hx hb hr hlocks rfl hw (Nat.le_of_ble_eq_true rfl) (Nat.le_of_ble_eq_true rfl) dX1_isTrue_42 ⟨by rw [ho], congrArg (fun z => some (Value.int z)) ((congrArg (fun q => q.2.1) ho).trans (show (1 : Int32) = 1 from rfl)), by rw [ho]; exact ⟨_, _, _, _, _, _, _, _, _, rfl, HR⟩, hfr8⟩
      · have hlt : w < 8 := zn_lt (n := 8) c_1 hk (by decide)
        refine lv_aload_n hx hb dX1_isTrue_8 rfl (lv_at hl 0 rfl) ?_
        refine zr_get (C := RX1) (T := TX1) (N := 4) (v := .ref (ah 1)) hx hb hts hi_X1_isTrue_X1 hown hw (hE.1 0 (by decide)) rfl 0 (by decide) hf_X1_isTrue_16 rfl dX1_isTrue_9 ?_
        refine lv_iload_n hx hb dX1_isTrue_12 rfl (lv_at hl 1 rfl) ?_
        refine zr_aald (v := ah ((Int32.toNatClampNeg (nI w)) + 3)) hx hb hw (hE.1 1 (by decide)) (vp_in_nI hlt (by decide)) (hG _ (vp_lt (vp_in_nI hlt (by decide)))) dX1_isTrue_13 ?_
        have hc_2 : zc L f8 (ah ((Int32.toNatClampNeg (nI w)) + 3)) (.inr (0, zwf (wn (Int32.toNatClampNeg (nI w))))) := hE.1 ((Int32.toNatClampNeg (nI w)) + 3) (by have := vp_lt (vp_in_nI hlt (by decide)); omega)
        refine z_callV (As := []) (rest := []) ⟨hx, hb, hml, hown, hts⟩ hw hX hc_2 rfl (c_X0_isThere l g L f8 (ah ((Int32.toNatClampNeg (nI w)) + 3)) ((zwk (wn (Int32.toNatClampNeg (nI w)))), (zwo (wn (Int32.toNatClampNeg (nI w)))), (zws (wn (Int32.toNatClampNeg (nI w)))), (zwr (wn (Int32.toNatClampNeg (nI w)))), (zwc (wn (Int32.toNatClampNeg (nI w)))), (zwp (wn (Int32.toNatClampNeg (nI w)))), (zwe (wn (Int32.toNatClampNeg (nI w)))), (zwm (wn (Int32.toNatClampNeg (nI w))))) hc_2) (cwV 0 hts gX1_isTrue_X0_isThere rfl rfl rfl (by decide +kernel) ⟨(Nat.le_of_ble_eq_true rfl), (Nat.le_of_ble_eq_true rfl)⟩) rfl hl.1 rfl (Nat.le_of_ble_eq_true rfl) dX1_isTrue_14 ⟨(Nat.le_of_ble_eq_true rfl), (Nat.le_of_ble_eq_true rfl)⟩ (fun _ _ _ _ _ _ _ hp => False.elim hp) (fun r9 L9 f9 H locs hp hw => ?_)
        obtain ⟨rfl, rfl, rfl⟩ := hp
        refine W.eq (g2 := F0 m 17 ls [.int (zb (decide (¬ (zwk (wn (Int32.toNatClampNeg (nI w)))) = 45)))]) rfl ?_
        refine zr_beq hx hb dX1_isTrue_17 (tgt := 35) (by decide) (fun c_3 => ?_) (fun c_3 => ?_)
        · refine lv_iinc (v := ((nI w) + 1)) (lv' := [(1, .int ((nI w) + 1)), (0, .ref (ah 0))]) hx hb dX1_isTrue_35 hl (k := 1) rfl rfl (by decide) rfl (fun ls hl => ?_)
          refine lv_goto (tgt := 2) hx hb dX1_isTrue_38 (by decide) ?_
          refine ih_2 (w + 1) wn _ _ _ _ (by omega) (by omega) HR hfr8 hw ?_
          have hl := lv_sub hl (l' := [(0, .ref (ah 0)), (1, .int ((nI w) + 1))]) [1, 0] rfl
          rw [← nI_1 w]
          exact hl
        · have hz : zis σ (nI w) = true := (zH_is HR).mp ⟨vp_in_nI hlt (by decide), of_decide_eq_true c_3⟩
          refine lv_aload_n hx hb dX1_isTrue_20 rfl (lv_at hl 0 rfl) ?_
          refine lv_aload_n hx hb dX1_isTrue_21 rfl (lv_at hl 0 rfl) ?_
          refine zr_get (C := RX1) (T := TX1) (N := 4) (v := .ref (ah 1)) hx hb hts hi_X1_isTrue_X1 hown hw (hE.1 0 (by decide)) rfl 0 (by decide) hf_X1_isTrue_16 rfl dX1_isTrue_22 ?_
          refine lv_iload_n hx hb dX1_isTrue_25 rfl (lv_at hl 1 rfl) ?_
          refine zr_aald (v := ah ((Int32.toNatClampNeg (nI w)) + 3)) hx hb hw (hE.1 1 (by decide)) (vp_in_nI hlt (by decide)) (hG _ (vp_lt (vp_in_nI hlt (by decide)))) dX1_isTrue_26 ?_
          refine z_callV (As := [.ref (ah ((Int32.toNatClampNeg (nI w)) + 3))]) (rest := []) ⟨hx, hb, hml, hown, hts⟩ hw hX (hE.1 0 (by decide)) rfl (c_X1_keepsTheorem l g L f8 (nI w) HR hz) (cwV 1 hts gX1_isTrue_X1_keepsTheorem rfl rfl rfl (by decide +kernel) ⟨(Nat.le_of_ble_eq_true rfl), (Nat.le_of_ble_eq_true rfl)⟩) rfl hl.1 rfl (Nat.le_of_ble_eq_true rfl) dX1_isTrue_27 ⟨(Nat.le_of_ble_eq_true rfl), (Nat.le_of_ble_eq_true rfl)⟩ (fun _ _ _ _ _ _ _ hp => False.elim hp) (fun r9 L9 f9 H locs hp hw => ?_)
          obtain ⟨rfl, rfl, wn1, HR1, hfr1⟩ := hp
          refine W.eq (g2 := F0 m 30 ls [.int 1]) rfl ?_
          obtain ⟨f_4, rfl⟩ : ∃ z, z = f9 := ⟨_, rfl⟩
          refine lv_if_ne (tgt := 35) hx hb dX1_isTrue_30 (by decide) (fun c_5 => ?_) (fun c_5 => absurd c_5 (by decide))
          refine lv_iinc (v := ((nI w) + 1)) (lv' := [(1, .int ((nI w) + 1)), (0, .ref (ah 0))]) hx hb dX1_isTrue_35 hl (k := 1) rfl rfl (by decide) rfl (fun ls hl => ?_)
          refine lv_goto (tgt := 2) hx hb dX1_isTrue_38 (by decide) ?_
          refine ih_2 (w + 1) wn1 _ _ _ _ (by omega) (by omega) HR1 (fun b hb => (hfr1 b hb).trans (hfr8 b hb)) hw ?_
          have hl := lv_sub hl (l' := [(0, .ref (ah 0)), (1, .int ((nI w) + 1))]) [1, 0] rfl
          rw [← nI_1 w]
          exact hl
  refine loop_2 (9) 0 wn _ _ _ _ (by decide) (by decide) HR (fun _ _ => rfl) hw ?_
  have hl := lv_sub hl (l' := [(0, .ref (ah 0)), (1, .int 0)]) [1, 0] rfl
  exact hl

