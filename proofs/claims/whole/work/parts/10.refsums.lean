theorem zis_n {σ : ZS} {w : Nat} (hw : w < 8) : zis σ (nI w) = true ↔ ¬ zK σ w = 0 := by
  rw [zis_t, nI_clamp (by omega), show (7 : Int32) = nI 7 from rfl, nI_leI (by omega) (by omega)]
  exact ⟨fun h => h.2, fun h => ⟨⟨nI_pos' (by omega), by omega⟩, h⟩⟩
theorem zMl_n {σ : ZS} {ln : Nat → Nat} {kd : Nat → Int32} (hI : zI σ ln kd) : ∀ w, w ≤ 8 → ∃ a b, a ≤ 64 * w ∧ b ≤ w ∧ zMls σ w = nI a ∧ zMlc σ w = nI b
  | 0, _ => ⟨0, 0, by omega, by omega, rfl, rfl⟩
  | w + 1, hw => by
    obtain ⟨a, b, h1, h2, h3, h4⟩ := zMl_n hI w (by omega)
    by_cases h : zis σ (nI w) = true
    · obtain ⟨n, h5, h6⟩ := zWin_n (zI_win hI h)
      exact ⟨a + n, b + 1, by omega, by omega, by rw [zMls, if_pos h, h3, h6, nI_add], by rw [zMlc, if_pos h, h4, nI_1]⟩
    · exact ⟨a, b, by omega, by omega, by rw [zMls, if_neg h, h3, Int32.add_zero], by rw [zMlc, if_neg h, h4, Int32.add_zero]⟩
set_option maxRecDepth 100000 in
theorem z_nand : ∀ a, a < 513 → ∀ b, b < 9 → 0 < b → vf_n64 (FP.ddiv (FP.i2d (nI a)) (FP.i2d (nI b))) := by unfold vf_n64; decide +kernel
theorem zMl_nan {σ : ZS} {ln : Nat → Nat} {kd : Nat → Int32} (hI : zI σ ln kd) (hne : ¬ zMlc σ 8 = 0) : vf_n64 (FP.ddiv (FP.i2d (zMls σ 8)) (FP.i2d (zMlc σ 8))) := by
  obtain ⟨a, b, h1, h2, h3, h4⟩ := zMl_n hI 8 (Nat.le_refl 8)
  rw [h3, h4]
  refine z_nand a (by omega) b (by omega) (Nat.pos_of_ne_zero (fun q => hne ?_))
  rw [h4, q]
  rfl
theorem zAt_c0 {σ : ZS} {ln : Nat → Nat} {i k : Nat} (hw : zWin σ ln i) (hk : k < Int32.toNatClampNeg (zEN σ i)) : vp_in (zAt σ i (nI k)) 704 := by
  obtain ⟨d, fr, sz, pl, en, h2, h3, h4, h5, h6, h7, h8, h9, h10, h11, -⟩ := id hw
  rw [h6, nI_clamp (by omega)] at hk
  exact zAt_in hw (nI_pos (by omega)) (by rw [h6]; exact (nI_ltI (by omega) (by omega)).mpr (by omega))
theorem zWin_en {σ : ZS} {ln : Nat → Nat} {i : Nat} (hw : zWin σ ln i) : zEN σ i = nI (Int32.toNatClampNeg (zEN σ i)) ∧ Int32.toNatClampNeg (zEN σ i) ≤ 64 := by
  obtain ⟨d, fr, sz, pl, en, h2, h3, h4, h5, h6, h7, h8, h9, h10, h11, -⟩ := hw
  rw [h6, nI_clamp (by omega)]
  exact ⟨rfl, by omega⟩
theorem zRow_n {σ : ZS} {ln : Nat → Nat} {kd : Nat → Int32} {r : Nat} (hI : zI σ ln kd) (hr : r < 2) : zRL σ r = nI (Int32.toNatClampNeg (zRL σ r)) ∧ Int32.toNatClampNeg (zRL σ r) ≤ 64 ∧ ∀ k, k < Int32.toNatClampNeg (zRL σ r) → vp_in (64 * zRS σ r + nI k) 704 := by
  obtain ⟨d, h1, h2, h3, h4, -⟩ := hI.2.1 r hr
  rw [h3, nI_clamp (by omega)]
  refine ⟨rfl, h4, fun k hk => ?_⟩
  rw [h2, show (64 : Int32) = nI 64 from rfl, pk_mul, nI_add]
  exact vp_in_nI (by omega) (by omega)

def o_meanLeft (σ : ZS) : Int32 × UInt64 × ZS := if zMlc σ 8 = 0 then (1, 0, σ) else (0, FP.ddiv (FP.i2d (zMls σ 8)) (FP.i2d (zMlc σ 8)), σ)

theorem hi_X2_meanLeft : ∀ w ∈ wsX20, w ∈ wsX2_meanLeft := by decide +kernel
theorem hf_X2_meanLeft_26 : Cond.fieldLink RX2 26 (TX2 5).1 (TX2 5).2.1 (TX2 5).2.2.1 ∈ wsX2_meanLeft := by decide +kernel
theorem hf_X2_meanLeft_29 : Cond.fieldLink RX2 29 (TX2 6).1 (TX2 6).2.1 (TX2 6).2.2.1 ∈ wsX2_meanLeft := by decide +kernel
theorem hf_X2_meanLeft_48 : Cond.fieldLink RX2 48 (TX2 12).1 (TX2 12).2.1 (TX2 12).2.2.1 ∈ wsX2_meanLeft := by decide +kernel
set_option maxRecDepth 100000 in
set_option maxHeartbeats 4000000 in
theorem c_X2_meanLeft (l : Launch) (g : zG) (am : Nat → Nat) (L : List Nat) (f : Nat → va_E) (σ : ZS) (bs : Nat → Int64) (th : Int32) (hm : zM g am f σ bs th L f) {ln : Nat → Nat} {kd : Nat → Int32} (hI : zI σ ln kd) : zC l yX2_meanLeft wsX2_meanLeft { frames := 2, cells := 0, slots := 0, locals := 43 } 0 0 g [.ref (am 0)] L f (fun r L1 f1 => L = L1 ∧ ∃ (b9 : UInt64) (bs1 : Nat → Int64), some (.double b9) = r ∧ zM g am f (o_meanLeft σ).2.2 bs1 (o_meanLeft σ).1 L f1 ∧ ((o_meanLeft σ).1 = 0 → b9 = (o_meanLeft σ).2.1)) zNo := by
  refine z_ofW (cc := cX2_meanLeft) (maxL := 4) (ret := (some .double)) (by decide) rfl (Nat.le_of_ble_eq_true rfl) ?_
  intro p e s m args below meth c ls A hx hb hr hts hown hlocks hml htab hin hw hX hl
  have hl : lv_has ls 4 [(0, .ref (am 0))] := hl
  have hown : s.vm.findClass RX2 = some m.cls := hown
  refine lv_iconst (v := 0) hx hb dX2_meanLeft_0 (by decide) ?_
  refine lv_istore_n (lv' := [(1, .int 0), (0, .ref (am 0))]) hx hb dX2_meanLeft_1 rfl hl (by decide) rfl (fun ls hl => ?_)
  refine lv_iconst (v := 0) hx hb dX2_meanLeft_2 (by decide) ?_
  refine lv_istore_n (lv' := [(2, .int 0), (1, .int 0), (0, .ref (am 0))]) hx hb dX2_meanLeft_3 rfl hl (by decide) rfl (fun ls hl => ?_)
  refine lv_iconst (v := 0) hx hb dX2_meanLeft_4 (by decide) ?_
  refine lv_istore_n (lv' := [(3, .int 0), (2, .int 0), (1, .int 0), (0, .ref (am 0))]) hx hb dX2_meanLeft_5 rfl hl (by decide) rfl (fun ls hl => ?_)
  have loop_6 : ∀ (n9 : Nat) (w : Nat) (f8 : Nat → va_E) (H : Heap) (locs : List Loc) (ls : Array Slot), (w ≤ 8) → (9 ≤ w + n9) → zM g am f σ bs th L f8 → zW g A s L f8 H locs → lv_has ls 4 [(0, .ref (am 0)), (1, .int (zMls σ w)), (2, .int (zMlc σ w)), (3, .int (nI w))] → W p l e { frames := 2, cells := 0, slots := 0, locals := 43 } s m args below meth c H locs 0 0 (vx_MQ below (zQ g A (fun r L1 f1 => L = L1 ∧ ∃ (b9 : UInt64) (bs1 : Nat → Int64), some (.double b9) = r ∧ zM g am f (o_meanLeft σ).2.2 bs1 (o_meanLeft σ).1 L f1 ∧ ((o_meanLeft σ).1 = 0 → b9 = (o_meanLeft σ).2.1))) (zXC g A zNo) args s 0 0 A) (F0 m 6 ls []) := by
    intro n9
    induction n9 with
    | zero => intro w f8 H locs ls hk hn hm hw hl; exact absurd hn (by omega)
    | succ n9 ih_6 =>
      intro w f8 H locs ls hk hn hm hw hl
      refine lv_iload_n hx hb dX2_meanLeft_6 rfl (lv_at hl 3 rfl) ?_
      refine lv_bipush (v := 8) hx hb dX2_meanLeft_7 (by decide) ?_
      refine lv_icmp_ge (tgt := 62) hx hb dX2_meanLeft_9 (by decide) (fun c_1 => ?_) (fun c_1 => ?_)
      · have hke : w = 8 := zn_ge (n := 8) c_1 hk (by decide)
        subst hke
        refine lv_aload_n hx hb dX2_meanLeft_62 rfl (lv_at hl 0 rfl) ?_
        refine lv_iload_n hx hb dX2_meanLeft_63 rfl (lv_at hl 2 rfl) ?_
        refine lv_if_ne (tgt := 71) hx hb dX2_meanLeft_64 (by decide) (fun c_2 => ?_) (fun c_2 => ?_)
        · refine lv_iconst (v := 0) hx hb dX2_meanLeft_71 (by decide) ?_
          refine zm_putT hx hb hts hi_X2_meanLeft hown hw hm hf_X2_meanLeft_48 dX2_meanLeft_72 (fun f_3 H locs hm hw => ?_)
          refine lv_aload_n hx hb dX2_meanLeft_75 rfl (lv_at hl 0 rfl) ?_
          refine zm_get (v := .int 0) hx hb hts hi_X2_meanLeft hown hw hm 12 (by decide) hf_X2_meanLeft_48 rfl dX2_meanLeft_76 ?_
          refine lv_if_le (tgt := 86) hx hb dX2_meanLeft_79 (by decide) (fun c_4 => ?_) (fun c_4 => absurd (by decide) c_4)
          refine lv_iload_n hx hb dX2_meanLeft_86 rfl (lv_at hl 1 rfl) ?_
          refine lv_i2d hx hb dX2_meanLeft_87 ?_
          refine lv_iload_n hx hb dX2_meanLeft_88 rfl (lv_at hl 2 rfl) ?_
          refine lv_i2d hx hb dX2_meanLeft_89 ?_
          refine lv_ddiv hx hb dX2_meanLeft_90 (zMl_nan hI (by assumption)) ?_
          have ho : (o_meanLeft σ) = (0, (FP.ddiv (FP.i2d (zMls σ 8)) (FP.i2d (zMlc σ 8))), σ) := by unfold o_meanLeft; first | exact if_neg (show ¬ (zMlc σ 8 = 0) from by assumption)
          exact z_dret hx hb hr hlocks hw (Nat.le_of_ble_eq_true rfl) (Nat.le_of_ble_eq_true rfl) dX2_meanLeft_91 ⟨rfl, _, _, rfl, by rw [ho]; exact hm, by rw [ho]; exact fun _ => rfl⟩
        · refine lv_iconst (v := 1) hx hb dX2_meanLeft_67 (by decide) ?_
          refine lv_goto (tgt := 72) hx hb dX2_meanLeft_68 (by decide) ?_
          refine zm_putT hx hb hts hi_X2_meanLeft hown hw hm hf_X2_meanLeft_48 dX2_meanLeft_72 (fun f_5 H locs hm hw => ?_)
          refine lv_aload_n hx hb dX2_meanLeft_75 rfl (lv_at hl 0 rfl) ?_
          refine zm_get (v := .int 1) hx hb hts hi_X2_meanLeft hown hw hm 12 (by decide) hf_X2_meanLeft_48 rfl dX2_meanLeft_76 ?_
          refine lv_if_le (tgt := 86) hx hb dX2_meanLeft_79 (by decide) (fun c_6 => absurd c_6 (by decide)) (fun c_6 => ?_)
          refine lv_dconst0 hx hb dX2_meanLeft_82 ?_
          refine lv_goto (tgt := 91) hx hb dX2_meanLeft_83 (by decide) ?_
          have ho : (o_meanLeft σ) = (1, 0, σ) := by unfold o_meanLeft; first | exact if_pos (show (zMlc σ 8 = 0) from by assumption)
          exact z_dret hx hb hr hlocks hw (Nat.le_of_ble_eq_true rfl) (Nat.le_of_ble_eq_true rfl) dX2_meanLeft_91 ⟨rfl, _, _, rfl, by rw [ho]; exact hm, by rw [ho]; exact fun h => absurd (show (1 : Int32) = 0 from h) (by decide)⟩
      · have hlt : w < 8 := zn_lt (n := 8) c_1 hk (by decide)
        refine lv_iload_n hx hb dX2_meanLeft_12 rfl (lv_at hl 1 rfl) ?_
        refine lv_aload_n hx hb dX2_meanLeft_13 rfl (lv_at hl 0 rfl) ?_
        refine lv_iload_n hx hb dX2_meanLeft_14 rfl (lv_at hl 3 rfl) ?_
        refine z_callV (As := [.int (nI w)]) (rest := [.int (zMls σ w)]) ⟨hx, hb, hml, hown, hts⟩ hw hX (hm.1.1 0 (by decide)) rfl (c_X2_is l g am L f8 σ bs th (nI w) hm.rf) (cwV 1 hts gX2_meanLeft_X2_is rfl rfl rfl (by decide +kernel) ⟨(Nat.le_of_ble_eq_true rfl), (Nat.le_of_ble_eq_true rfl)⟩) rfl hl.1 rfl (Nat.le_of_ble_eq_true rfl) dX2_meanLeft_15 ⟨(Nat.le_of_ble_eq_true rfl), (Nat.le_of_ble_eq_true rfl)⟩ (fun _ _ _ _ _ _ _ hp => False.elim hp) (fun r9 L9 f9 H locs hp hw => ?_)
        obtain ⟨rfl, rfl, rfl⟩ := hp
        refine W.eq (g2 := F0 m 18 ls [.int (zb (zis σ (nI w))), .int (zMls σ w)]) rfl ?_
        refine zr_beq hx hb dX2_meanLeft_18 (tgt := 37) (by decide) (fun c_7 => ?_) (fun c_7 => ?_)
        · refine lv_iconst (v := 0) hx hb dX2_meanLeft_37 (by decide) ?_
          refine lv_iadd hx hb dX2_meanLeft_38 ?_
          refine lv_istore_n (lv' := [(1, .int ((zMls σ w) + 0)), (0, .ref (am 0)), (2, .int (zMlc σ w)), (3, .int (nI w))]) hx hb dX2_meanLeft_39 rfl hl (by decide) rfl (fun ls hl => ?_)
          refine lv_iload_n hx hb dX2_meanLeft_40 rfl (lv_at hl 2 rfl) ?_
          refine lv_aload_n hx hb dX2_meanLeft_41 rfl (lv_at hl 1 rfl) ?_
          refine lv_iload_n hx hb dX2_meanLeft_42 rfl (lv_at hl 3 rfl) ?_
          refine z_callV (As := [.int (nI w)]) (rest := [.int (zMlc σ w)]) ⟨hx, hb, hml, hown, hts⟩ hw hX (hm.1.1 0 (by decide)) rfl (c_X2_is l g am L f8 σ bs th (nI w) hm.rf) (cwV 1 hts gX2_meanLeft_X2_is rfl rfl rfl (by decide +kernel) ⟨(Nat.le_of_ble_eq_true rfl), (Nat.le_of_ble_eq_true rfl)⟩) rfl hl.1 rfl (Nat.le_of_ble_eq_true rfl) dX2_meanLeft_43 ⟨(Nat.le_of_ble_eq_true rfl), (Nat.le_of_ble_eq_true rfl)⟩ (fun _ _ _ _ _ _ _ hp => False.elim hp) (fun r9 L9 f9 H locs hp hw => ?_)
          obtain ⟨rfl, rfl, rfl⟩ := hp
          refine W.eq (g2 := F0 m 46 ls [.int (zb (zis σ (nI w))), .int (zMlc σ w)]) rfl ?_
          refine zr_beq hx hb dX2_meanLeft_46 (tgt := 53) (by decide) (fun c_8 => ?_) (fun c_8 => absurd c_8 c_7)
          refine lv_iconst (v := 0) hx hb dX2_meanLeft_53 (by decide) ?_
          refine lv_iadd hx hb dX2_meanLeft_54 ?_
          refine lv_istore_n (lv' := [(2, .int ((zMlc σ w) + 0)), (1, .int ((zMls σ w) + 0)), (0, .ref (am 0)), (3, .int (nI w))]) hx hb dX2_meanLeft_55 rfl hl (by decide) rfl (fun ls hl => ?_)
          refine lv_iinc (v := ((nI w) + 1)) (lv' := [(3, .int ((nI w) + 1)), (2, .int ((zMlc σ w) + 0)), (1, .int ((zMls σ w) + 0)), (0, .ref (am 0))]) hx hb dX2_meanLeft_56 hl (k := 3) rfl rfl (by decide) rfl (fun ls hl => ?_)
          refine lv_goto (tgt := 6) hx hb dX2_meanLeft_59 (by decide) ?_
          refine ih_6 (w + 1) _ _ _ _ (by omega) (by omega) hm hw ?_
          have hl := lv_sub hl (l' := [(0, .ref (am 0)), (1, .int ((zMls σ w) + 0)), (2, .int ((zMlc σ w) + 0)), (3, .int ((nI w) + 1))]) [3, 2, 1, 0] rfl
          rw [show zMls σ (w + 1) = zMls σ w + 0 from congrArg (zMls σ w + ·) (if_neg c_7), show zMlc σ (w + 1) = zMlc σ w + 0 from congrArg (zMlc σ w + ·) (if_neg c_7), ← nI_1 w]
          exact hl
        · refine lv_aload_n hx hb dX2_meanLeft_21 rfl (lv_at hl 0 rfl) ?_
          refine zm_get (v := .ref (am 7)) hx hb hts hi_X2_meanLeft hown hw hm 6 (by decide) hf_X2_meanLeft_29 rfl dX2_meanLeft_22 ?_
          refine lv_iload_n hx hb dX2_meanLeft_25 rfl (lv_at hl 3 rfl) ?_
          refine zm_ldEN hx hb hw hm (vp_in_nI hlt (by decide)) dX2_meanLeft_26 ?_
          refine lv_aload_n hx hb dX2_meanLeft_27 rfl (lv_at hl 0 rfl) ?_
          refine zm_get (v := .ref (am 6)) hx hb hts hi_X2_meanLeft hown hw hm 5 (by decide) hf_X2_meanLeft_26 rfl dX2_meanLeft_28 ?_
          refine lv_iload_n hx hb dX2_meanLeft_31 rfl (lv_at hl 3 rfl) ?_
          refine zm_ldPL hx hb hw hm (vp_in_nI hlt (by decide)) dX2_meanLeft_32 ?_
          refine lv_isub hx hb dX2_meanLeft_33 ?_
          refine lv_goto (tgt := 38) hx hb dX2_meanLeft_34 (by decide) ?_
          refine lv_iadd hx hb dX2_meanLeft_38 ?_
          refine lv_istore_n (lv' := [(1, .int ((zMls σ w) + ((zEN σ (Int32.toNatClampNeg (nI w))) - (zPL σ (Int32.toNatClampNeg (nI w)))))), (0, .ref (am 0)), (2, .int (zMlc σ w)), (3, .int (nI w))]) hx hb dX2_meanLeft_39 rfl hl (by decide) rfl (fun ls hl => ?_)
          refine lv_iload_n hx hb dX2_meanLeft_40 rfl (lv_at hl 2 rfl) ?_
          refine lv_aload_n hx hb dX2_meanLeft_41 rfl (lv_at hl 1 rfl) ?_
          refine lv_iload_n hx hb dX2_meanLeft_42 rfl (lv_at hl 3 rfl) ?_
          refine z_callV (As := [.int (nI w)]) (rest := [.int (zMlc σ w)]) ⟨hx, hb, hml, hown, hts⟩ hw hX (hm.1.1 0 (by decide)) rfl (c_X2_is l g am L f8 σ bs th (nI w) hm.rf) (cwV 1 hts gX2_meanLeft_X2_is rfl rfl rfl (by decide +kernel) ⟨(Nat.le_of_ble_eq_true rfl), (Nat.le_of_ble_eq_true rfl)⟩) rfl hl.1 rfl (Nat.le_of_ble_eq_true rfl) dX2_meanLeft_43 ⟨(Nat.le_of_ble_eq_true rfl), (Nat.le_of_ble_eq_true rfl)⟩ (fun _ _ _ _ _ _ _ hp => False.elim hp) (fun r9 L9 f9 H locs hp hw => ?_)
          obtain ⟨rfl, rfl, rfl⟩ := hp
          refine W.eq (g2 := F0 m 46 ls [.int (zb (zis σ (nI w))), .int (zMlc σ w)]) rfl ?_
          refine zr_beq hx hb dX2_meanLeft_46 (tgt := 53) (by decide) (fun c_9 => absurd c_7 c_9) (fun c_9 => ?_)
          refine lv_iconst (v := 1) hx hb dX2_meanLeft_49 (by decide) ?_
          refine lv_goto (tgt := 54) hx hb dX2_meanLeft_50 (by decide) ?_
          refine lv_iadd hx hb dX2_meanLeft_54 ?_
          refine lv_istore_n (lv' := [(2, .int ((zMlc σ w) + 1)), (1, .int ((zMls σ w) + ((zEN σ (Int32.toNatClampNeg (nI w))) - (zPL σ (Int32.toNatClampNeg (nI w)))))), (0, .ref (am 0)), (3, .int (nI w))]) hx hb dX2_meanLeft_55 rfl hl (by decide) rfl (fun ls hl => ?_)
          refine lv_iinc (v := ((nI w) + 1)) (lv' := [(3, .int ((nI w) + 1)), (2, .int ((zMlc σ w) + 1)), (1, .int ((zMls σ w) + ((zEN σ (Int32.toNatClampNeg (nI w))) - (zPL σ (Int32.toNatClampNeg (nI w)))))), (0, .ref (am 0))]) hx hb dX2_meanLeft_56 hl (k := 3) rfl rfl (by decide) rfl (fun ls hl => ?_)
          refine lv_goto (tgt := 6) hx hb dX2_meanLeft_59 (by decide) ?_
          refine ih_6 (w + 1) _ _ _ _ (by omega) (by omega) hm hw ?_
          have hl := lv_sub hl (l' := [(0, .ref (am 0)), (1, .int ((zMls σ w) + ((zEN σ (Int32.toNatClampNeg (nI w))) - (zPL σ (Int32.toNatClampNeg (nI w)))))), (2, .int ((zMlc σ w) + 1)), (3, .int ((nI w) + 1))]) [3, 2, 1, 0] rfl
          rw [show zMls σ (w + 1) = zMls σ w + (zEN σ (Int32.toNatClampNeg (nI w)) - zPL σ (Int32.toNatClampNeg (nI w))) from congrArg (zMls σ w + ·) (if_pos c_7), show zMlc σ (w + 1) = zMlc σ w + 1 from congrArg (zMlc σ w + ·) (if_pos c_7), ← nI_1 w]
          exact hl
  refine loop_6 (9) 0 _ _ _ _ (by decide) (by decide) hm hw ?_
  have hl := lv_sub hl (l' := [(0, .ref (am 0)), (1, .int 0), (2, .int 0), (3, .int 0)]) [3, 2, 1, 0] rfl
  exact hl

def o_checksum (σ : ZS) : Int32 × Int64 × ZS := (0, zCkrs σ 2, σ)

theorem hi_X2_checksum : ∀ w ∈ wsX20, w ∈ wsX2_checksum := by decide +kernel
theorem hf_X2_checksum_7 : Cond.fieldLink RX2 7 (TX2 0).1 (TX2 0).2.1 (TX2 0).2.2.1 ∈ wsX2_checksum := by decide +kernel
theorem hf_X2_checksum_13 : Cond.fieldLink RX2 13 (TX2 1).1 (TX2 1).2.1 (TX2 1).2.2.1 ∈ wsX2_checksum := by decide +kernel
theorem hf_X2_checksum_23 : Cond.fieldLink RX2 23 (TX2 4).1 (TX2 4).2.1 (TX2 4).2.2.1 ∈ wsX2_checksum := by decide +kernel
theorem hf_X2_checksum_26 : Cond.fieldLink RX2 26 (TX2 5).1 (TX2 5).2.1 (TX2 5).2.2.1 ∈ wsX2_checksum := by decide +kernel
theorem hf_X2_checksum_29 : Cond.fieldLink RX2 29 (TX2 6).1 (TX2 6).2.1 (TX2 6).2.2.1 ∈ wsX2_checksum := by decide +kernel
theorem hf_X2_checksum_39 : Cond.fieldLink RX2 39 (TX2 9).1 (TX2 9).2.1 (TX2 9).2.2.1 ∈ wsX2_checksum := by decide +kernel
theorem hf_X2_checksum_42 : Cond.fieldLink RX2 42 (TX2 10).1 (TX2 10).2.1 (TX2 10).2.2.1 ∈ wsX2_checksum := by decide +kernel
theorem hf_X2_checksum_48 : Cond.fieldLink RX2 48 (TX2 12).1 (TX2 12).2.1 (TX2 12).2.2.1 ∈ wsX2_checksum := by decide +kernel
set_option maxRecDepth 100000 in
set_option maxHeartbeats 4000000 in
theorem c_X2_checksum (l : Launch) (g : zG) (am : Nat → Nat) (L : List Nat) (f : Nat → va_E) (σ : ZS) (bs : Nat → Int64) (th : Int32) (hm : zM g am f σ bs th L f) {ln : Nat → Nat} {kd : Nat → Int32} (hI : zI σ ln kd) : zC l yX2_checksum wsX2_checksum { frames := 1, cells := 0, slots := 0, locals := 22 } 0 0 g [.ref (am 0)] L f (fun r L1 f1 => L = L1 ∧ ∃ (b9 : Int64) (bs1 : Nat → Int64), some (.long b9) = r ∧ zM g am f (o_checksum σ).2.2 bs1 (o_checksum σ).1 L f1 ∧ ((o_checksum σ).1 = 0 → b9 = (o_checksum σ).2.1)) zNo := by
  refine z_ofW (cc := cX2_checksum) (maxL := 5) (ret := (some .long)) (by decide) rfl (Nat.le_of_ble_eq_true rfl) ?_
  intro p e s m args below meth c ls A hx hb hr hts hown hlocks hml htab hin hw hX hl
  have hl : lv_has ls 5 [(0, .ref (am 0))] := hl
  have hown : s.vm.findClass RX2 = some m.cls := hown
  refine lv_aload_n hx hb dX2_checksum_0 rfl (lv_at hl 0 rfl) ?_
  refine lv_iconst (v := 0) hx hb dX2_checksum_1 (by decide) ?_
  refine zm_putT hx hb hts hi_X2_checksum hown hw hm hf_X2_checksum_48 dX2_checksum_2 (fun f_1 H locs hm hw => ?_)
  refine lv_ldc2 (v := 7) hx hb hown (hts (.constantLong RX2 93 7) (by decide +kernel)) dX2_checksum_5 ?_
  refine lv_lstore_n (lv' := [(1, .long 7), (0, .ref (am 0))]) hx hb dX2_checksum_8 rfl hl (by decide) rfl (fun ls hl => ?_)
  refine lv_iconst (v := 0) hx hb dX2_checksum_9 (by decide) ?_
  refine lv_istore_n (lv' := [(3, .int 0), (1, .long 7), (0, .ref (am 0))]) hx hb dX2_checksum_10 rfl hl (by decide) rfl (fun ls hl => ?_)
  have loop_11 : ∀ (n9 : Nat) (w : Nat) (f8 : Nat → va_E) (H : Heap) (locs : List Loc) (ls : Array Slot), (w ≤ 8) → (9 ≤ w + n9) → zM g am f σ bs 0 L f8 → zW g A s L f8 H locs → lv_has ls 5 [(0, .ref (am 0)), (1, .long (zCks σ w)), (3, .int (nI w))] → W p l e { frames := 1, cells := 0, slots := 0, locals := 22 } s m args below meth c H locs 0 0 (vx_MQ below (zQ g A (fun r L1 f1 => L = L1 ∧ ∃ (b9 : Int64) (bs1 : Nat → Int64), some (.long b9) = r ∧ zM g am f (o_checksum σ).2.2 bs1 (o_checksum σ).1 L f1 ∧ ((o_checksum σ).1 = 0 → b9 = (o_checksum σ).2.1))) (zXC g A zNo) args s 0 0 A) (F0 m 11 ls []) := by
    intro n9
    induction n9 with
    | zero => intro w f8 H locs ls hk hn hm hw hl; exact absurd hn (by omega)
    | succ n9 ih_11 =>
      intro w f8 H locs ls hk hn hm hw hl
      refine lv_iload_n hx hb dX2_checksum_11 rfl (lv_at hl 2 rfl) ?_
      refine lv_bipush (v := 8) hx hb dX2_checksum_12 (by decide) ?_
      refine lv_icmp_ge (tgt := 136) hx hb dX2_checksum_14 (by decide) (fun c_2 => ?_) (fun c_2 => ?_)
      · have hke : w = 8 := zn_ge (n := 8) c_2 hk (by decide)
        subst hke
        refine lv_iconst (v := 0) hx hb dX2_checksum_136 (by decide) ?_
        refine lv_istore_n (lv' := [(3, .int 0), (0, .ref (am 0)), (1, .long (zCks σ 8))]) hx hb dX2_checksum_137 rfl hl (by decide) rfl (fun ls hl => ?_)
        have loop_138 : ∀ (n9 : Nat) (r : Nat) (f8 : Nat → va_E) (H : Heap) (locs : List Loc) (ls : Array Slot), (r ≤ 2) → (3 ≤ r + n9) → zM g am f σ bs 0 L f8 → zW g A s L f8 H locs → lv_has ls 5 [(0, .ref (am 0)), (1, .long (zCkrs σ r)), (3, .int (nI r))] → W p l e { frames := 1, cells := 0, slots := 0, locals := 22 } s m args below meth c H locs 0 0 (vx_MQ below (zQ g A (fun r L1 f1 => L = L1 ∧ ∃ (b9 : Int64) (bs1 : Nat → Int64), some (.long b9) = r ∧ zM g am f (o_checksum σ).2.2 bs1 (o_checksum σ).1 L f1 ∧ ((o_checksum σ).1 = 0 → b9 = (o_checksum σ).2.1))) (zXC g A zNo) args s 0 0 A) (F0 m 138 ls []) := by
          intro n9
          induction n9 with
          | zero => intro r f8 H locs ls hkr hnr hm hw hl; exact absurd hnr (by omega)
          | succ n9 ih_138 =>
            intro r f8 H locs ls hkr hnr hm hw hl
            refine lv_iload_n hx hb dX2_checksum_138 rfl (lv_at hl 2 rfl) ?_
            refine lv_iconst (v := 2) hx hb dX2_checksum_139 (by decide) ?_
            refine lv_icmp_ge (tgt := 193) hx hb dX2_checksum_140 (by decide) (fun c_3 => ?_) (fun c_3 => ?_)
            · have hker : r = 2 := zn_ge (n := 2) c_3 hkr (by decide)
              subst hker
              refine lv_lload_n hx hb dX2_checksum_193 rfl (lv_at hl 1 rfl) ?_
              have ho : (o_checksum σ) = (0, (zCkrs σ 2), σ) := rfl
              exact z_lret hx hb hr hlocks hw (Nat.le_of_ble_eq_true rfl) (Nat.le_of_ble_eq_true rfl) dX2_checksum_194 ⟨rfl, _, _, rfl, by rw [ho]; exact hm, by rw [ho]; exact fun _ => rfl⟩
            · have hltr : r < 2 := zn_lt (n := 2) c_3 hkr (by decide)
              obtain ⟨hrn, hr64, hrx⟩ := zRow_n hI (show (Int32.toNatClampNeg (nI r)) < 2 by rw [nI_clamp (by omega)]; exact hltr)
              refine lv_iconst (v := 0) hx hb dX2_checksum_143 (by decide) ?_
              refine lv_istore (lv' := [(4, .int 0), (0, .ref (am 0)), (1, .long (zCkrs σ r)), (3, .int (nI r))]) hx hb dX2_checksum_144 hl (by decide) rfl (fun ls hl => ?_)
              have loop_146 : ∀ (n9 : Nat) (k : Nat) (f8 : Nat → va_E) (H : Heap) (locs : List Loc) (ls : Array Slot), (k ≤ (Int32.toNatClampNeg (zRL σ (Int32.toNatClampNeg (nI r))))) → ((Int32.toNatClampNeg (zRL σ (Int32.toNatClampNeg (nI r)))) + 1 ≤ k + n9) → zM g am f σ bs 0 L f8 → zW g A s L f8 H locs → lv_has ls 5 [(0, .ref (am 0)), (1, .long (zCkr σ (Int32.toNatClampNeg (nI r)) (zCkrs σ r) k)), (3, .int (nI r)), (4, .int (nI k))] → W p l e { frames := 1, cells := 0, slots := 0, locals := 22 } s m args below meth c H locs 0 0 (vx_MQ below (zQ g A (fun r L1 f1 => L = L1 ∧ ∃ (b9 : Int64) (bs1 : Nat → Int64), some (.long b9) = r ∧ zM g am f (o_checksum σ).2.2 bs1 (o_checksum σ).1 L f1 ∧ ((o_checksum σ).1 = 0 → b9 = (o_checksum σ).2.1))) (zXC g A zNo) args s 0 0 A) (F0 m 146 ls []) := by
                intro n9
                induction n9 with
                | zero => intro k f8 H locs ls hk4 hn4 hm hw hl; exact absurd hn4 (by omega)
                | succ n9 ih_146 =>
                  intro k f8 H locs ls hk4 hn4 hm hw hl
                  refine lv_iload hx hb dX2_checksum_146 (lv_at hl 3 rfl) ?_
                  refine lv_aload_n hx hb dX2_checksum_148 rfl (lv_at hl 0 rfl) ?_
                  refine zm_get (v := .ref (am 11)) hx hb hts hi_X2_checksum hown hw hm 10 (by decide) hf_X2_checksum_42 rfl dX2_checksum_149 ?_
                  refine lv_iload_n hx hb dX2_checksum_152 rfl (lv_at hl 2 rfl) ?_
                  refine zm_ldRL hx hb hw hm (vp_in_nI hltr (by decide)) dX2_checksum_153 ?_
                  refine lv_icmp_ge (tgt := 187) hx hb dX2_checksum_154 (by decide) (fun c_4 => ?_) (fun c_4 => ?_)
                  · have hke4 : k = (Int32.toNatClampNeg (zRL σ (Int32.toNatClampNeg (nI r)))) := zn_ge (by rw [← hrn]; exact c_4) hk4 (by omega)
                    refine lv_iinc (v := ((nI r) + 1)) (lv' := [(3, .int ((nI r) + 1)), (0, .ref (am 0)), (1, .long (zCkr σ (Int32.toNatClampNeg (nI r)) (zCkrs σ r) k)), (4, .int (nI k))]) hx hb dX2_checksum_187 hl (k := 2) rfl rfl (by decide) rfl (fun ls hl => ?_)
                    refine lv_goto (tgt := 138) hx hb dX2_checksum_190 (by decide) ?_
                    refine ih_138 (r + 1) _ _ _ _ (by omega) (by omega) hm hw ?_
                    have hl := lv_sub hl (l' := [(0, .ref (am 0)), (1, .long (zCkr σ (Int32.toNatClampNeg (nI r)) (zCkrs σ r) k)), (3, .int ((nI r) + 1))]) [1, 2, 0] rfl
                    rw [show zCkrs σ (r + 1) = zCkr σ (Int32.toNatClampNeg (nI r)) (zCkrs σ r) k from by rw [hke4]; rfl, ← nI_1 r]
                    exact hl
                  · have hlt4 : k < (Int32.toNatClampNeg (zRL σ (Int32.toNatClampNeg (nI r)))) := zn_lt (by rw [← hrn]; exact c_4) hk4 (by omega)
                    refine lv_ldc2 (v := 31) hx hb hown (hts (.constantLong RX2 95 31) (by decide +kernel)) dX2_checksum_157 ?_
                    refine lv_lload_n hx hb dX2_checksum_160 rfl (lv_at hl 1 rfl) ?_
                    refine lv_lmul hx hb dX2_checksum_161 ?_
                    refine lv_aload_n hx hb dX2_checksum_162 rfl (lv_at hl 0 rfl) ?_
                    refine zm_get (v := .ref (am 1)) hx hb hts hi_X2_checksum hown hw hm 0 (by decide) hf_X2_checksum_7 rfl dX2_checksum_163 ?_
                    refine lv_bipush (v := 64) hx hb dX2_checksum_166 (by decide) ?_
                    refine lv_aload_n hx hb dX2_checksum_168 rfl (lv_at hl 0 rfl) ?_
                    refine zm_get (v := .ref (am 10)) hx hb hts hi_X2_checksum hown hw hm 9 (by decide) hf_X2_checksum_39 rfl dX2_checksum_169 ?_
                    refine lv_iload_n hx hb dX2_checksum_172 rfl (lv_at hl 2 rfl) ?_
                    refine zm_ldRS hx hb hw hm (vp_in_nI hltr (by decide)) dX2_checksum_173 ?_
                    refine lv_imul hx hb dX2_checksum_174 ?_
                    refine lv_iload hx hb dX2_checksum_175 (lv_at hl 3 rfl) ?_
                    refine lv_iadd hx hb dX2_checksum_177 ?_
                    refine zm_ldST hx hb hw hm (hrx k hlt4) dX2_checksum_178 ?_
                    refine lv_ladd hx hb dX2_checksum_179 ?_
                    refine lv_lstore_n (lv' := [(1, .long ((31 * (zCkr σ (Int32.toNatClampNeg (nI r)) (zCkrs σ r) k)) + (zST σ (Int32.toNatClampNeg ((64 * (zRS σ (Int32.toNatClampNeg (nI r)))) + (nI k)))))), (0, .ref (am 0)), (3, .int (nI r)), (4, .int (nI k))]) hx hb dX2_checksum_180 rfl hl (by decide) rfl (fun ls hl => ?_)
                    refine lv_iinc (v := ((nI k) + 1)) (lv' := [(4, .int ((nI k) + 1)), (1, .long ((31 * (zCkr σ (Int32.toNatClampNeg (nI r)) (zCkrs σ r) k)) + (zST σ (Int32.toNatClampNeg ((64 * (zRS σ (Int32.toNatClampNeg (nI r)))) + (nI k)))))), (0, .ref (am 0)), (3, .int (nI r))]) hx hb dX2_checksum_181 hl (k := 3) rfl rfl (by decide) rfl (fun ls hl => ?_)
                    refine lv_goto (tgt := 146) hx hb dX2_checksum_184 (by decide) ?_
                    refine ih_146 (k + 1) _ _ _ _ (by omega) (by omega) hm hw ?_
                    have hl := lv_sub hl (l' := [(0, .ref (am 0)), (1, .long ((31 * (zCkr σ (Int32.toNatClampNeg (nI r)) (zCkrs σ r) k)) + (zST σ (Int32.toNatClampNeg ((64 * (zRS σ (Int32.toNatClampNeg (nI r)))) + (nI k)))))), (3, .int (nI r)), (4, .int ((nI k) + 1))]) [2, 1, 3, 0] rfl
                    rw [← nI_1 k]
                    exact hl
              refine loop_146 ((Int32.toNatClampNeg (zRL σ (Int32.toNatClampNeg (nI r)))) + 1) 0 _ _ _ _ (Nat.zero_le _) (by omega) hm hw ?_
              have hl := lv_sub hl (l' := [(0, .ref (am 0)), (1, .long (zCkrs σ r)), (3, .int (nI r)), (4, .int 0)]) [1, 2, 3, 0] rfl
              exact hl
        refine loop_138 (3) 0 _ _ _ _ (by decide) (by decide) hm hw ?_
        have hl := lv_sub hl (l' := [(0, .ref (am 0)), (1, .long (zCks σ 8)), (3, .int 0)]) [1, 2, 0] rfl
        exact hl
      · have hlt : w < 8 := zn_lt (n := 8) c_2 hk (by decide)
        refine lv_ldc2 (v := 31) hx hb hown (hts (.constantLong RX2 95 31) (by decide +kernel)) dX2_checksum_17 ?_
        refine lv_lload_n hx hb dX2_checksum_20 rfl (lv_at hl 1 rfl) ?_
        refine lv_lmul hx hb dX2_checksum_21 ?_
        refine lv_aload_n hx hb dX2_checksum_22 rfl (lv_at hl 0 rfl) ?_
        refine zm_get (v := .ref (am 2)) hx hb hts hi_X2_checksum hown hw hm 1 (by decide) hf_X2_checksum_13 rfl dX2_checksum_23 ?_
        refine lv_iload_n hx hb dX2_checksum_26 rfl (lv_at hl 2 rfl) ?_
        refine zm_ldK hx hb hw hm (vp_in_nI hlt (by decide)) dX2_checksum_27 ?_
        refine lv_if_ne (tgt := 36) hx hb dX2_checksum_28 (by decide) (fun c_5 => ?_) (fun c_5 => ?_)
        · refine lv_aload_n hx hb dX2_checksum_36 rfl (lv_at hl 0 rfl) ?_
          refine zm_get (v := .ref (am 2)) hx hb hts hi_X2_checksum hown hw hm 1 (by decide) hf_X2_checksum_13 rfl dX2_checksum_37 ?_
          refine lv_iload_n hx hb dX2_checksum_40 rfl (lv_at hl 2 rfl) ?_
          refine zm_ldK hx hb hw hm (vp_in_nI hlt (by decide)) dX2_checksum_41 ?_
          refine lv_i2l (v := (zK σ (Int32.toNatClampNeg (nI w))).toInt64) hx hb dX2_checksum_42 rfl ?_
          refine lv_ladd hx hb dX2_checksum_43 ?_
          refine lv_lstore_n (lv' := [(1, .long ((31 * (zCks σ w)) + (zK σ (Int32.toNatClampNeg (nI w))).toInt64)), (0, .ref (am 0)), (3, .int (nI w))]) hx hb dX2_checksum_44 rfl hl (by decide) rfl (fun ls hl => ?_)
          refine lv_aload_n hx hb dX2_checksum_45 rfl (lv_at hl 1 rfl) ?_
          refine zm_get (v := .ref (am 2)) hx hb hts hi_X2_checksum hown hw hm 1 (by decide) hf_X2_checksum_13 rfl dX2_checksum_46 ?_
          refine lv_iload_n hx hb dX2_checksum_49 rfl (lv_at hl 2 rfl) ?_
          refine zm_ldK hx hb hw hm (vp_in_nI hlt (by decide)) dX2_checksum_50 ?_
          refine lv_if_eq (tgt := 130) hx hb dX2_checksum_51 (by decide) (fun c_6 => absurd c_6 c_5) (fun c_6 => ?_)
          refine lv_ldc2 (v := 31) hx hb hown (hts (.constantLong RX2 95 31) (by decide +kernel)) dX2_checksum_54 ?_
          refine lv_lload_n hx hb dX2_checksum_57 rfl (lv_at hl 0 rfl) ?_
          refine lv_lmul hx hb dX2_checksum_58 ?_
          refine lv_aload_n hx hb dX2_checksum_59 rfl (lv_at hl 1 rfl) ?_
          refine zm_get (v := .ref (am 6)) hx hb hts hi_X2_checksum hown hw hm 5 (by decide) hf_X2_checksum_26 rfl dX2_checksum_60 ?_
          refine lv_iload_n hx hb dX2_checksum_63 rfl (lv_at hl 2 rfl) ?_
          refine zm_ldPL hx hb hw hm (vp_in_nI hlt (by decide)) dX2_checksum_64 ?_
          refine lv_i2l (v := (zPL σ (Int32.toNatClampNeg (nI w))).toInt64) hx hb dX2_checksum_65 rfl ?_
          refine lv_ladd hx hb dX2_checksum_66 ?_
          refine lv_lstore_n (lv' := [(1, .long ((31 * ((31 * (zCks σ w)) + (zK σ (Int32.toNatClampNeg (nI w))).toInt64)) + (zPL σ (Int32.toNatClampNeg (nI w))).toInt64)), (0, .ref (am 0)), (3, .int (nI w))]) hx hb dX2_checksum_67 rfl hl (by decide) rfl (fun ls hl => ?_)
          refine lv_ldc2 (v := 31) hx hb hown (hts (.constantLong RX2 95 31) (by decide +kernel)) dX2_checksum_68 ?_
          refine lv_lload_n hx hb dX2_checksum_71 rfl (lv_at hl 0 rfl) ?_
          refine lv_lmul hx hb dX2_checksum_72 ?_
          refine lv_aload_n hx hb dX2_checksum_73 rfl (lv_at hl 1 rfl) ?_
          refine zm_get (v := .ref (am 7)) hx hb hts hi_X2_checksum hown hw hm 6 (by decide) hf_X2_checksum_29 rfl dX2_checksum_74 ?_
          refine lv_iload_n hx hb dX2_checksum_77 rfl (lv_at hl 2 rfl) ?_
          refine zm_ldEN hx hb hw hm (vp_in_nI hlt (by decide)) dX2_checksum_78 ?_
          refine lv_i2l (v := (zEN σ (Int32.toNatClampNeg (nI w))).toInt64) hx hb dX2_checksum_79 rfl ?_
          refine lv_ladd hx hb dX2_checksum_80 ?_
          refine lv_lstore_n (lv' := [(1, .long ((31 * ((31 * ((31 * (zCks σ w)) + (zK σ (Int32.toNatClampNeg (nI w))).toInt64)) + (zPL σ (Int32.toNatClampNeg (nI w))).toInt64)) + (zEN σ (Int32.toNatClampNeg (nI w))).toInt64)), (0, .ref (am 0)), (3, .int (nI w))]) hx hb dX2_checksum_81 rfl hl (by decide) rfl (fun ls hl => ?_)
          refine lv_ldc2 (v := 31) hx hb hown (hts (.constantLong RX2 95 31) (by decide +kernel)) dX2_checksum_82 ?_
          refine lv_lload_n hx hb dX2_checksum_85 rfl (lv_at hl 0 rfl) ?_
          refine lv_lmul hx hb dX2_checksum_86 ?_
          refine lv_aload_n hx hb dX2_checksum_87 rfl (lv_at hl 1 rfl) ?_
          refine zm_get (v := .ref (am 5)) hx hb hts hi_X2_checksum hown hw hm 4 (by decide) hf_X2_checksum_23 rfl dX2_checksum_88 ?_
          refine lv_iload_n hx hb dX2_checksum_91 rfl (lv_at hl 2 rfl) ?_
          refine zm_ldSZ hx hb hw hm (vp_in_nI hlt (by decide)) dX2_checksum_92 ?_
          refine lv_i2l (v := (zSZ σ (Int32.toNatClampNeg (nI w))).toInt64) hx hb dX2_checksum_93 rfl ?_
          refine lv_ladd hx hb dX2_checksum_94 ?_
          refine lv_lstore_n (lv' := [(1, .long ((31 * ((31 * ((31 * ((31 * (zCks σ w)) + (zK σ (Int32.toNatClampNeg (nI w))).toInt64)) + (zPL σ (Int32.toNatClampNeg (nI w))).toInt64)) + (zEN σ (Int32.toNatClampNeg (nI w))).toInt64)) + (zSZ σ (Int32.toNatClampNeg (nI w))).toInt64)), (0, .ref (am 0)), (3, .int (nI w))]) hx hb dX2_checksum_95 rfl hl (by decide) rfl (fun ls hl => ?_)
          refine lv_iconst (v := 0) hx hb dX2_checksum_96 (by decide) ?_
          refine lv_istore (lv' := [(4, .int 0), (1, .long ((31 * ((31 * ((31 * ((31 * (zCks σ w)) + (zK σ (Int32.toNatClampNeg (nI w))).toInt64)) + (zPL σ (Int32.toNatClampNeg (nI w))).toInt64)) + (zEN σ (Int32.toNatClampNeg (nI w))).toInt64)) + (zSZ σ (Int32.toNatClampNeg (nI w))).toInt64)), (0, .ref (am 0)), (3, .int (nI w))]) hx hb dX2_checksum_97 hl (by decide) rfl (fun ls hl => ?_)
          have hwn : zWin σ ln (Int32.toNatClampNeg (nI w)) := zI_win hI ((zis_n hlt).mpr (by have h0 := c_5; rw [nI_clamp (by omega)] at h0; exact h0))
          obtain ⟨hen, he64⟩ := zWin_en hwn
          have loop_99 : ∀ (n9 : Nat) (k : Nat) (f8 : Nat → va_E) (H : Heap) (locs : List Loc) (ls : Array Slot), (k ≤ (Int32.toNatClampNeg (zEN σ (Int32.toNatClampNeg (nI w))))) → ((Int32.toNatClampNeg (zEN σ (Int32.toNatClampNeg (nI w)))) + 1 ≤ k + n9) → zM g am f σ bs 0 L f8 → zW g A s L f8 H locs → lv_has ls 5 [(0, .ref (am 0)), (1, .long (zSum σ (Int32.toNatClampNeg (nI w)) 0 (31 * (31 * (31 * (31 * zCks σ w + (zK σ (Int32.toNatClampNeg (nI w))).toInt64) + (zPL σ (Int32.toNatClampNeg (nI w))).toInt64) + (zEN σ (Int32.toNatClampNeg (nI w))).toInt64) + (zSZ σ (Int32.toNatClampNeg (nI w))).toInt64) k)), (3, .int (nI w)), (4, .int (nI k))] → W p l e { frames := 1, cells := 0, slots := 0, locals := 22 } s m args below meth c H locs 0 0 (vx_MQ below (zQ g A (fun r L1 f1 => L = L1 ∧ ∃ (b9 : Int64) (bs1 : Nat → Int64), some (.long b9) = r ∧ zM g am f (o_checksum σ).2.2 bs1 (o_checksum σ).1 L f1 ∧ ((o_checksum σ).1 = 0 → b9 = (o_checksum σ).2.1))) (zXC g A zNo) args s 0 0 A) (F0 m 99 ls []) := by
            intro n9
            induction n9 with
            | zero => intro k f8 H locs ls hk2 hn2 hm hw hl; exact absurd hn2 (by omega)
            | succ n9 ih_99 =>
              intro k f8 H locs ls hk2 hn2 hm hw hl
              refine lv_iload hx hb dX2_checksum_99 (lv_at hl 3 rfl) ?_
              refine lv_aload_n hx hb dX2_checksum_101 rfl (lv_at hl 0 rfl) ?_
              refine zm_get (v := .ref (am 7)) hx hb hts hi_X2_checksum hown hw hm 6 (by decide) hf_X2_checksum_29 rfl dX2_checksum_102 ?_
              refine lv_iload_n hx hb dX2_checksum_105 rfl (lv_at hl 2 rfl) ?_
              refine zm_ldEN hx hb hw hm (vp_in_nI hlt (by decide)) dX2_checksum_106 ?_
              refine lv_icmp_ge (tgt := 130) hx hb dX2_checksum_107 (by decide) (fun c_7 => ?_) (fun c_7 => ?_)
              · have hke2 : k = (Int32.toNatClampNeg (zEN σ (Int32.toNatClampNeg (nI w)))) := zn_ge (by rw [← hen]; exact c_7) hk2 (by omega)
                refine lv_iinc (v := ((nI w) + 1)) (lv' := [(3, .int ((nI w) + 1)), (0, .ref (am 0)), (1, .long (zSum σ (Int32.toNatClampNeg (nI w)) 0 (31 * (31 * (31 * (31 * zCks σ w + (zK σ (Int32.toNatClampNeg (nI w))).toInt64) + (zPL σ (Int32.toNatClampNeg (nI w))).toInt64) + (zEN σ (Int32.toNatClampNeg (nI w))).toInt64) + (zSZ σ (Int32.toNatClampNeg (nI w))).toInt64) k)), (4, .int (nI k))]) hx hb dX2_checksum_130 hl (k := 2) rfl rfl (by decide) rfl (fun ls hl => ?_)
                refine lv_goto (tgt := 11) hx hb dX2_checksum_133 (by decide) ?_
                refine ih_11 (w + 1) _ _ _ _ (by omega) (by omega) hm hw ?_
                have hl := lv_sub hl (l' := [(0, .ref (am 0)), (1, .long (zSum σ (Int32.toNatClampNeg (nI w)) 0 (31 * (31 * (31 * (31 * zCks σ w + (zK σ (Int32.toNatClampNeg (nI w))).toInt64) + (zPL σ (Int32.toNatClampNeg (nI w))).toInt64) + (zEN σ (Int32.toNatClampNeg (nI w))).toInt64) + (zSZ σ (Int32.toNatClampNeg (nI w))).toInt64) k)), (3, .int ((nI w) + 1))]) [1, 2, 0] rfl
                rw [show zCks σ (w + 1) = zSum σ (Int32.toNatClampNeg (nI w)) 0 (31 * (31 * (31 * (31 * zCks σ w + (zK σ (Int32.toNatClampNeg (nI w))).toInt64) + (zPL σ (Int32.toNatClampNeg (nI w))).toInt64) + (zEN σ (Int32.toNatClampNeg (nI w))).toInt64) + (zSZ σ (Int32.toNatClampNeg (nI w))).toInt64) k from by rw [hke2]; exact if_neg c_5, ← nI_1 w]
                exact hl
              · have hlt2 : k < (Int32.toNatClampNeg (zEN σ (Int32.toNatClampNeg (nI w)))) := zn_lt (by rw [← hen]; exact c_7) hk2 (by omega)
                refine lv_ldc2 (v := 31) hx hb hown (hts (.constantLong RX2 95 31) (by decide +kernel)) dX2_checksum_110 ?_
                refine lv_lload_n hx hb dX2_checksum_113 rfl (lv_at hl 1 rfl) ?_
                refine lv_lmul hx hb dX2_checksum_114 ?_
                refine lv_aload_n hx hb dX2_checksum_115 rfl (lv_at hl 0 rfl) ?_
                refine lv_iload_n hx hb dX2_checksum_116 rfl (lv_at hl 2 rfl) ?_
                refine lv_iload hx hb dX2_checksum_117 (lv_at hl 3 rfl) ?_
                refine z_callV (As := [.int (nI w), .int (nI k)]) (rest := [.long (31 * (zSum σ (Int32.toNatClampNeg (nI w)) 0 (31 * (31 * (31 * (31 * zCks σ w + (zK σ (Int32.toNatClampNeg (nI w))).toInt64) + (zPL σ (Int32.toNatClampNeg (nI w))).toInt64) + (zEN σ (Int32.toNatClampNeg (nI w))).toInt64) + (zSZ σ (Int32.toNatClampNeg (nI w))).toInt64) k))]) ⟨hx, hb, hml, hown, hts⟩ hw hX (hm.1.1 0 (by decide)) rfl (c_X2_value l g am L f8 σ bs 0 (nI w) (nI k) hm.rf (vp_in_nI hlt (by decide)) (zAt_c0 hwn hlt2)) (cwV 2 hts gX2_checksum_X2_value rfl rfl rfl (by decide +kernel) ⟨(Nat.le_of_ble_eq_true rfl), (Nat.le_of_ble_eq_true rfl)⟩) rfl hl.1 rfl (Nat.le_of_ble_eq_true rfl) dX2_checksum_119 ⟨(Nat.le_of_ble_eq_true rfl), (Nat.le_of_ble_eq_true rfl)⟩ (fun _ _ _ _ _ _ _ hp => False.elim hp) (fun r9 L9 f9 H locs hp hw => ?_)
                obtain ⟨rfl, rfl, rfl⟩ := hp
                refine W.eq (g2 := F0 m 122 ls [.long (zVal σ (Int32.toNatClampNeg (nI w)) (nI k)), .long (31 * (zSum σ (Int32.toNatClampNeg (nI w)) 0 (31 * (31 * (31 * (31 * zCks σ w + (zK σ (Int32.toNatClampNeg (nI w))).toInt64) + (zPL σ (Int32.toNatClampNeg (nI w))).toInt64) + (zEN σ (Int32.toNatClampNeg (nI w))).toInt64) + (zSZ σ (Int32.toNatClampNeg (nI w))).toInt64) k))]) rfl ?_
                refine lv_ladd hx hb dX2_checksum_122 ?_
                refine lv_lstore_n (lv' := [(1, .long ((31 * (zSum σ (Int32.toNatClampNeg (nI w)) 0 (31 * (31 * (31 * (31 * zCks σ w + (zK σ (Int32.toNatClampNeg (nI w))).toInt64) + (zPL σ (Int32.toNatClampNeg (nI w))).toInt64) + (zEN σ (Int32.toNatClampNeg (nI w))).toInt64) + (zSZ σ (Int32.toNatClampNeg (nI w))).toInt64) k)) + (zVal σ (Int32.toNatClampNeg (nI w)) (nI k)))), (0, .ref (am 0)), (3, .int (nI w)), (4, .int (nI k))]) hx hb dX2_checksum_123 rfl hl (by decide) rfl (fun ls hl => ?_)
                refine lv_iinc (v := ((nI k) + 1)) (lv' := [(4, .int ((nI k) + 1)), (1, .long ((31 * (zSum σ (Int32.toNatClampNeg (nI w)) 0 (31 * (31 * (31 * (31 * zCks σ w + (zK σ (Int32.toNatClampNeg (nI w))).toInt64) + (zPL σ (Int32.toNatClampNeg (nI w))).toInt64) + (zEN σ (Int32.toNatClampNeg (nI w))).toInt64) + (zSZ σ (Int32.toNatClampNeg (nI w))).toInt64) k)) + (zVal σ (Int32.toNatClampNeg (nI w)) (nI k)))), (0, .ref (am 0)), (3, .int (nI w))]) hx hb dX2_checksum_124 hl (k := 3) rfl rfl (by decide) rfl (fun ls hl => ?_)
                refine lv_goto (tgt := 99) hx hb dX2_checksum_127 (by decide) ?_
                refine ih_99 (k + 1) _ _ _ _ (by omega) (by omega) hm hw ?_
                have hl := lv_sub hl (l' := [(0, .ref (am 0)), (1, .long ((31 * (zSum σ (Int32.toNatClampNeg (nI w)) 0 (31 * (31 * (31 * (31 * zCks σ w + (zK σ (Int32.toNatClampNeg (nI w))).toInt64) + (zPL σ (Int32.toNatClampNeg (nI w))).toInt64) + (zEN σ (Int32.toNatClampNeg (nI w))).toInt64) + (zSZ σ (Int32.toNatClampNeg (nI w))).toInt64) k)) + (zVal σ (Int32.toNatClampNeg (nI w)) (nI k)))), (3, .int (nI w)), (4, .int ((nI k) + 1))]) [2, 1, 3, 0] rfl
                rw [← nI_1 k, zSum, Int32.zero_add]
                exact hl
          refine loop_99 ((Int32.toNatClampNeg (zEN σ (Int32.toNatClampNeg (nI w)))) + 1) 0 _ _ _ _ (Nat.zero_le _) (by omega) hm hw ?_
          have hl := lv_sub hl (l' := [(0, .ref (am 0)), (1, .long ((31 * ((31 * ((31 * ((31 * (zCks σ w)) + (zK σ (Int32.toNatClampNeg (nI w))).toInt64)) + (zPL σ (Int32.toNatClampNeg (nI w))).toInt64)) + (zEN σ (Int32.toNatClampNeg (nI w))).toInt64)) + (zSZ σ (Int32.toNatClampNeg (nI w))).toInt64)), (3, .int (nI w)), (4, .int 0)]) [2, 1, 3, 0] rfl
          exact hl
        · refine lv_bipush (v := 45) hx hb dX2_checksum_31 (by decide) ?_
          refine lv_goto (tgt := 42) hx hb dX2_checksum_33 (by decide) ?_
          refine lv_i2l (v := (45 : Int32).toInt64) hx hb dX2_checksum_42 rfl ?_
          refine lv_ladd hx hb dX2_checksum_43 ?_
          refine lv_lstore_n (lv' := [(1, .long ((31 * (zCks σ w)) + (45 : Int32).toInt64)), (0, .ref (am 0)), (3, .int (nI w))]) hx hb dX2_checksum_44 rfl hl (by decide) rfl (fun ls hl => ?_)
          refine lv_aload_n hx hb dX2_checksum_45 rfl (lv_at hl 1 rfl) ?_
          refine zm_get (v := .ref (am 2)) hx hb hts hi_X2_checksum hown hw hm 1 (by decide) hf_X2_checksum_13 rfl dX2_checksum_46 ?_
          refine lv_iload_n hx hb dX2_checksum_49 rfl (lv_at hl 2 rfl) ?_
          refine zm_ldK hx hb hw hm (vp_in_nI hlt (by decide)) dX2_checksum_50 ?_
          refine lv_if_eq (tgt := 130) hx hb dX2_checksum_51 (by decide) (fun c_8 => ?_) (fun c_8 => absurd c_5 c_8)
          refine lv_iinc (v := ((nI w) + 1)) (lv' := [(3, .int ((nI w) + 1)), (1, .long ((31 * (zCks σ w)) + (45 : Int32).toInt64)), (0, .ref (am 0))]) hx hb dX2_checksum_130 hl (k := 2) rfl rfl (by decide) rfl (fun ls hl => ?_)
          refine lv_goto (tgt := 11) hx hb dX2_checksum_133 (by decide) ?_
          refine ih_11 (w + 1) _ _ _ _ (by omega) (by omega) hm hw ?_
          have hl := lv_sub hl (l' := [(0, .ref (am 0)), (1, .long ((31 * (zCks σ w)) + (45 : Int32).toInt64)), (3, .int ((nI w) + 1))]) [2, 1, 0] rfl
          rw [show zCks σ (w + 1) = 31 * zCks σ w + (45 : Int32).toInt64 from if_pos c_5, ← nI_1 w]
          exact hl
  refine loop_11 (9) 0 _ _ _ _ (by decide) (by decide) hm hw ?_
  have hl := lv_sub hl (l' := [(0, .ref (am 0)), (1, .long 7), (3, .int 0)]) [2, 1, 0] rfl
  exact hl
