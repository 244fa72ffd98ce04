def o_rowAt (σ : ZS) (p0 : Int32) (p1 : Int32) : Int32 × Int32 × ZS := if (zin p0 0 1 = true ∧ zin p1 0 (zRL σ (Int32.toNatClampNeg p0) - 1) = true) then (0, (zST σ (Int32.toNatClampNeg (64 * zRS σ (Int32.toNatClampNeg p0) + p1))).toInt32, σ) else (1, 0, σ)

theorem hi_X2_rowAt : ∀ w ∈ wsX20, w ∈ wsX2_rowAt := by decide +kernel
theorem hf_X2_rowAt_7 : Cond.fieldLink RX2 7 (TX2 0).1 (TX2 0).2.1 (TX2 0).2.2.1 ∈ wsX2_rowAt := by decide +kernel
theorem hf_X2_rowAt_39 : Cond.fieldLink RX2 39 (TX2 9).1 (TX2 9).2.1 (TX2 9).2.2.1 ∈ wsX2_rowAt := by decide +kernel
set_option maxRecDepth 100000 in
set_option maxHeartbeats 4000000 in
theorem c_X2_rowAt (l : Launch) (g : zG) (am : Nat → Nat) (L : List Nat) (f : Nat → va_E) (σ : ZS) (bs : Nat → Int64) (th : Int32) (p0 : Int32) (p1 : Int32) (hm : zM g am f σ bs th L f) {ln : Nat → Nat} {kd : Nat → Int32} (hI : zI σ ln kd) : zC l yX2_rowAt wsX2_rowAt { frames := 2, cells := 0, slots := 0, locals := 44 } 0 0 g [.ref (am 0), .int p0, .int p1] L f (fun r L1 f1 => L = L1 ∧ ∃ (b9 : Int32) (bs1 : Nat → Int64), some (.int b9) = r ∧ zM g am f (o_rowAt σ p0 p1).2.2 bs1 (o_rowAt σ p0 p1).1 L f1 ∧ ((o_rowAt σ p0 p1).1 = 0 → b9 = (o_rowAt σ p0 p1).2.1)) zNo := by
  refine z_ofW (cc := cX2_rowAt) (maxL := 3) (ret := (some .int)) (by decide) rfl (Nat.le_of_ble_eq_true rfl) ?_
  intro p e s m args below meth c ls A hx hb hr hts hown hlocks hml htab hin hw hX hl
  have hl : lv_has ls 3 [(0, .ref (am 0)), (1, .int p0), (2, .int p1)] := hl
  have hown : s.vm.findClass RX2 = some m.cls := hown
  refine lv_aload_n hx hb dX2_rowAt_0 rfl (lv_at hl 0 rfl) ?_
  refine lv_iload_n hx hb dX2_rowAt_1 rfl (lv_at hl 1 rfl) ?_
  refine lv_iload_n hx hb dX2_rowAt_2 rfl (lv_at hl 2 rfl) ?_
  refine z_callV (As := [.int p0, .int p1]) (rest := []) ⟨hx, hb, hml, hown, hts⟩ hw hX (hm.1.1 0 (by decide)) rfl (c_X2_isPlace l g am L f σ bs th p0 p1 hm.rf) (cwV 2 hts gX2_rowAt_X2_isPlace rfl rfl rfl (by decide +kernel) ⟨(Nat.le_of_ble_eq_true rfl), (Nat.le_of_ble_eq_true rfl)⟩) rfl hl.1 rfl (Nat.le_of_ble_eq_true rfl) dX2_rowAt_3 ⟨(Nat.le_of_ble_eq_true rfl), (Nat.le_of_ble_eq_true rfl)⟩ (fun _ _ _ _ _ _ _ hp => False.elim hp) (fun r9 L9 f9 H locs hp hw => ?_)
  rcases hp with ⟨c_1, rfl, rfl, hm9⟩ | ⟨c_1, rfl, rfl, hm9⟩
  · refine W.eq (g2 := F0 m 6 ls [.int 1]) rfl ?_
    have hm := hm.tr hm9
    refine lv_if_eq (tgt := 29) hx hb dX2_rowAt_6 (by decide) (fun c_2 => absurd c_2 (by decide)) (fun c_2 => ?_)
    refine lv_aload_n hx hb dX2_rowAt_9 rfl (lv_at hl 0 rfl) ?_
    refine zm_get (v := .ref (am 1)) hx hb hts hi_X2_rowAt hown hw hm 0 (by decide) hf_X2_rowAt_7 rfl dX2_rowAt_10 ?_
    refine lv_bipush (v := 64) hx hb dX2_rowAt_13 (by decide) ?_
    refine lv_aload_n hx hb dX2_rowAt_15 rfl (lv_at hl 0 rfl) ?_
    refine zm_get (v := .ref (am 10)) hx hb hts hi_X2_rowAt hown hw hm 9 (by decide) hf_X2_rowAt_39 rfl dX2_rowAt_16 ?_
    refine lv_iload_n hx hb dX2_rowAt_19 rfl (lv_at hl 1 rfl) ?_
    refine zm_ldRS hx hb hw hm (by first | exact zin_1 (by assumption) | exact zin_1 (And.left (by assumption))) dX2_rowAt_20 ?_
    refine lv_imul hx hb dX2_rowAt_21 ?_
    refine lv_iload_n hx hb dX2_rowAt_22 rfl (lv_at hl 2 rfl) ?_
    refine lv_iadd hx hb dX2_rowAt_23 ?_
    refine zm_ldST hx hb hw hm (zI_row hI (by assumption)) dX2_rowAt_24 ?_
    refine lv_l2i (v := (zST σ (Int32.toNatClampNeg ((64 * (zRS σ (Int32.toNatClampNeg p0))) + p1))).toInt32) hx hb dX2_rowAt_25 rfl ?_
    refine lv_goto (tgt := 30) hx hb dX2_rowAt_26 (by decide) ?_
    have ho : (o_rowAt σ p0 p1) = (0, (zST σ (Int32.toNatClampNeg ((64 * (zRS σ (Int32.toNatClampNeg p0))) + p1))).toInt32, σ) := by unfold o_rowAt; first | exact if_pos (show ((zin p0 0 1 = true ∧ zin p1 0 (zRL σ (Int32.toNatClampNeg p0) - 1) = true)) from by assumption)
    exact z_iret hx hb hr hlocks hw (Nat.le_of_ble_eq_true rfl) (Nat.le_of_ble_eq_true rfl) dX2_rowAt_30 ⟨rfl, _, _, rfl, by rw [ho]; exact hm, by rw [ho]; exact fun _ => rfl⟩
  · refine W.eq (g2 := F0 m 6 ls [.int 0]) rfl ?_
    have hm := hm.tr hm9
    refine lv_if_eq (tgt := 29) hx hb dX2_rowAt_6 (by decide) (fun c_3 => ?_) (fun c_3 => absurd (by decide) c_3)
    refine lv_iconst (v := 0) hx hb dX2_rowAt_29 (by decide) ?_
    have ho : (o_rowAt σ p0 p1) = (1, 0, σ) := by unfold o_rowAt; first | exact if_neg (show ¬ ((zin p0 0 1 = true ∧ zin p1 0 (zRL σ (Int32.toNatClampNeg p0) - 1) = true)) from by assumption)
    exact z_iret hx hb hr hlocks hw (Nat.le_of_ble_eq_true rfl) (Nat.le_of_ble_eq_true rfl) dX2_rowAt_30 ⟨rfl, _, _, rfl, by rw [ho]; exact hm, by rw [ho]; exact fun h => absurd (show (1 : Int32) = 0 from h) (by decide)⟩

def o_rowPut (σ : ZS) (p0 : Int32) (p1 : Int32) (p2 : Int32) : Int32 × Int32 × ZS := if (zin p0 0 1 = true ∧ zin p1 0 (zRL σ (Int32.toNatClampNeg p0) - 1) = true) then (0, (zST σ (Int32.toNatClampNeg (64 * zRS σ (Int32.toNatClampNeg p0) + p1))).toInt32, zsST σ (vp_updL (zST σ) (Int32.toNatClampNeg (64 * zRS σ (Int32.toNatClampNeg p0) + p1)) p2.toInt64)) else (1, 0, σ)

theorem hi_X2_rowPut : ∀ w ∈ wsX20, w ∈ wsX2_rowPut := by decide +kernel
theorem hf_X2_rowPut_7 : Cond.fieldLink RX2 7 (TX2 0).1 (TX2 0).2.1 (TX2 0).2.2.1 ∈ wsX2_rowPut := by decide +kernel
theorem hf_X2_rowPut_39 : Cond.fieldLink RX2 39 (TX2 9).1 (TX2 9).2.1 (TX2 9).2.2.1 ∈ wsX2_rowPut := by decide +kernel
set_option maxRecDepth 100000 in
set_option maxHeartbeats 4000000 in
theorem c_X2_rowPut (l : Launch) (g : zG) (am : Nat → Nat) (L : List Nat) (f : Nat → va_E) (σ : ZS) (bs : Nat → Int64) (th : Int32) (p0 : Int32) (p1 : Int32) (p2 : Int32) (hm : zM g am f σ bs th L f) {ln : Nat → Nat} {kd : Nat → Int32} (hI : zI σ ln kd) : zC l yX2_rowPut wsX2_rowPut { frames := 2, cells := 0, slots := 0, locals := 44 } 0 0 g [.ref (am 0), .int p0, .int p1, .int p2] L f (fun r L1 f1 => L = L1 ∧ ∃ (b9 : Int32) (bs1 : Nat → Int64), some (.int b9) = r ∧ zM g am f (o_rowPut σ p0 p1 p2).2.2 bs1 (o_rowPut σ p0 p1 p2).1 L f1 ∧ ((o_rowPut σ p0 p1 p2).1 = 0 → b9 = (o_rowPut σ p0 p1 p2).2.1)) zNo := by
  refine z_ofW (cc := cX2_rowPut) (maxL := 5) (ret := (some .int)) (by decide) rfl (Nat.le_of_ble_eq_true rfl) ?_
  intro p e s m args below meth c ls A hx hb hr hts hown hlocks hml htab hin hw hX hl
  have hl : lv_has ls 5 [(0, .ref (am 0)), (1, .int p0), (2, .int p1), (3, .int p2)] := hl
  have hown : s.vm.findClass RX2 = some m.cls := hown
  refine lv_aload_n hx hb dX2_rowPut_0 rfl (lv_at hl 0 rfl) ?_
  refine lv_iload_n hx hb dX2_rowPut_1 rfl (lv_at hl 1 rfl) ?_
  refine lv_iload_n hx hb dX2_rowPut_2 rfl (lv_at hl 2 rfl) ?_
  refine z_callV (As := [.int p0, .int p1]) (rest := []) ⟨hx, hb, hml, hown, hts⟩ hw hX (hm.1.1 0 (by decide)) rfl (c_X2_isPlace l g am L f σ bs th p0 p1 hm.rf) (cwV 2 hts gX2_rowPut_X2_isPlace rfl rfl rfl (by decide +kernel) ⟨(Nat.le_of_ble_eq_true rfl), (Nat.le_of_ble_eq_true rfl)⟩) rfl hl.1 rfl (Nat.le_of_ble_eq_true rfl) dX2_rowPut_3 ⟨(Nat.le_of_ble_eq_true rfl), (Nat.le_of_ble_eq_true rfl)⟩ (fun _ _ _ _ _ _ _ hp => False.elim hp) (fun r9 L9 f9 H locs hp hw => ?_)
  rcases hp with ⟨c_1, rfl, rfl, hm9⟩ | ⟨c_1, rfl, rfl, hm9⟩
  · refine W.eq (g2 := F0 m 6 ls [.int 1]) rfl ?_
    have hm := hm.tr hm9
    refine lv_if_ne (tgt := 11) hx hb dX2_rowPut_6 (by decide) (fun c_2 => ?_) (fun c_2 => absurd c_2 (by decide))
    refine lv_aload_n hx hb dX2_rowPut_11 rfl (lv_at hl 0 rfl) ?_
    refine zm_get (v := .ref (am 1)) hx hb hts hi_X2_rowPut hown hw hm 0 (by decide) hf_X2_rowPut_7 rfl dX2_rowPut_12 ?_
    refine lv_bipush (v := 64) hx hb dX2_rowPut_15 (by decide) ?_
    refine lv_aload_n hx hb dX2_rowPut_17 rfl (lv_at hl 0 rfl) ?_
    refine zm_get (v := .ref (am 10)) hx hb hts hi_X2_rowPut hown hw hm 9 (by decide) hf_X2_rowPut_39 rfl dX2_rowPut_18 ?_
    refine lv_iload_n hx hb dX2_rowPut_21 rfl (lv_at hl 1 rfl) ?_
    refine zm_ldRS hx hb hw hm (by first | exact zin_1 (by assumption) | exact zin_1 (And.left (by assumption))) dX2_rowPut_22 ?_
    refine lv_imul hx hb dX2_rowPut_23 ?_
    refine lv_iload_n hx hb dX2_rowPut_24 rfl (lv_at hl 2 rfl) ?_
    refine lv_iadd hx hb dX2_rowPut_25 ?_
    refine zm_ldST hx hb hw hm (zI_row hI (by assumption)) dX2_rowPut_26 ?_
    refine lv_l2i (v := (zST σ (Int32.toNatClampNeg ((64 * (zRS σ (Int32.toNatClampNeg p0))) + p1))).toInt32) hx hb dX2_rowPut_27 rfl ?_
    refine lv_istore (lv' := [(4, .int (zST σ (Int32.toNatClampNeg ((64 * (zRS σ (Int32.toNatClampNeg p0))) + p1))).toInt32), (0, .ref (am 0)), (1, .int p0), (2, .int p1), (3, .int p2)]) hx hb dX2_rowPut_28 hl (by decide) rfl (fun ls hl => ?_)
    refine lv_aload_n hx hb dX2_rowPut_30 rfl (lv_at hl 1 rfl) ?_
    refine zm_get (v := .ref (am 1)) hx hb hts hi_X2_rowPut hown hw hm 0 (by decide) hf_X2_rowPut_7 rfl dX2_rowPut_31 ?_
    refine lv_bipush (v := 64) hx hb dX2_rowPut_34 (by decide) ?_
    refine lv_aload_n hx hb dX2_rowPut_36 rfl (lv_at hl 1 rfl) ?_
    refine zm_get (v := .ref (am 10)) hx hb hts hi_X2_rowPut hown hw hm 9 (by decide) hf_X2_rowPut_39 rfl dX2_rowPut_37 ?_
    refine lv_iload_n hx hb dX2_rowPut_40 rfl (lv_at hl 2 rfl) ?_
    refine zm_ldRS hx hb hw hm (by first | exact zin_1 (by assumption) | exact zin_1 (And.left (by assumption))) dX2_rowPut_41 ?_
    refine lv_imul hx hb dX2_rowPut_42 ?_
    refine lv_iload_n hx hb dX2_rowPut_43 rfl (lv_at hl 3 rfl) ?_
    refine lv_iadd hx hb dX2_rowPut_44 ?_
    refine lv_iload_n hx hb dX2_rowPut_45 rfl (lv_at hl 4 rfl) ?_
    refine lv_i2l (v := p2.toInt64) hx hb dX2_rowPut_46 rfl ?_
    refine zm_stST hx hb hw hm (zI_row hI (by assumption)) dX2_rowPut_47 (fun f_3 H locs hm hw => ?_)
    refine lv_iload hx hb dX2_rowPut_48 (lv_at hl 0 rfl) ?_
    have ho : (o_rowPut σ p0 p1 p2) = (0, (zST σ (Int32.toNatClampNeg ((64 * (zRS σ (Int32.toNatClampNeg p0))) + p1))).toInt32, (zsST σ (vp_updL (zST σ) (Int32.toNatClampNeg ((64 * (zRS σ (Int32.toNatClampNeg p0))) + p1)) p2.toInt64))) := by unfold o_rowPut; first | exact if_pos (show ((zin p0 0 1 = true ∧ zin p1 0 (zRL σ (Int32.toNatClampNeg p0) - 1) = true)) from by assumption)
    exact z_iret hx hb hr hlocks hw (Nat.le_of_ble_eq_true rfl) (Nat.le_of_ble_eq_true rfl) dX2_rowPut_50 ⟨rfl, _, _, rfl, by rw [ho]; exact hm, by rw [ho]; exact fun _ => rfl⟩
  · refine W.eq (g2 := F0 m 6 ls [.int 0]) rfl ?_
    have hm := hm.tr hm9
    refine lv_if_ne (tgt := 11) hx hb dX2_rowPut_6 (by decide) (fun c_4 => absurd (by decide) c_4) (fun c_4 => ?_)
    refine lv_iconst (v := 0) hx hb dX2_rowPut_9 (by decide) ?_
    have ho : (o_rowPut σ p0 p1 p2) = (1, 0, σ) := by unfold o_rowPut; first | exact if_neg (show ¬ ((zin p0 0 1 = true ∧ zin p1 0 (zRL σ (Int32.toNatClampNeg p0) - 1) = true)) from by assumption)
    exact z_iret hx hb hr hlocks hw (Nat.le_of_ble_eq_true rfl) (Nat.le_of_ble_eq_true rfl) dX2_rowPut_10 ⟨rfl, _, _, rfl, by rw [ho]; exact hm, by rw [ho]; exact fun h => absurd (show (1 : Int32) = 0 from h) (by decide)⟩

def o_wrap (σ : ZS) (p0 : Int32) (p1 : Int32) : Int32 × Int32 × ZS := if zin p0 0 7 = true then if zin p1 0 1 = true then (0, zRL σ (Int32.toNatClampNeg p1), zBecomes σ (Int32.toNatClampNeg p0) 105 (zRS σ (Int32.toNatClampNeg p1)) 0 (zRL σ (Int32.toNatClampNeg p1)) 0) else (1, 0, σ) else (1, 0, σ)

theorem hi_X2_wrap : ∀ w ∈ wsX20, w ∈ wsX2_wrap := by decide +kernel
theorem hf_X2_wrap_39 : Cond.fieldLink RX2 39 (TX2 9).1 (TX2 9).2.1 (TX2 9).2.2.1 ∈ wsX2_wrap := by decide +kernel
theorem hf_X2_wrap_42 : Cond.fieldLink RX2 42 (TX2 10).1 (TX2 10).2.1 (TX2 10).2.2.1 ∈ wsX2_wrap := by decide +kernel
theorem hf_X2_wrap_48 : Cond.fieldLink RX2 48 (TX2 12).1 (TX2 12).2.1 (TX2 12).2.2.1 ∈ wsX2_wrap := by decide +kernel
set_option maxRecDepth 100000 in
set_option maxHeartbeats 4000000 in
theorem c_X2_wrap (l : Launch) (g : zG) (am : Nat → Nat) (L : List Nat) (f : Nat → va_E) (σ : ZS) (bs : Nat → Int64) (th : Int32) (p0 : Int32) (p1 : Int32) (hm : zM g am f σ bs th L f) {ln : Nat → Nat} {kd : Nat → Int32} (hI : zI σ ln kd) : zC l yX2_wrap wsX2_wrap { frames := 1, cells := 0, slots := 0, locals := 26 } 0 0 g [.ref (am 0), .int p0, .int p1] L f (fun r L1 f1 => L = L1 ∧ ∃ (b9 : Int32) (bs1 : Nat → Int64), some (.int b9) = r ∧ zM g am f (o_wrap σ p0 p1).2.2 bs1 (o_wrap σ p0 p1).1 L f1 ∧ ((o_wrap σ p0 p1).1 = 0 → b9 = (o_wrap σ p0 p1).2.1)) zNo := by
  refine z_ofW (cc := cX2_wrap) (maxL := 3) (ret := (some .int)) (by decide) rfl (Nat.le_of_ble_eq_true rfl) ?_
  intro p e s m args below meth c ls A hx hb hr hts hown hlocks hml htab hin hw hX hl
  have hl : lv_has ls 3 [(0, .ref (am 0)), (1, .int p0), (2, .int p1)] := hl
  have hown : s.vm.findClass RX2 = some m.cls := hown
  refine lv_aload_n hx hb dX2_wrap_0 rfl (lv_at hl 0 rfl) ?_
  refine lv_iload_n hx hb dX2_wrap_1 rfl (lv_at hl 1 rfl) ?_
  refine lv_iconst (v := 0) hx hb dX2_wrap_2 (by decide) ?_
  refine lv_bipush (v := 7) hx hb dX2_wrap_3 (by decide) ?_
  refine z_callS (As := [.int p0, .int 0, .int 7]) (rest := [.ref (am 0)]) ⟨hx, hb, hml, hown, hts⟩ hw hX (c_X2_in l g L f p0 0 7) (va_cwS 3 hts gX2_wrap_X2_in rfl rfl rfl (by decide +kernel) ⟨(Nat.le_of_ble_eq_true rfl), (Nat.le_of_ble_eq_true rfl)⟩) rfl hl.1 rfl (Nat.le_of_ble_eq_true rfl) dX2_wrap_5 ⟨(Nat.le_of_ble_eq_true rfl), (Nat.le_of_ble_eq_true rfl)⟩ (fun _ _ _ _ _ _ _ hp => False.elim hp) (fun r9 L9 f9 H locs hp hw => ?_)
  obtain ⟨rfl, rfl, rfl⟩ := hp
  refine W.eq (g2 := F0 m 8 ls [.int (zb (zin p0 0 7)), .ref (am 0)]) rfl ?_
  refine zr_beq hx hb dX2_wrap_8 (tgt := 20) (by decide) (fun c_1 => ?_) (fun c_1 => ?_)
  · refine lv_iconst (v := 1) hx hb dX2_wrap_20 (by decide) ?_
    refine lv_goto (tgt := 25) hx hb dX2_wrap_21 (by decide) ?_
    refine zm_putT hx hb hts hi_X2_wrap hown hw hm hf_X2_wrap_48 dX2_wrap_25 (fun f_2 H locs hm hw => ?_)
    refine lv_aload_n hx hb dX2_wrap_28 rfl (lv_at hl 0 rfl) ?_
    refine zm_get (v := .int 1) hx hb hts hi_X2_wrap hown hw hm 12 (by decide) hf_X2_wrap_48 rfl dX2_wrap_29 ?_
    refine lv_if_le (tgt := 37) hx hb dX2_wrap_32 (by decide) (fun c_3 => absurd c_3 (by decide)) (fun c_3 => ?_)
    refine lv_iconst (v := 0) hx hb dX2_wrap_35 (by decide) ?_
    have ho : (o_wrap σ p0 p1) = (1, 0, σ) := by unfold o_wrap; first | exact (if_pos (show (zin p0 0 7 = true) from by assumption)).trans (if_neg (show ¬ (zin p1 0 1 = true) from by assumption)) | exact if_neg (show ¬ (zin p0 0 7 = true) from by assumption)
    exact z_iret hx hb hr hlocks hw (Nat.le_of_ble_eq_true rfl) (Nat.le_of_ble_eq_true rfl) dX2_wrap_36 ⟨rfl, _, _, rfl, by rw [ho]; exact hm, by rw [ho]; exact fun h => absurd (show (1 : Int32) = 0 from h) (by decide)⟩
  · refine lv_iload_n hx hb dX2_wrap_11 rfl (lv_at hl 2 rfl) ?_
    refine lv_iconst (v := 0) hx hb dX2_wrap_12 (by decide) ?_
    refine lv_iconst (v := 1) hx hb dX2_wrap_13 (by decide) ?_
    refine z_callS (As := [.int p1, .int 0, .int 1]) (rest := [.ref (am 0)]) ⟨hx, hb, hml, hown, hts⟩ hw hX (c_X2_in l g L f p1 0 1) (va_cwS 3 hts gX2_wrap_X2_in rfl rfl rfl (by decide +kernel) ⟨(Nat.le_of_ble_eq_true rfl), (Nat.le_of_ble_eq_true rfl)⟩) rfl hl.1 rfl (Nat.le_of_ble_eq_true rfl) dX2_wrap_14 ⟨(Nat.le_of_ble_eq_true rfl), (Nat.le_of_ble_eq_true rfl)⟩ (fun _ _ _ _ _ _ _ hp => False.elim hp) (fun r9 L9 f9 H locs hp hw => ?_)
    obtain ⟨rfl, rfl, rfl⟩ := hp
    refine W.eq (g2 := F0 m 17 ls [.int (zb (zin p1 0 1)), .ref (am 0)]) rfl ?_
    refine zr_bne hx hb dX2_wrap_17 (tgt := 24) (by decide) (fun c_4 => ?_) (fun c_4 => ?_)
    · refine lv_iconst (v := 0) hx hb dX2_wrap_24 (by decide) ?_
      refine zm_putT hx hb hts hi_X2_wrap hown hw hm hf_X2_wrap_48 dX2_wrap_25 (fun f_5 H locs hm hw => ?_)
      refine lv_aload_n hx hb dX2_wrap_28 rfl (lv_at hl 0 rfl) ?_
      refine zm_get (v := .int 0) hx hb hts hi_X2_wrap hown hw hm 12 (by decide) hf_X2_wrap_48 rfl dX2_wrap_29 ?_
      refine lv_if_le (tgt := 37) hx hb dX2_wrap_32 (by decide) (fun c_6 => ?_) (fun c_6 => absurd (by decide) c_6)
      refine lv_aload_n hx hb dX2_wrap_37 rfl (lv_at hl 0 rfl) ?_
      refine lv_iload_n hx hb dX2_wrap_38 rfl (lv_at hl 1 rfl) ?_
      refine lv_bipush (v := 105) hx hb dX2_wrap_39 (by decide) ?_
      refine lv_aload_n hx hb dX2_wrap_41 rfl (lv_at hl 0 rfl) ?_
      refine zm_get (v := .ref (am 10)) hx hb hts hi_X2_wrap hown hw hm 9 (by decide) hf_X2_wrap_39 rfl dX2_wrap_42 ?_
      refine lv_iload_n hx hb dX2_wrap_45 rfl (lv_at hl 2 rfl) ?_
      refine zm_ldRS hx hb hw hm (zin_1 (by assumption)) dX2_wrap_46 ?_
      refine lv_iconst (v := 0) hx hb dX2_wrap_47 (by decide) ?_
      refine lv_aload_n hx hb dX2_wrap_48 rfl (lv_at hl 0 rfl) ?_
      refine zm_get (v := .ref (am 11)) hx hb hts hi_X2_wrap hown hw hm 10 (by decide) hf_X2_wrap_42 rfl dX2_wrap_49 ?_
      refine lv_iload_n hx hb dX2_wrap_52 rfl (lv_at hl 2 rfl) ?_
      refine zm_ldRL hx hb hw hm (zin_1 (by assumption)) dX2_wrap_53 ?_
      refine lv_iconst (v := 0) hx hb dX2_wrap_54 (by decide) ?_
      refine z_callV (As := [.int p0, .int 105, .int (zRS σ (Int32.toNatClampNeg p1)), .int 0, .int (zRL σ (Int32.toNatClampNeg p1)), .int 0]) (rest := []) ⟨hx, hb, hml, hown, hts⟩ hw hX (hm.1.1 0 (by decide)) rfl (c_X2_becomes l g am L f_5 σ bs 0 p0 105 (zRS σ (Int32.toNatClampNeg p1)) 0 (zRL σ (Int32.toNatClampNeg p1)) 0 hm.rf (zin_7 (by assumption))) (cwV 6 hts gX2_wrap_X2_becomes rfl rfl rfl (by decide +kernel) ⟨(Nat.le_of_ble_eq_true rfl), (Nat.le_of_ble_eq_true rfl)⟩) rfl hl.1 rfl (Nat.le_of_ble_eq_true rfl) dX2_wrap_55 ⟨(Nat.le_of_ble_eq_true rfl), (Nat.le_of_ble_eq_true rfl)⟩ (fun _ _ _ _ _ _ _ hp => False.elim hp) (fun r9 L9 f9 H locs hp hw => ?_)
      obtain ⟨rfl, rfl, hm9⟩ := hp
      refine W.eq (g2 := F0 m 58 ls []) rfl ?_
      have hm := hm.tr hm9
      refine lv_aload_n hx hb dX2_wrap_58 rfl (lv_at hl 0 rfl) ?_
      refine zm_get (v := .ref (am 11)) hx hb hts hi_X2_wrap hown hw hm 10 (by decide) hf_X2_wrap_42 rfl dX2_wrap_59 ?_
      refine lv_iload_n hx hb dX2_wrap_62 rfl (lv_at hl 2 rfl) ?_
      refine zm_ldRL hx hb hw hm (zin_1 (by assumption)) dX2_wrap_63 ?_
      have ho : (o_wrap σ p0 p1) = (0, (zRL (zBecomes σ (Int32.toNatClampNeg p0) 105 (zRS σ (Int32.toNatClampNeg p1)) 0 (zRL σ (Int32.toNatClampNeg p1)) 0) (Int32.toNatClampNeg p1)), (zBecomes σ (Int32.toNatClampNeg p0) 105 (zRS σ (Int32.toNatClampNeg p1)) 0 (zRL σ (Int32.toNatClampNeg p1)) 0)) := by unfold o_wrap; first | exact (if_pos (show (zin p0 0 7 = true) from by assumption)).trans (if_pos (show (zin p1 0 1 = true) from by assumption))
      exact z_iret hx hb hr hlocks hw (Nat.le_of_ble_eq_true rfl) (Nat.le_of_ble_eq_true rfl) dX2_wrap_64 ⟨rfl, _, _, rfl, by rw [ho]; exact hm, by rw [ho]; exact fun _ => rfl⟩
    · refine lv_iconst (v := 1) hx hb dX2_wrap_20 (by decide) ?_
      refine lv_goto (tgt := 25) hx hb dX2_wrap_21 (by decide) ?_
      refine zm_putT hx hb hts hi_X2_wrap hown hw hm hf_X2_wrap_48 dX2_wrap_25 (fun f_7 H locs hm hw => ?_)
      refine lv_aload_n hx hb dX2_wrap_28 rfl (lv_at hl 0 rfl) ?_
      refine zm_get (v := .int 1) hx hb hts hi_X2_wrap hown hw hm 12 (by decide) hf_X2_wrap_48 rfl dX2_wrap_29 ?_
      refine lv_if_le (tgt := 37) hx hb dX2_wrap_32 (by decide) (fun c_8 => absurd c_8 (by decide)) (fun c_8 => ?_)
      refine lv_iconst (v := 0) hx hb dX2_wrap_35 (by decide) ?_
      have ho : (o_wrap σ p0 p1) = (1, 0, σ) := by unfold o_wrap; first | exact (if_pos (show (zin p0 0 7 = true) from by assumption)).trans (if_neg (show ¬ (zin p1 0 1 = true) from by assumption)) | exact if_neg (show ¬ (zin p0 0 7 = true) from by assumption)
      exact z_iret hx hb hr hlocks hw (Nat.le_of_ble_eq_true rfl) (Nat.le_of_ble_eq_true rfl) dX2_wrap_36 ⟨rfl, _, _, rfl, by rw [ho]; exact hm, by rw [ho]; exact fun h => absurd (show (1 : Int32) = 0 from h) (by decide)⟩

def o_kind (σ : ZS) (p0 : Int32) : Int32 × Int32 × ZS := if zin p0 0 7 = true then if zK σ (Int32.toNatClampNeg p0) = 0 then (0, 45, σ) else (0, ((zK σ (Int32.toNatClampNeg p0)).toUInt32 % 65536).toInt32, σ) else (1, 0, σ)

theorem hi_X2_kind : ∀ w ∈ wsX20, w ∈ wsX2_kind := by decide +kernel
theorem hf_X2_kind_13 : Cond.fieldLink RX2 13 (TX2 1).1 (TX2 1).2.1 (TX2 1).2.2.1 ∈ wsX2_kind := by decide +kernel
theorem hf_X2_kind_48 : Cond.fieldLink RX2 48 (TX2 12).1 (TX2 12).2.1 (TX2 12).2.2.1 ∈ wsX2_kind := by decide +kernel
set_option maxRecDepth 100000 in
set_option maxHeartbeats 4000000 in
theorem c_X2_kind (l : Launch) (g : zG) (am : Nat → Nat) (L : List Nat) (f : Nat → va_E) (σ : ZS) (bs : Nat → Int64) (th : Int32) (p0 : Int32) (hm : zM g am f σ bs th L f) {ln : Nat → Nat} {kd : Nat → Int32} (hI : zI σ ln kd) : zC l yX2_kind wsX2_kind { frames := 1, cells := 0, slots := 0, locals := 22 } 0 0 g [.ref (am 0), .int p0] L f (fun r L1 f1 => L = L1 ∧ ∃ (b9 : Int32) (bs1 : Nat → Int64), some (.int b9) = r ∧ zM g am f (o_kind σ p0).2.2 bs1 (o_kind σ p0).1 L f1 ∧ ((o_kind σ p0).1 = 0 → b9 = (o_kind σ p0).2.1)) zNo := by
  refine z_ofW (cc := cX2_kind) (maxL := 2) (ret := (some .char)) (by decide) rfl (Nat.le_of_ble_eq_true rfl) ?_
  intro p e s m args below meth c ls A hx hb hr hts hown hlocks hml htab hin hw hX hl
  have hl : lv_has ls 2 [(0, .ref (am 0)), (1, .int p0)] := hl
  have hown : s.vm.findClass RX2 = some m.cls := hown
  refine lv_aload_n hx hb dX2_kind_0 rfl (lv_at hl 0 rfl) ?_
  refine lv_iload_n hx hb dX2_kind_1 rfl (lv_at hl 1 rfl) ?_
  refine lv_iconst (v := 0) hx hb dX2_kind_2 (by decide) ?_
  refine lv_bipush (v := 7) hx hb dX2_kind_3 (by decide) ?_
  refine z_callS (As := [.int p0, .int 0, .int 7]) (rest := [.ref (am 0)]) ⟨hx, hb, hml, hown, hts⟩ hw hX (c_X2_in l g L f p0 0 7) (va_cwS 3 hts gX2_kind_X2_in rfl rfl rfl (by decide +kernel) ⟨(Nat.le_of_ble_eq_true rfl), (Nat.le_of_ble_eq_true rfl)⟩) rfl hl.1 rfl (Nat.le_of_ble_eq_true rfl) dX2_kind_5 ⟨(Nat.le_of_ble_eq_true rfl), (Nat.le_of_ble_eq_true rfl)⟩ (fun _ _ _ _ _ _ _ hp => False.elim hp) (fun r9 L9 f9 H locs hp hw => ?_)
  obtain ⟨rfl, rfl, rfl⟩ := hp
  refine W.eq (g2 := F0 m 8 ls [.int (zb (zin p0 0 7)), .ref (am 0)]) rfl ?_
  refine zr_bne hx hb dX2_kind_8 (tgt := 15) (by decide) (fun c_1 => ?_) (fun c_1 => ?_)
  · refine lv_iconst (v := 0) hx hb dX2_kind_15 (by decide) ?_
    refine zm_putT hx hb hts hi_X2_kind hown hw hm hf_X2_kind_48 dX2_kind_16 (fun f_2 H locs hm hw => ?_)
    refine lv_aload_n hx hb dX2_kind_19 rfl (lv_at hl 0 rfl) ?_
    refine zm_get (v := .int 0) hx hb hts hi_X2_kind hown hw hm 12 (by decide) hf_X2_kind_48 rfl dX2_kind_20 ?_
    refine lv_if_le (tgt := 31) hx hb dX2_kind_23 (by decide) (fun c_3 => ?_) (fun c_3 => absurd (by decide) c_3)
    refine lv_aload_n hx hb dX2_kind_31 rfl (lv_at hl 0 rfl) ?_
    refine zm_get (v := .ref (am 2)) hx hb hts hi_X2_kind hown hw hm 1 (by decide) hf_X2_kind_13 rfl dX2_kind_32 ?_
    refine lv_iload_n hx hb dX2_kind_35 rfl (lv_at hl 1 rfl) ?_
    refine zm_ldK hx hb hw hm (zin_7 (by assumption)) dX2_kind_36 ?_
    refine lv_if_ne (tgt := 45) hx hb dX2_kind_37 (by decide) (fun c_4 => ?_) (fun c_4 => ?_)
    · refine lv_aload_n hx hb dX2_kind_45 rfl (lv_at hl 0 rfl) ?_
      refine zm_get (v := .ref (am 2)) hx hb hts hi_X2_kind hown hw hm 1 (by decide) hf_X2_kind_13 rfl dX2_kind_46 ?_
      refine lv_iload_n hx hb dX2_kind_49 rfl (lv_at hl 1 rfl) ?_
      refine zm_ldK hx hb hw hm (zin_7 (by assumption)) dX2_kind_50 ?_
      refine lv_i2c (v := ((zK σ (Int32.toNatClampNeg p0)).toUInt32 % 65536).toInt32) hx hb dX2_kind_51 rfl ?_
      have ho : (o_kind σ p0) = (0, ((zK σ (Int32.toNatClampNeg p0)).toUInt32 % 65536).toInt32, σ) := by unfold o_kind; first | exact (if_pos (show (zin p0 0 7 = true) from by assumption)).trans (if_pos (show (zK σ (Int32.toNatClampNeg p0) = 0) from by assumption)) | exact (if_pos (show (zin p0 0 7 = true) from by assumption)).trans (if_neg (show ¬ (zK σ (Int32.toNatClampNeg p0) = 0) from by assumption))
      exact z_zret hx hb hr hlocks (pk_nc _) hw (Nat.le_of_ble_eq_true rfl) (Nat.le_of_ble_eq_true rfl) dX2_kind_52 ⟨rfl, _, _, rfl, by rw [ho]; exact hm, by rw [ho]; exact fun _ => rfl⟩
    · refine lv_bipush (v := 45) hx hb dX2_kind_40 (by decide) ?_
      refine lv_goto (tgt := 52) hx hb dX2_kind_42 (by decide) ?_
      have ho : (o_kind σ p0) = (0, 45, σ) := by unfold o_kind; first | exact (if_pos (show (zin p0 0 7 = true) from by assumption)).trans (if_pos (show (zK σ (Int32.toNatClampNeg p0) = 0) from by assumption)) | exact (if_pos (show (zin p0 0 7 = true) from by assumption)).trans (if_neg (show ¬ (zK σ (Int32.toNatClampNeg p0) = 0) from by assumption))
      exact z_zret hx hb hr hlocks rfl hw (Nat.le_of_ble_eq_true rfl) (Nat.le_of_ble_eq_true rfl) dX2_kind_52 ⟨rfl, _, _, rfl, by rw [ho]; exact hm, by rw [ho]; exact fun _ => rfl⟩
  · refine lv_iconst (v := 1) hx hb dX2_kind_11 (by decide) ?_
    refine lv_goto (tgt := 16) hx hb dX2_kind_12 (by decide) ?_
    refine zm_putT hx hb hts hi_X2_kind hown hw hm hf_X2_kind_48 dX2_kind_16 (fun f_5 H locs hm hw => ?_)
    refine lv_aload_n hx hb dX2_kind_19 rfl (lv_at hl 0 rfl) ?_
    refine zm_get (v := .int 1) hx hb hts hi_X2_kind hown hw hm 12 (by decide) hf_X2_kind_48 rfl dX2_kind_20 ?_
    refine lv_if_le (tgt := 31) hx hb dX2_kind_23 (by decide) (fun c_6 => absurd c_6 (by decide)) (fun c_6 => ?_)
    refine lv_bipush (v := 32) hx hb dX2_kind_26 (by decide) ?_
    refine lv_goto (tgt := 52) hx hb dX2_kind_28 (by decide) ?_
    have ho : (o_kind σ p0) = (1, 0, σ) := by unfold o_kind; first | exact if_neg (show ¬ (zin p0 0 7 = true) from by assumption)
    exact z_zret hx hb hr hlocks rfl hw (Nat.le_of_ble_eq_true rfl) (Nat.le_of_ble_eq_true rfl) dX2_kind_52 ⟨rfl, _, _, rfl, by rw [ho]; exact hm, by rw [ho]; exact fun h => absurd (show (1 : Int32) = 0 from h) (by decide)⟩

def o_capacity (σ : ZS) (p0 : Int32) : Int32 × Int32 × ZS := if zis σ p0 = true then (0, zSZ σ (Int32.toNatClampNeg p0), σ) else (1, 0, σ)

theorem hi_X2_capacity : ∀ w ∈ wsX20, w ∈ wsX2_capacity := by decide +kernel
theorem hf_X2_capacity_23 : Cond.fieldLink RX2 23 (TX2 4).1 (TX2 4).2.1 (TX2 4).2.2.1 ∈ wsX2_capacity := by decide +kernel
set_option maxRecDepth 100000 in
set_option maxHeartbeats 4000000 in
theorem c_X2_capacity (l : Launch) (g : zG) (am : Nat → Nat) (L : List Nat) (f : Nat → va_E) (σ : ZS) (bs : Nat → Int64) (th : Int32) (p0 : Int32) (hm : zM g am f σ bs th L f) {ln : Nat → Nat} {kd : Nat → Int32} (hI : zI σ ln kd) : zC l yX2_capacity wsX2_capacity { frames := 3, cells := 0, slots := 0, locals := 64 } 0 0 g [.ref (am 0), .int p0] L f (fun r L1 f1 => L = L1 ∧ ∃ (b9 : Int32) (bs1 : Nat → Int64), some (.int b9) = r ∧ zM g am f (o_capacity σ p0).2.2 bs1 (o_capacity σ p0).1 L f1 ∧ ((o_capacity σ p0).1 = 0 → b9 = (o_capacity σ p0).2.1)) zNo := by
  refine z_ofW (cc := cX2_capacity) (maxL := 2) (ret := (some .int)) (by decide) rfl (Nat.le_of_ble_eq_true rfl) ?_
  intro p e s m args below meth c ls A hx hb hr hts hown hlocks hml htab hin hw hX hl
  have hl : lv_has ls 2 [(0, .ref (am 0)), (1, .int p0)] := hl
  have hown : s.vm.findClass RX2 = some m.cls := hown
  refine lv_aload_n hx hb dX2_capacity_0 rfl (lv_at hl 0 rfl) ?_
  refine lv_iload_n hx hb dX2_capacity_1 rfl (lv_at hl 1 rfl) ?_
  refine z_callV (As := [.int p0]) (rest := []) ⟨hx, hb, hml, hown, hts⟩ hw hX (hm.1.1 0 (by decide)) rfl (c_X2_isWindow l g am L f σ bs th p0 hm.rf) (cwV 1 hts gX2_capacity_X2_isWindow rfl rfl rfl (by decide +kernel) ⟨(Nat.le_of_ble_eq_true rfl), (Nat.le_of_ble_eq_true rfl)⟩) rfl hl.1 rfl (Nat.le_of_ble_eq_true rfl) dX2_capacity_2 ⟨(Nat.le_of_ble_eq_true rfl), (Nat.le_of_ble_eq_true rfl)⟩ (fun _ _ _ _ _ _ _ hp => False.elim hp) (fun r9 L9 f9 H locs hp hw => ?_)
  rcases hp with ⟨c_1, rfl, rfl, hm9⟩ | ⟨c_1, rfl, rfl, hm9⟩
  · refine W.eq (g2 := F0 m 5 ls [.int 1]) rfl ?_
    have hm := hm.tr hm9
    refine lv_if_eq (tgt := 17) hx hb dX2_capacity_5 (by decide) (fun c_2 => absurd c_2 (by decide)) (fun c_2 => ?_)
    refine lv_aload_n hx hb dX2_capacity_8 rfl (lv_at hl 0 rfl) ?_
    refine zm_get (v := .ref (am 5)) hx hb hts hi_X2_capacity hown hw hm 4 (by decide) hf_X2_capacity_23 rfl dX2_capacity_9 ?_
    refine lv_iload_n hx hb dX2_capacity_12 rfl (lv_at hl 1 rfl) ?_
    refine zm_ldSZ hx hb hw hm (by first | assumption | exact zis_7 (by assumption) | exact zin_7 (by assumption) | exact zin_1 (by assumption)) dX2_capacity_13 ?_
    refine lv_goto (tgt := 18) hx hb dX2_capacity_14 (by decide) ?_
    have ho : (o_capacity σ p0) = (0, (zSZ σ (Int32.toNatClampNeg p0)), σ) := by unfold o_capacity; first | exact if_pos (show (zis σ p0 = true) from by assumption)
    exact z_iret hx hb hr hlocks hw (Nat.le_of_ble_eq_true rfl) (Nat.le_of_ble_eq_true rfl) dX2_capacity_18 ⟨rfl, _, _, rfl, by rw [ho]; exact hm, by rw [ho]; exact fun _ => rfl⟩
  · refine W.eq (g2 := F0 m 5 ls [.int 0]) rfl ?_
    have hm := hm.tr hm9
    refine lv_if_eq (tgt := 17) hx hb dX2_capacity_5 (by decide) (fun c_3 => ?_) (fun c_3 => absurd (by decide) c_3)
    refine lv_iconst (v := 0) hx hb dX2_capacity_17 (by decide) ?_
    have ho : (o_capacity σ p0) = (1, 0, σ) := by unfold o_capacity; first | exact if_neg (show ¬ (zis σ p0 = true) from by assumption)
    exact z_iret hx hb hr hlocks hw (Nat.le_of_ble_eq_true rfl) (Nat.le_of_ble_eq_true rfl) dX2_capacity_18 ⟨rfl, _, _, rfl, by rw [ho]; exact hm, by rw [ho]; exact fun h => absurd (show (1 : Int32) = 0 from h) (by decide)⟩

def o_place (σ : ZS) (p0 : Int32) : Int32 × Int32 × ZS := if zis σ p0 = true then (0, zPL σ (Int32.toNatClampNeg p0), σ) else (1, 0, σ)

theorem hi_X2_place : ∀ w ∈ wsX20, w ∈ wsX2_place := by decide +kernel
theorem hf_X2_place_26 : Cond.fieldLink RX2 26 (TX2 5).1 (TX2 5).2.1 (TX2 5).2.2.1 ∈ wsX2_place := by decide +kernel
set_option maxRecDepth 100000 in
set_option maxHeartbeats 4000000 in
theorem c_X2_place (l : Launch) (g : zG) (am : Nat → Nat) (L : List Nat) (f : Nat → va_E) (σ : ZS) (bs : Nat → Int64) (th : Int32) (p0 : Int32) (hm : zM g am f σ bs th L f) {ln : Nat → Nat} {kd : Nat → Int32} (hI : zI σ ln kd) : zC l yX2_place wsX2_place { frames := 3, cells := 0, slots := 0, locals := 64 } 0 0 g [.ref (am 0), .int p0] L f (fun r L1 f1 => L = L1 ∧ ∃ (b9 : Int32) (bs1 : Nat → Int64), some (.int b9) = r ∧ zM g am f (o_place σ p0).2.2 bs1 (o_place σ p0).1 L f1 ∧ ((o_place σ p0).1 = 0 → b9 = (o_place σ p0).2.1)) zNo := by
  refine z_ofW (cc := cX2_place) (maxL := 2) (ret := (some .int)) (by decide) rfl (Nat.le_of_ble_eq_true rfl) ?_
  intro p e s m args below meth c ls A hx hb hr hts hown hlocks hml htab hin hw hX hl
  have hl : lv_has ls 2 [(0, .ref (am 0)), (1, .int p0)] := hl
  have hown : s.vm.findClass RX2 = some m.cls := hown
  refine lv_aload_n hx hb dX2_place_0 rfl (lv_at hl 0 rfl) ?_
  refine lv_iload_n hx hb dX2_place_1 rfl (lv_at hl 1 rfl) ?_
  refine z_callV (As := [.int p0]) (rest := []) ⟨hx, hb, hml, hown, hts⟩ hw hX (hm.1.1 0 (by decide)) rfl (c_X2_isWindow l g am L f σ bs th p0 hm.rf) (cwV 1 hts gX2_place_X2_isWindow rfl rfl rfl (by decide +kernel) ⟨(Nat.le_of_ble_eq_true rfl), (Nat.le_of_ble_eq_true rfl)⟩) rfl hl.1 rfl (Nat.le_of_ble_eq_true rfl) dX2_place_2 ⟨(Nat.le_of_ble_eq_true rfl), (Nat.le_of_ble_eq_true rfl)⟩ (fun _ _ _ _ _ _ _ hp => False.elim hp) (fun r9 L9 f9 H locs hp hw => ?_)
  rcases hp with ⟨c_1, rfl, rfl, hm9⟩ | ⟨c_1, rfl, rfl, hm9⟩
  · refine W.eq (g2 := F0 m 5 ls [.int 1]) rfl ?_
    have hm := hm.tr hm9
    refine lv_if_eq (tgt := 17) hx hb dX2_place_5 (by decide) (fun c_2 => absurd c_2 (by decide)) (fun c_2 => ?_)
    refine lv_aload_n hx hb dX2_place_8 rfl (lv_at hl 0 rfl) ?_
    refine zm_get (v := .ref (am 6)) hx hb hts hi_X2_place hown hw hm 5 (by decide) hf_X2_place_26 rfl dX2_place_9 ?_
    refine lv_iload_n hx hb dX2_place_12 rfl (lv_at hl 1 rfl) ?_
    refine zm_ldPL hx hb hw hm (by first | assumption | exact zis_7 (by assumption) | exact zin_7 (by assumption) | exact zin_1 (by assumption)) dX2_place_13 ?_
    refine lv_goto (tgt := 18) hx hb dX2_place_14 (by decide) ?_
    have ho : (o_place σ p0) = (0, (zPL σ (Int32.toNatClampNeg p0)), σ) := by unfold o_place; first | exact if_pos (show (zis σ p0 = true) from by assumption)
    exact z_iret hx hb hr hlocks hw (Nat.le_of_ble_eq_true rfl) (Nat.le_of_ble_eq_true rfl) dX2_place_18 ⟨rfl, _, _, rfl, by rw [ho]; exact hm, by rw [ho]; exact fun _ => rfl⟩
  · refine W.eq (g2 := F0 m 5 ls [.int 0]) rfl ?_
    have hm := hm.tr hm9
    refine lv_if_eq (tgt := 17) hx hb dX2_place_5 (by decide) (fun c_3 => ?_) (fun c_3 => absurd (by decide) c_3)
    refine lv_iconst (v := 0) hx hb dX2_place_17 (by decide) ?_
    have ho : (o_place σ p0) = (1, 0, σ) := by unfold o_place; first | exact if_neg (show ¬ (zis σ p0 = true) from by assumption)
    exact z_iret hx hb hr hlocks hw (Nat.le_of_ble_eq_true rfl) (Nat.le_of_ble_eq_true rfl) dX2_place_18 ⟨rfl, _, _, rfl, by rw [ho]; exact hm, by rw [ho]; exact fun h => absurd (show (1 : Int32) = 0 from h) (by decide)⟩

def o_end (σ : ZS) (p0 : Int32) : Int32 × Int32 × ZS := if zis σ p0 = true then (0, zEN σ (Int32.toNatClampNeg p0), σ) else (1, 0, σ)

theorem hi_X2_end : ∀ w ∈ wsX20, w ∈ wsX2_end := by decide +kernel
theorem hf_X2_end_29 : Cond.fieldLink RX2 29 (TX2 6).1 (TX2 6).2.1 (TX2 6).2.2.1 ∈ wsX2_end := by decide +kernel
set_option maxRecDepth 100000 in
set_option maxHeartbeats 4000000 in
theorem c_X2_end (l : Launch) (g : zG) (am : Nat → Nat) (L : List Nat) (f : Nat → va_E) (σ : ZS) (bs : Nat → Int64) (th : Int32) (p0 : Int32) (hm : zM g am f σ bs th L f) {ln : Nat → Nat} {kd : Nat → Int32} (hI : zI σ ln kd) : zC l yX2_end wsX2_end { frames := 3, cells := 0, slots := 0, locals := 64 } 0 0 g [.ref (am 0), .int p0] L f (fun r L1 f1 => L = L1 ∧ ∃ (b9 : Int32) (bs1 : Nat → Int64), some (.int b9) = r ∧ zM g am f (o_end σ p0).2.2 bs1 (o_end σ p0).1 L f1 ∧ ((o_end σ p0).1 = 0 → b9 = (o_end σ p0).2.1)) zNo := by
  refine z_ofW (cc := cX2_end) (maxL := 2) (ret := (some .int)) (by decide) rfl (Nat.le_of_ble_eq_true rfl) ?_
  intro p e s m args below meth c ls A hx hb hr hts hown hlocks hml htab hin hw hX hl
  have hl : lv_has ls 2 [(0, .ref (am 0)), (1, .int p0)] := hl
  have hown : s.vm.findClass RX2 = some m.cls := hown
  refine lv_aload_n hx hb dX2_end_0 rfl (lv_at hl 0 rfl) ?_
  refine lv_iload_n hx hb dX2_end_1 rfl (lv_at hl 1 rfl) ?_
  refine z_callV (As := [.int p0]) (rest := []) ⟨hx, hb, hml, hown, hts⟩ hw hX (hm.1.1 0 (by decide)) rfl (c_X2_isWindow l g am L f σ bs th p0 hm.rf) (cwV 1 hts gX2_end_X2_isWindow rfl rfl rfl (by decide +kernel) ⟨(Nat.le_of_ble_eq_true rfl), (Nat.le_of_ble_eq_true rfl)⟩) rfl hl.1 rfl (Nat.le_of_ble_eq_true rfl) dX2_end_2 ⟨(Nat.le_of_ble_eq_true rfl), (Nat.le_of_ble_eq_true rfl)⟩ (fun _ _ _ _ _ _ _ hp => False.elim hp) (fun r9 L9 f9 H locs hp hw => ?_)
  rcases hp with ⟨c_1, rfl, rfl, hm9⟩ | ⟨c_1, rfl, rfl, hm9⟩
  · refine W.eq (g2 := F0 m 5 ls [.int 1]) rfl ?_
    have hm := hm.tr hm9
    refine lv_if_eq (tgt := 17) hx hb dX2_end_5 (by decide) (fun c_2 => absurd c_2 (by decide)) (fun c_2 => ?_)
    refine lv_aload_n hx hb dX2_end_8 rfl (lv_at hl 0 rfl) ?_
    refine zm_get (v := .ref (am 7)) hx hb hts hi_X2_end hown hw hm 6 (by decide) hf_X2_end_29 rfl dX2_end_9 ?_
    refine lv_iload_n hx hb dX2_end_12 rfl (lv_at hl 1 rfl) ?_
    refine zm_ldEN hx hb hw hm (by first | assumption | exact zis_7 (by assumption) | exact zin_7 (by assumption) | exact zin_1 (by assumption)) dX2_end_13 ?_
    refine lv_goto (tgt := 18) hx hb dX2_end_14 (by decide) ?_
    have ho : (o_end σ p0) = (0, (zEN σ (Int32.toNatClampNeg p0)), σ) := by unfold o_end; first | exact if_pos (show (zis σ p0 = true) from by assumption)
    exact z_iret hx hb hr hlocks hw (Nat.le_of_ble_eq_true rfl) (Nat.le_of_ble_eq_true rfl) dX2_end_18 ⟨rfl, _, _, rfl, by rw [ho]; exact hm, by rw [ho]; exact fun _ => rfl⟩
  · refine W.eq (g2 := F0 m 5 ls [.int 0]) rfl ?_
    have hm := hm.tr hm9
    refine lv_if_eq (tgt := 17) hx hb dX2_end_5 (by decide) (fun c_3 => ?_) (fun c_3 => absurd (by decide) c_3)
    refine lv_iconst (v := 0) hx hb dX2_end_17 (by decide) ?_
    have ho : (o_end σ p0) = (1, 0, σ) := by unfold o_end; first | exact if_neg (show ¬ (zis σ p0 = true) from by assumption)
    exact z_iret hx hb hr hlocks hw (Nat.le_of_ble_eq_true rfl) (Nat.le_of_ble_eq_true rfl) dX2_end_18 ⟨rfl, _, _, rfl, by rw [ho]; exact hm, by rw [ho]; exact fun h => absurd (show (1 : Int32) = 0 from h) (by decide)⟩

def o_left (σ : ZS) (p0 : Int32) : Int32 × Int32 × ZS := if zis σ p0 = true then (0, zEN σ (Int32.toNatClampNeg p0) - zPL σ (Int32.toNatClampNeg p0), σ) else (1, 0, σ)

theorem hi_X2_left : ∀ w ∈ wsX20, w ∈ wsX2_left := by decide +kernel
theorem hf_X2_left_26 : Cond.fieldLink RX2 26 (TX2 5).1 (TX2 5).2.1 (TX2 5).2.2.1 ∈ wsX2_left := by decide +kernel
theorem hf_X2_left_29 : Cond.fieldLink RX2 29 (TX2 6).1 (TX2 6).2.1 (TX2 6).2.2.1 ∈ wsX2_left := by decide +kernel
set_option maxRecDepth 100000 in
set_option maxHeartbeats 4000000 in
theorem c_X2_left (l : Launch) (g : zG) (am : Nat → Nat) (L : List Nat) (f : Nat → va_E) (σ : ZS) (bs : Nat → Int64) (th : Int32) (p0 : Int32) (hm : zM g am f σ bs th L f) {ln : Nat → Nat} {kd : Nat → Int32} (hI : zI σ ln kd) : zC l yX2_left wsX2_left { frames := 3, cells := 0, slots := 0, locals := 64 } 0 0 g [.ref (am 0), .int p0] L f (fun r L1 f1 => L = L1 ∧ ∃ (b9 : Int32) (bs1 : Nat → Int64), some (.int b9) = r ∧ zM g am f (o_left σ p0).2.2 bs1 (o_left σ p0).1 L f1 ∧ ((o_left σ p0).1 = 0 → b9 = (o_left σ p0).2.1)) zNo := by
  refine z_ofW (cc := cX2_left) (maxL := 2) (ret := (some .int)) (by decide) rfl (Nat.le_of_ble_eq_true rfl) ?_
  intro p e s m args below meth c ls A hx hb hr hts hown hlocks hml htab hin hw hX hl
  have hl : lv_has ls 2 [(0, .ref (am 0)), (1, .int p0)] := hl
  have hown : s.vm.findClass RX2 = some m.cls := hown
  refine lv_aload_n hx hb dX2_left_0 rfl (lv_at hl 0 rfl) ?_
  refine lv_iload_n hx hb dX2_left_1 rfl (lv_at hl 1 rfl) ?_
  refine z_callV (As := [.int p0]) (rest := []) ⟨hx, hb, hml, hown, hts⟩ hw hX (hm.1.1 0 (by decide)) rfl (c_X2_isWindow l g am L f σ bs th p0 hm.rf) (cwV 1 hts gX2_left_X2_isWindow rfl rfl rfl (by decide +kernel) ⟨(Nat.le_of_ble_eq_true rfl), (Nat.le_of_ble_eq_true rfl)⟩) rfl hl.1 rfl (Nat.le_of_ble_eq_true rfl) dX2_left_2 ⟨(Nat.le_of_ble_eq_true rfl), (Nat.le_of_ble_eq_true rfl)⟩ (fun _ _ _ _ _ _ _ hp => False.elim hp) (fun r9 L9 f9 H locs hp hw => ?_)
  rcases hp with ⟨c_1, rfl, rfl, hm9⟩ | ⟨c_1, rfl, rfl, hm9⟩
  · refine W.eq (g2 := F0 m 5 ls [.int 1]) rfl ?_
    have hm := hm.tr hm9
    refine lv_if_eq (tgt := 24) hx hb dX2_left_5 (by decide) (fun c_2 => absurd c_2 (by decide)) (fun c_2 => ?_)
    refine lv_aload_n hx hb dX2_left_8 rfl (lv_at hl 0 rfl) ?_
    refine zm_get (v := .ref (am 7)) hx hb hts hi_X2_left hown hw hm 6 (by decide) hf_X2_left_29 rfl dX2_left_9 ?_
    refine lv_iload_n hx hb dX2_left_12 rfl (lv_at hl 1 rfl) ?_
    refine zm_ldEN hx hb hw hm (by first | assumption | exact zis_7 (by assumption) | exact zin_7 (by assumption) | exact zin_1 (by assumption)) dX2_left_13 ?_
    refine lv_aload_n hx hb dX2_left_14 rfl (lv_at hl 0 rfl) ?_
    refine zm_get (v := .ref (am 6)) hx hb hts hi_X2_left hown hw hm 5 (by decide) hf_X2_left_26 rfl dX2_left_15 ?_
    refine lv_iload_n hx hb dX2_left_18 rfl (lv_at hl 1 rfl) ?_
    refine zm_ldPL hx hb hw hm (by first | assumption | exact zis_7 (by assumption) | exact zin_7 (by assumption) | exact zin_1 (by assumption)) dX2_left_19 ?_
    refine lv_isub hx hb dX2_left_20 ?_
    refine lv_goto (tgt := 25) hx hb dX2_left_21 (by decide) ?_
    have ho : (o_left σ p0) = (0, ((zEN σ (Int32.toNatClampNeg p0)) - (zPL σ (Int32.toNatClampNeg p0))), σ) := by unfold o_left; first | exact if_pos (show (zis σ p0 = true) from by assumption)
    exact z_iret hx hb hr hlocks hw (Nat.le_of_ble_eq_true rfl) (Nat.le_of_ble_eq_true rfl) dX2_left_25 ⟨rfl, _, _, rfl, by rw [ho]; exact hm, by rw [ho]; exact fun _ => rfl⟩
  · refine W.eq (g2 := F0 m 5 ls [.int 0]) rfl ?_
    have hm := hm.tr hm9
    refine lv_if_eq (tgt := 24) hx hb dX2_left_5 (by decide) (fun c_3 => ?_) (fun c_3 => absurd (by decide) c_3)
    refine lv_iconst (v := 0) hx hb dX2_left_24 (by decide) ?_
    have ho : (o_left σ p0) = (1, 0, σ) := by unfold o_left; first | exact if_neg (show ¬ (zis σ p0 = true) from by assumption)
    exact z_iret hx hb hr hlocks hw (Nat.le_of_ble_eq_true rfl) (Nat.le_of_ble_eq_true rfl) dX2_left_25 ⟨rfl, _, _, rfl, by rw [ho]; exact hm, by rw [ho]; exact fun h => absurd (show (1 : Int32) = 0 from h) (by decide)⟩

def o_hasLeft (σ : ZS) (p0 : Int32) : Int32 × Int32 × ZS := if zis σ p0 = true then if zEN σ (Int32.toNatClampNeg p0) ≤ zPL σ (Int32.toNatClampNeg p0) then (0, 0, σ) else (0, 1, σ) else (1, 0, σ)

theorem hi_X2_hasLeft : ∀ w ∈ wsX20, w ∈ wsX2_hasLeft := by decide +kernel
theorem hf_X2_hasLeft_26 : Cond.fieldLink RX2 26 (TX2 5).1 (TX2 5).2.1 (TX2 5).2.2.1 ∈ wsX2_hasLeft := by decide +kernel
theorem hf_X2_hasLeft_29 : Cond.fieldLink RX2 29 (TX2 6).1 (TX2 6).2.1 (TX2 6).2.2.1 ∈ wsX2_hasLeft := by decide +kernel
set_option maxRecDepth 100000 in
set_option maxHeartbeats 4000000 in
theorem c_X2_hasLeft (l : Launch) (g : zG) (am : Nat → Nat) (L : List Nat) (f : Nat → va_E) (σ : ZS) (bs : Nat → Int64) (th : Int32) (p0 : Int32) (hm : zM g am f σ bs th L f) {ln : Nat → Nat} {kd : Nat → Int32} (hI : zI σ ln kd) : zC l yX2_hasLeft wsX2_hasLeft { frames := 3, cells := 0, slots := 0, locals := 64 } 0 0 g [.ref (am 0), .int p0] L f (fun r L1 f1 => L = L1 ∧ ∃ (b9 : Int32) (bs1 : Nat → Int64), some (.int b9) = r ∧ zM g am f (o_hasLeft σ p0).2.2 bs1 (o_hasLeft σ p0).1 L f1 ∧ ((o_hasLeft σ p0).1 = 0 → b9 = (o_hasLeft σ p0).2.1)) zNo := by
  refine z_ofW (cc := cX2_hasLeft) (maxL := 2) (ret := (some .boolean)) (by decide) rfl (Nat.le_of_ble_eq_true rfl) ?_
  intro p e s m args below meth c ls A hx hb hr hts hown hlocks hml htab hin hw hX hl
  have hl : lv_has ls 2 [(0, .ref (am 0)), (1, .int p0)] := hl
  have hown : s.vm.findClass RX2 = some m.cls := hown
  refine lv_aload_n hx hb dX2_hasLeft_0 rfl (lv_at hl 0 rfl) ?_
  refine lv_iload_n hx hb dX2_hasLeft_1 rfl (lv_at hl 1 rfl) ?_
  refine z_callV (As := [.int p0]) (rest := []) ⟨hx, hb, hml, hown, hts⟩ hw hX (hm.1.1 0 (by decide)) rfl (c_X2_isWindow l g am L f σ bs th p0 hm.rf) (cwV 1 hts gX2_hasLeft_X2_isWindow rfl rfl rfl (by decide +kernel) ⟨(Nat.le_of_ble_eq_true rfl), (Nat.le_of_ble_eq_true rfl)⟩) rfl hl.1 rfl (Nat.le_of_ble_eq_true rfl) dX2_hasLeft_2 ⟨(Nat.le_of_ble_eq_true rfl), (Nat.le_of_ble_eq_true rfl)⟩ (fun _ _ _ _ _ _ _ hp => False.elim hp) (fun r9 L9 f9 H locs hp hw => ?_)
  rcases hp with ⟨c_1, rfl, rfl, hm9⟩ | ⟨c_1, rfl, rfl, hm9⟩
  · refine W.eq (g2 := F0 m 5 ls [.int 1]) rfl ?_
    have hm := hm.tr hm9
    refine lv_if_eq (tgt := 27) hx hb dX2_hasLeft_5 (by decide) (fun c_2 => absurd c_2 (by decide)) (fun c_2 => ?_)
    refine lv_aload_n hx hb dX2_hasLeft_8 rfl (lv_at hl 0 rfl) ?_
    refine zm_get (v := .ref (am 7)) hx hb hts hi_X2_hasLeft hown hw hm 6 (by decide) hf_X2_hasLeft_29 rfl dX2_hasLeft_9 ?_
    refine lv_iload_n hx hb dX2_hasLeft_12 rfl (lv_at hl 1 rfl) ?_
    refine zm_ldEN hx hb hw hm (by first | assumption | exact zis_7 (by assumption) | exact zin_7 (by assumption) | exact zin_1 (by assumption)) dX2_hasLeft_13 ?_
    refine lv_aload_n hx hb dX2_hasLeft_14 rfl (lv_at hl 0 rfl) ?_
    refine zm_get (v := .ref (am 6)) hx hb hts hi_X2_hasLeft hown hw hm 5 (by decide) hf_X2_hasLeft_26 rfl dX2_hasLeft_15 ?_
    refine lv_iload_n hx hb dX2_hasLeft_18 rfl (lv_at hl 1 rfl) ?_
    refine zm_ldPL hx hb hw hm (by first | assumption | exact zis_7 (by assumption) | exact zin_7 (by assumption) | exact zin_1 (by assumption)) dX2_hasLeft_19 ?_
    refine lv_icmp_le (tgt := 27) hx hb dX2_hasLeft_20 (by decide) (fun c_3 => ?_) (fun c_3 => ?_)
    · refine lv_iconst (v := 0) hx hb dX2_hasLeft_27 (by decide) ?_
      have ho : (o_hasLeft σ p0) = (0, 0, σ) := by unfold o_hasLeft; first | exact (if_pos (show (zis σ p0 = true) from by assumption)).trans (if_pos (show (zEN σ (Int32.toNatClampNeg p0) ≤ zPL σ (Int32.toNatClampNeg p0)) from by assumption))
      exact z_zret hx hb hr hlocks rfl hw (Nat.le_of_ble_eq_true rfl) (Nat.le_of_ble_eq_true rfl) dX2_hasLeft_28 ⟨rfl, _, _, rfl, by rw [ho]; exact hm, by rw [ho]; exact fun _ => rfl⟩
    · refine lv_iconst (v := 1) hx hb dX2_hasLeft_23 (by decide) ?_
      refine lv_goto (tgt := 28) hx hb dX2_hasLeft_24 (by decide) ?_
      have ho : (o_hasLeft σ p0) = (0, 1, σ) := by unfold o_hasLeft; first | exact (if_pos (show (zis σ p0 = true) from by assumption)).trans (if_neg (show ¬ (zEN σ (Int32.toNatClampNeg p0) ≤ zPL σ (Int32.toNatClampNeg p0)) from by assumption))
      exact z_zret hx hb hr hlocks rfl hw (Nat.le_of_ble_eq_true rfl) (Nat.le_of_ble_eq_true rfl) dX2_hasLeft_28 ⟨rfl, _, _, rfl, by rw [ho]; exact hm, by rw [ho]; exact fun _ => rfl⟩
  · refine W.eq (g2 := F0 m 5 ls [.int 0]) rfl ?_
    have hm := hm.tr hm9
    refine lv_if_eq (tgt := 27) hx hb dX2_hasLeft_5 (by decide) (fun c_4 => ?_) (fun c_4 => absurd (by decide) c_4)
    refine lv_iconst (v := 0) hx hb dX2_hasLeft_27 (by decide) ?_
    have ho : (o_hasLeft σ p0) = (1, 0, σ) := by unfold o_hasLeft; first | exact if_neg (show ¬ (zis σ p0 = true) from by assumption)
    exact z_zret hx hb hr hlocks rfl hw (Nat.le_of_ble_eq_true rfl) (Nat.le_of_ble_eq_true rfl) dX2_hasLeft_28 ⟨rfl, _, _, rfl, by rw [ho]; exact hm, by rw [ho]; exact fun h => absurd (show (1 : Int32) = 0 from h) (by decide)⟩

def o_isReadOnly (σ : ZS) (p0 : Int32) : Int32 × Int32 × ZS := if zis σ p0 = true then if zRD σ (Int32.toNatClampNeg p0) = 0 then (0, 0, σ) else (0, 1, σ) else (1, 0, σ)

theorem hi_X2_isReadOnly : ∀ w ∈ wsX20, w ∈ wsX2_isReadOnly := by decide +kernel
theorem hf_X2_isReadOnly_35 : Cond.fieldLink RX2 35 (TX2 8).1 (TX2 8).2.1 (TX2 8).2.2.1 ∈ wsX2_isReadOnly := by decide +kernel
set_option maxRecDepth 100000 in
set_option maxHeartbeats 4000000 in
theorem c_X2_isReadOnly (l : Launch) (g : zG) (am : Nat → Nat) (L : List Nat) (f : Nat → va_E) (σ : ZS) (bs : Nat → Int64) (th : Int32) (p0 : Int32) (hm : zM g am f σ bs th L f) {ln : Nat → Nat} {kd : Nat → Int32} (hI : zI σ ln kd) : zC l yX2_isReadOnly wsX2_isReadOnly { frames := 3, cells := 0, slots := 0, locals := 64 } 0 0 g [.ref (am 0), .int p0] L f (fun r L1 f1 => L = L1 ∧ ∃ (b9 : Int32) (bs1 : Nat → Int64), some (.int b9) = r ∧ zM g am f (o_isReadOnly σ p0).2.2 bs1 (o_isReadOnly σ p0).1 L f1 ∧ ((o_isReadOnly σ p0).1 = 0 → b9 = (o_isReadOnly σ p0).2.1)) zNo := by
  refine z_ofW (cc := cX2_isReadOnly) (maxL := 2) (ret := (some .boolean)) (by decide) rfl (Nat.le_of_ble_eq_true rfl) ?_
  intro p e s m args below meth c ls A hx hb hr hts hown hlocks hml htab hin hw hX hl
  have hl : lv_has ls 2 [(0, .ref (am 0)), (1, .int p0)] := hl
  have hown : s.vm.findClass RX2 = some m.cls := hown
  refine lv_aload_n hx hb dX2_isReadOnly_0 rfl (lv_at hl 0 rfl) ?_
  refine lv_iload_n hx hb dX2_isReadOnly_1 rfl (lv_at hl 1 rfl) ?_
  refine z_callV (As := [.int p0]) (rest := []) ⟨hx, hb, hml, hown, hts⟩ hw hX (hm.1.1 0 (by decide)) rfl (c_X2_isWindow l g am L f σ bs th p0 hm.rf) (cwV 1 hts gX2_isReadOnly_X2_isWindow rfl rfl rfl (by decide +kernel) ⟨(Nat.le_of_ble_eq_true rfl), (Nat.le_of_ble_eq_true rfl)⟩) rfl hl.1 rfl (Nat.le_of_ble_eq_true rfl) dX2_isReadOnly_2 ⟨(Nat.le_of_ble_eq_true rfl), (Nat.le_of_ble_eq_true rfl)⟩ (fun _ _ _ _ _ _ _ hp => False.elim hp) (fun r9 L9 f9 H locs hp hw => ?_)
  rcases hp with ⟨c_1, rfl, rfl, hm9⟩ | ⟨c_1, rfl, rfl, hm9⟩
  · refine W.eq (g2 := F0 m 5 ls [.int 1]) rfl ?_
    have hm := hm.tr hm9
    refine lv_if_eq (tgt := 21) hx hb dX2_isReadOnly_5 (by decide) (fun c_2 => absurd c_2 (by decide)) (fun c_2 => ?_)
    refine lv_aload_n hx hb dX2_isReadOnly_8 rfl (lv_at hl 0 rfl) ?_
    refine zm_get (v := .ref (am 9)) hx hb hts hi_X2_isReadOnly hown hw hm 8 (by decide) hf_X2_isReadOnly_35 rfl dX2_isReadOnly_9 ?_
    refine lv_iload_n hx hb dX2_isReadOnly_12 rfl (lv_at hl 1 rfl) ?_
    refine zm_ldRD hx hb hw hm (by first | assumption | exact zis_7 (by assumption) | exact zin_7 (by assumption) | exact zin_1 (by assumption)) dX2_isReadOnly_13 ?_
    refine lv_if_eq (tgt := 21) hx hb dX2_isReadOnly_14 (by decide) (fun c_3 => ?_) (fun c_3 => ?_)
    · refine lv_iconst (v := 0) hx hb dX2_isReadOnly_21 (by decide) ?_
      have ho : (o_isReadOnly σ p0) = (0, 0, σ) := by unfold o_isReadOnly; first | exact (if_pos (show (zis σ p0 = true) from by assumption)).trans (if_pos (show (zRD σ (Int32.toNatClampNeg p0) = 0) from by assumption))
      exact z_zret hx hb hr hlocks rfl hw (Nat.le_of_ble_eq_true rfl) (Nat.le_of_ble_eq_true rfl) dX2_isReadOnly_22 ⟨rfl, _, _, rfl, by rw [ho]; exact hm, by rw [ho]; exact fun _ => rfl⟩
    · refine lv_iconst (v := 1) hx hb dX2_isReadOnly_17 (by decide) ?_
      refine lv_goto (tgt := 22) hx hb dX2_isReadOnly_18 (by decide) ?_
      have ho : (o_isReadOnly σ p0) = (0, 1, σ) := by unfold o_isReadOnly; first | exact (if_pos (show (zis σ p0 = true) from by assumption)).trans (if_neg (show ¬ (zRD σ (Int32.toNatClampNeg p0) = 0) from by assumption))
      exact z_zret hx hb hr hlocks rfl hw (Nat.le_of_ble_eq_true rfl) (Nat.le_of_ble_eq_true rfl) dX2_isReadOnly_22 ⟨rfl, _, _, rfl, by rw [ho]; exact hm, by rw [ho]; exact fun _ => rfl⟩
  · refine W.eq (g2 := F0 m 5 ls [.int 0]) rfl ?_
    have hm := hm.tr hm9
    refine lv_if_eq (tgt := 21) hx hb dX2_isReadOnly_5 (by decide) (fun c_4 => ?_) (fun c_4 => absurd (by decide) c_4)
    refine lv_iconst (v := 0) hx hb dX2_isReadOnly_21 (by decide) ?_
    have ho : (o_isReadOnly σ p0) = (1, 0, σ) := by unfold o_isReadOnly; first | exact if_neg (show ¬ (zis σ p0 = true) from by assumption)
    exact z_zret hx hb hr hlocks rfl hw (Nat.le_of_ble_eq_true rfl) (Nat.le_of_ble_eq_true rfl) dX2_isReadOnly_22 ⟨rfl, _, _, rfl, by rw [ho]; exact hm, by rw [ho]; exact fun h => absurd (show (1 : Int32) = 0 from h) (by decide)⟩

def o_placeAt (σ : ZS) (p0 : Int32) (p1 : Int32) : Int32 × Int32 × ZS := if zis σ p0 = true then if zin p1 0 (zEN σ (Int32.toNatClampNeg p0)) = true then if zMK σ (Int32.toNatClampNeg p0) ≤ p1 then (0, zPL σ (Int32.toNatClampNeg p0), zsMK (zsPL σ (upd (zPL σ) (Int32.toNatClampNeg p0) p1)) (upd (zMK σ) (Int32.toNatClampNeg p0) (zMK σ (Int32.toNatClampNeg p0)))) else (0, zPL σ (Int32.toNatClampNeg p0), zsMK (zsPL σ (upd (zPL σ) (Int32.toNatClampNeg p0) p1)) (upd (zMK σ) (Int32.toNatClampNeg p0) (-1))) else (2, 0, σ) else (1, 0, σ)

theorem hi_X2_placeAt : ∀ w ∈ wsX20, w ∈ wsX2_placeAt := by decide +kernel
theorem hf_X2_placeAt_26 : Cond.fieldLink RX2 26 (TX2 5).1 (TX2 5).2.1 (TX2 5).2.2.1 ∈ wsX2_placeAt := by decide +kernel
theorem hf_X2_placeAt_29 : Cond.fieldLink RX2 29 (TX2 6).1 (TX2 6).2.1 (TX2 6).2.2.1 ∈ wsX2_placeAt := by decide +kernel
theorem hf_X2_placeAt_32 : Cond.fieldLink RX2 32 (TX2 7).1 (TX2 7).2.1 (TX2 7).2.2.1 ∈ wsX2_placeAt := by decide +kernel
theorem hf_X2_placeAt_48 : Cond.fieldLink RX2 48 (TX2 12).1 (TX2 12).2.1 (TX2 12).2.2.1 ∈ wsX2_placeAt := by decide +kernel
set_option maxRecDepth 100000 in
set_option maxHeartbeats 4000000 in
theorem c_X2_placeAt (l : Launch) (g : zG) (am : Nat → Nat) (L : List Nat) (f : Nat → va_E) (σ : ZS) (bs : Nat → Int64) (th : Int32) (p0 : Int32) (p1 : Int32) (hm : zM g am f σ bs th L f) {ln : Nat → Nat} {kd : Nat → Int32} (hI : zI σ ln kd) : zC l yX2_placeAt wsX2_placeAt { frames := 2, cells := 0, slots := 0, locals := 43 } 0 0 g [.ref (am 0), .int p0, .int p1] L f (fun r L1 f1 => L = L1 ∧ ∃ (b9 : Int32) (bs1 : Nat → Int64), some (.int b9) = r ∧ zM g am f (o_placeAt σ p0 p1).2.2 bs1 (o_placeAt σ p0 p1).1 L f1 ∧ ((o_placeAt σ p0 p1).1 = 0 → b9 = (o_placeAt σ p0 p1).2.1)) zNo := by
  refine z_ofW (cc := cX2_placeAt) (maxL := 4) (ret := (some .int)) (by decide) rfl (Nat.le_of_ble_eq_true rfl) ?_
  intro p e s m args below meth c ls A hx hb hr hts hown hlocks hml htab hin hw hX hl
  have hl : lv_has ls 4 [(0, .ref (am 0)), (1, .int p0), (2, .int p1)] := hl
  have hown : s.vm.findClass RX2 = some m.cls := hown
  refine lv_aload_n hx hb dX2_placeAt_0 rfl (lv_at hl 0 rfl) ?_
  refine lv_aload_n hx hb dX2_placeAt_1 rfl (lv_at hl 0 rfl) ?_
  refine lv_iload_n hx hb dX2_placeAt_2 rfl (lv_at hl 1 rfl) ?_
  refine z_callV (As := [.int p0]) (rest := [.ref (am 0)]) ⟨hx, hb, hml, hown, hts⟩ hw hX (hm.1.1 0 (by decide)) rfl (c_X2_is l g am L f σ bs th p0 hm.rf) (cwV 1 hts gX2_placeAt_X2_is rfl rfl rfl (by decide +kernel) ⟨(Nat.le_of_ble_eq_true rfl), (Nat.le_of_ble_eq_true rfl)⟩) rfl hl.1 rfl (Nat.le_of_ble_eq_true rfl) dX2_placeAt_3 ⟨(Nat.le_of_ble_eq_true rfl), (Nat.le_of_ble_eq_true rfl)⟩ (fun _ _ _ _ _ _ _ hp => False.elim hp) (fun r9 L9 f9 H locs hp hw => ?_)
  obtain ⟨rfl, rfl, rfl⟩ := hp
  refine W.eq (g2 := F0 m 6 ls [.int (zb (zis σ p0)), .ref (am 0)]) rfl ?_
  refine zr_bne hx hb dX2_placeAt_6 (tgt := 13) (by decide) (fun c_1 => ?_) (fun c_1 => ?_)
  · refine lv_iload_n hx hb dX2_placeAt_13 rfl (lv_at hl 2 rfl) ?_
    refine lv_iconst (v := 0) hx hb dX2_placeAt_14 (by decide) ?_
    refine lv_aload_n hx hb dX2_placeAt_15 rfl (lv_at hl 0 rfl) ?_
    refine zm_get (v := .ref (am 7)) hx hb hts hi_X2_placeAt hown hw hm 6 (by decide) hf_X2_placeAt_29 rfl dX2_placeAt_16 ?_
    refine lv_iload_n hx hb dX2_placeAt_19 rfl (lv_at hl 1 rfl) ?_
    refine zm_ldEN hx hb hw hm (by first | assumption | exact zis_7 (by assumption) | exact zin_7 (by assumption) | exact zin_1 (by assumption)) dX2_placeAt_20 ?_
    refine z_callS (As := [.int p1, .int 0, .int (zEN σ (Int32.toNatClampNeg p0))]) (rest := [.ref (am 0)]) ⟨hx, hb, hml, hown, hts⟩ hw hX (c_X2_in l g L f p1 0 (zEN σ (Int32.toNatClampNeg p0))) (va_cwS 3 hts gX2_placeAt_X2_in rfl rfl rfl (by decide +kernel) ⟨(Nat.le_of_ble_eq_true rfl), (Nat.le_of_ble_eq_true rfl)⟩) rfl hl.1 rfl (Nat.le_of_ble_eq_true rfl) dX2_placeAt_21 ⟨(Nat.le_of_ble_eq_true rfl), (Nat.le_of_ble_eq_true rfl)⟩ (fun _ _ _ _ _ _ _ hp => False.elim hp) (fun r9 L9 f9 H locs hp hw => ?_)
    obtain ⟨rfl, rfl, rfl⟩ := hp
    refine W.eq (g2 := F0 m 24 ls [.int (zb (zin p1 0 (zEN σ (Int32.toNatClampNeg p0)))), .ref (am 0)]) rfl ?_
    refine zr_bne hx hb dX2_placeAt_24 (tgt := 31) (by decide) (fun c_2 => ?_) (fun c_2 => ?_)
    · refine lv_iconst (v := 0) hx hb dX2_placeAt_31 (by decide) ?_
      refine zm_putT hx hb hts hi_X2_placeAt hown hw hm hf_X2_placeAt_48 dX2_placeAt_32 (fun f_3 H locs hm hw => ?_)
      refine lv_aload_n hx hb dX2_placeAt_35 rfl (lv_at hl 0 rfl) ?_
      refine zm_get (v := .int 0) hx hb hts hi_X2_placeAt hown hw hm 12 (by decide) hf_X2_placeAt_48 rfl dX2_placeAt_36 ?_
      refine lv_if_le (tgt := 44) hx hb dX2_placeAt_39 (by decide) (fun c_4 => ?_) (fun c_4 => absurd (by decide) c_4)
      refine lv_aload_n hx hb dX2_placeAt_44 rfl (lv_at hl 0 rfl) ?_
      refine zm_get (v := .ref (am 6)) hx hb hts hi_X2_placeAt hown hw hm 5 (by decide) hf_X2_placeAt_26 rfl dX2_placeAt_45 ?_
      refine lv_iload_n hx hb dX2_placeAt_48 rfl (lv_at hl 1 rfl) ?_
      refine zm_ldPL hx hb hw hm (by first | assumption | exact zis_7 (by assumption) | exact zin_7 (by assumption) | exact zin_1 (by assumption)) dX2_placeAt_49 ?_
      refine lv_istore_n (lv' := [(3, .int (zPL σ (Int32.toNatClampNeg p0))), (0, .ref (am 0)), (1, .int p0), (2, .int p1)]) hx hb dX2_placeAt_50 rfl hl (by decide) rfl (fun ls hl => ?_)
      refine lv_aload_n hx hb dX2_placeAt_51 rfl (lv_at hl 1 rfl) ?_
      refine zm_get (v := .ref (am 6)) hx hb hts hi_X2_placeAt hown hw hm 5 (by decide) hf_X2_placeAt_26 rfl dX2_placeAt_52 ?_
      refine lv_iload_n hx hb dX2_placeAt_55 rfl (lv_at hl 2 rfl) ?_
      refine lv_iload_n hx hb dX2_placeAt_56 rfl (lv_at hl 3 rfl) ?_
      refine zm_stPL hx hb hw hm (by first | assumption | exact zis_7 (by assumption) | exact zin_7 (by assumption) | exact zin_1 (by assumption)) dX2_placeAt_57 (fun f_5 H locs hm hw => ?_)
      refine lv_aload_n hx hb dX2_placeAt_58 rfl (lv_at hl 1 rfl) ?_
      refine zm_get (v := .ref (am 8)) hx hb hts hi_X2_placeAt hown hw hm 7 (by decide) hf_X2_placeAt_32 rfl dX2_placeAt_59 ?_
      refine lv_iload_n hx hb dX2_placeAt_62 rfl (lv_at hl 2 rfl) ?_
      refine lv_aload_n hx hb dX2_placeAt_63 rfl (lv_at hl 1 rfl) ?_
      refine zm_get (v := .ref (am 8)) hx hb hts hi_X2_placeAt hown hw hm 7 (by decide) hf_X2_placeAt_32 rfl dX2_placeAt_64 ?_
      refine lv_iload_n hx hb dX2_placeAt_67 rfl (lv_at hl 2 rfl) ?_
      refine zm_ldMK hx hb hw hm (by first | assumption | exact zis_7 (by assumption) | exact zin_7 (by assumption) | exact zin_1 (by assumption)) dX2_placeAt_68 ?_
      refine lv_iload_n hx hb dX2_placeAt_69 rfl (lv_at hl 3 rfl) ?_
      refine lv_icmp_le (tgt := 77) hx hb dX2_placeAt_70 (by decide) (fun c_6 => ?_) (fun c_6 => ?_)
      · refine lv_aload_n hx hb dX2_placeAt_77 rfl (lv_at hl 1 rfl) ?_
        refine zm_get (v := .ref (am 8)) hx hb hts hi_X2_placeAt hown hw hm 7 (by decide) hf_X2_placeAt_32 rfl dX2_placeAt_78 ?_
        refine lv_iload_n hx hb dX2_placeAt_81 rfl (lv_at hl 2 rfl) ?_
        refine zm_ldMK hx hb hw hm (by first | assumption | exact zis_7 (by assumption) | exact zin_7 (by assumption) | exact zin_1 (by assumption)) dX2_placeAt_82 ?_
        refine zm_stMK hx hb hw hm (by first | assumption | exact zis_7 (by assumption) | exact zin_7 (by assumption) | exact zin_1 (by assumption)) dX2_placeAt_83 (fun f_7 H locs hm hw => ?_)
        refine lv_iload_n hx hb dX2_placeAt_84 rfl (lv_at hl 0 rfl) ?_
        have ho : (o_placeAt σ p0 p1) = (0, (zPL σ (Int32.toNatClampNeg p0)), (zsMK (zsPL σ (upd (zPL σ) (Int32.toNatClampNeg p0) p1)) (upd (zMK (zsPL σ (upd (zPL σ) (Int32.toNatClampNeg p0) p1))) (Int32.toNatClampNeg p0) (zMK (zsPL σ (upd (zPL σ) (Int32.toNatClampNeg p0) p1)) (Int32.toNatClampNeg p0))))) := by unfold o_placeAt; first | exact (if_pos (show (zis σ p0 = true) from by assumption)).trans ((if_pos (show (zin p1 0 (zEN σ (Int32.toNatClampNeg p0)) = true) from by assumption)).trans (if_pos (show (zMK σ (Int32.toNatClampNeg p0) ≤ p1) from by assumption))) | exact (if_pos (show (zis σ p0 = true) from by assumption)).trans ((if_pos (show (zin p1 0 (zEN σ (Int32.toNatClampNeg p0)) = true) from by assumption)).trans (if_neg (show ¬ (zMK σ (Int32.toNatClampNeg p0) ≤ p1) from by assumption)))
        exact z_iret hx hb hr hlocks hw (Nat.le_of_ble_eq_true rfl) (Nat.le_of_ble_eq_true rfl) dX2_placeAt_85 ⟨rfl, _, _, rfl, by rw [ho]; exact hm, by rw [ho]; exact fun _ => rfl⟩
      · refine lv_iconst (v := (-1)) hx hb dX2_placeAt_73 (by decide) ?_
        refine lv_goto (tgt := 83) hx hb dX2_placeAt_74 (by decide) ?_
        refine zm_stMK hx hb hw hm (by first | assumption | exact zis_7 (by assumption) | exact zin_7 (by assumption) | exact zin_1 (by assumption)) dX2_placeAt_83 (fun f_8 H locs hm hw => ?_)
        refine lv_iload_n hx hb dX2_placeAt_84 rfl (lv_at hl 0 rfl) ?_
        have ho : (o_placeAt σ p0 p1) = (0, (zPL σ (Int32.toNatClampNeg p0)), (zsMK (zsPL σ (upd (zPL σ) (Int32.toNatClampNeg p0) p1)) (upd (zMK (zsPL σ (upd (zPL σ) (Int32.toNatClampNeg p0) p1))) (Int32.toNatClampNeg p0) (-1)))) := by unfold o_placeAt; first | exact (if_pos (show (zis σ p0 = true) from by assumption)).trans ((if_pos (show (zin p1 0 (zEN σ (Int32.toNatClampNeg p0)) = true) from by assumption)).trans (if_pos (show (zMK σ (Int32.toNatClampNeg p0) ≤ p1) from by assumption))) | exact (if_pos (show (zis σ p0 = true) from by assumption)).trans ((if_pos (show (zin p1 0 (zEN σ (Int32.toNatClampNeg p0)) = true) from by assumption)).trans (if_neg (show ¬ (zMK σ (Int32.toNatClampNeg p0) ≤ p1) from by assumption)))
        exact z_iret hx hb hr hlocks hw (Nat.le_of_ble_eq_true rfl) (Nat.le_of_ble_eq_true rfl) dX2_placeAt_85 ⟨rfl, _, _, rfl, by rw [ho]; exact hm, by rw [ho]; exact fun _ => rfl⟩
    · refine lv_iconst (v := 2) hx hb dX2_placeAt_27 (by decide) ?_
      refine lv_goto (tgt := 32) hx hb dX2_placeAt_28 (by decide) ?_
      refine zm_putT hx hb hts hi_X2_placeAt hown hw hm hf_X2_placeAt_48 dX2_placeAt_32 (fun f_9 H locs hm hw => ?_)
      refine lv_aload_n hx hb dX2_placeAt_35 rfl (lv_at hl 0 rfl) ?_
      refine zm_get (v := .int 2) hx hb hts hi_X2_placeAt hown hw hm 12 (by decide) hf_X2_placeAt_48 rfl dX2_placeAt_36 ?_
      refine lv_if_le (tgt := 44) hx hb dX2_placeAt_39 (by decide) (fun c_10 => absurd c_10 (by decide)) (fun c_10 => ?_)
      refine lv_iconst (v := 0) hx hb dX2_placeAt_42 (by decide) ?_
      have ho : (o_placeAt σ p0 p1) = (2, 0, σ) := by unfold o_placeAt; first | exact (if_pos (show (zis σ p0 = true) from by assumption)).trans (if_neg (show ¬ (zin p1 0 (zEN σ (Int32.toNatClampNeg p0)) = true) from by assumption))
      exact z_iret hx hb hr hlocks hw (Nat.le_of_ble_eq_true rfl) (Nat.le_of_ble_eq_true rfl) dX2_placeAt_43 ⟨rfl, _, _, rfl, by rw [ho]; exact hm, by rw [ho]; exact fun h => absurd (show (2 : Int32) = 0 from h) (by decide)⟩
  · refine lv_iconst (v := 1) hx hb dX2_placeAt_9 (by decide) ?_
    refine lv_goto (tgt := 32) hx hb dX2_placeAt_10 (by decide) ?_
    refine zm_putT hx hb hts hi_X2_placeAt hown hw hm hf_X2_placeAt_48 dX2_placeAt_32 (fun f_11 H locs hm hw => ?_)
    refine lv_aload_n hx hb dX2_placeAt_35 rfl (lv_at hl 0 rfl) ?_
    refine zm_get (v := .int 1) hx hb hts hi_X2_placeAt hown hw hm 12 (by decide) hf_X2_placeAt_48 rfl dX2_placeAt_36 ?_
    refine lv_if_le (tgt := 44) hx hb dX2_placeAt_39 (by decide) (fun c_12 => absurd c_12 (by decide)) (fun c_12 => ?_)
    refine lv_iconst (v := 0) hx hb dX2_placeAt_42 (by decide) ?_
    have ho : (o_placeAt σ p0 p1) = (1, 0, σ) := by unfold o_placeAt; first | exact if_neg (show ¬ (zis σ p0 = true) from by assumption)
    exact z_iret hx hb hr hlocks hw (Nat.le_of_ble_eq_true rfl) (Nat.le_of_ble_eq_true rfl) dX2_placeAt_43 ⟨rfl, _, _, rfl, by rw [ho]; exact hm, by rw [ho]; exact fun h => absurd (show (1 : Int32) = 0 from h) (by decide)⟩

def o_endAt (σ : ZS) (p0 : Int32) (p1 : Int32) : Int32 × Int32 × ZS := if zis σ p0 = true then if zin p1 0 (zSZ σ (Int32.toNatClampNeg p0)) = true then if zPL σ (Int32.toNatClampNeg p0) ≤ p1 then if zMK σ (Int32.toNatClampNeg p0) ≤ p1 then (0, zEN σ (Int32.toNatClampNeg p0), zsMK (zsPL (zsEN σ (upd (zEN σ) (Int32.toNatClampNeg p0) p1)) (upd (zPL σ) (Int32.toNatClampNeg p0) (zPL σ (Int32.toNatClampNeg p0)))) (upd (zMK σ) (Int32.toNatClampNeg p0) (zMK σ (Int32.toNatClampNeg p0)))) else (0, zEN σ (Int32.toNatClampNeg p0), zsMK (zsPL (zsEN σ (upd (zEN σ) (Int32.toNatClampNeg p0) p1)) (upd (zPL σ) (Int32.toNatClampNeg p0) (zPL σ (Int32.toNatClampNeg p0)))) (upd (zMK σ) (Int32.toNatClampNeg p0) (-1))) else if zMK σ (Int32.toNatClampNeg p0) ≤ p1 then (0, zEN σ (Int32.toNatClampNeg p0), zsMK (zsPL (zsEN σ (upd (zEN σ) (Int32.toNatClampNeg p0) p1)) (upd (zPL σ) (Int32.toNatClampNeg p0) p1)) (upd (zMK σ) (Int32.toNatClampNeg p0) (zMK σ (Int32.toNatClampNeg p0)))) else (0, zEN σ (Int32.toNatClampNeg p0), zsMK (zsPL (zsEN σ (upd (zEN σ) (Int32.toNatClampNeg p0) p1)) (upd (zPL σ) (Int32.toNatClampNeg p0) p1)) (upd (zMK σ) (Int32.toNatClampNeg p0) (-1))) else (2, 0, σ) else (1, 0, σ)

theorem hi_X2_endAt : ∀ w ∈ wsX20, w ∈ wsX2_endAt := by decide +kernel
theorem hf_X2_endAt_23 : Cond.fieldLink RX2 23 (TX2 4).1 (TX2 4).2.1 (TX2 4).2.2.1 ∈ wsX2_endAt := by decide +kernel
theorem hf_X2_endAt_26 : Cond.fieldLink RX2 26 (TX2 5).1 (TX2 5).2.1 (TX2 5).2.2.1 ∈ wsX2_endAt := by decide +kernel
theorem hf_X2_endAt_29 : Cond.fieldLink RX2 29 (TX2 6).1 (TX2 6).2.1 (TX2 6).2.2.1 ∈ wsX2_endAt := by decide +kernel
theorem hf_X2_endAt_32 : Cond.fieldLink RX2 32 (TX2 7).1 (TX2 7).2.1 (TX2 7).2.2.1 ∈ wsX2_endAt := by decide +kernel
theorem hf_X2_endAt_48 : Cond.fieldLink RX2 48 (TX2 12).1 (TX2 12).2.1 (TX2 12).2.2.1 ∈ wsX2_endAt := by decide +kernel
set_option maxRecDepth 100000 in
set_option maxHeartbeats 4000000 in
theorem c_X2_endAt (l : Launch) (g : zG) (am : Nat → Nat) (L : List Nat) (f : Nat → va_E) (σ : ZS) (bs : Nat → Int64) (th : Int32) (p0 : Int32) (p1 : Int32) (hm : zM g am f σ bs th L f) {ln : Nat → Nat} {kd : Nat → Int32} (hI : zI σ ln kd) : zC l yX2_endAt wsX2_endAt { frames := 2, cells := 0, slots := 0, locals := 43 } 0 0 g [.ref (am 0), .int p0, .int p1] L f (fun r L1 f1 => L = L1 ∧ ∃ (b9 : Int32) (bs1 : Nat → Int64), some (.int b9) = r ∧ zM g am f (o_endAt σ p0 p1).2.2 bs1 (o_endAt σ p0 p1).1 L f1 ∧ ((o_endAt σ p0 p1).1 = 0 → b9 = (o_endAt σ p0 p1).2.1)) zNo := by
  refine z_ofW (cc := cX2_endAt) (maxL := 4) (ret := (some .int)) (by decide) rfl (Nat.le_of_ble_eq_true rfl) ?_
  intro p e s m args below meth c ls A hx hb hr hts hown hlocks hml htab hin hw hX hl
  have hl : lv_has ls 4 [(0, .ref (am 0)), (1, .int p0), (2, .int p1)] := hl
  have hown : s.vm.findClass RX2 = some m.cls := hown
  refine lv_aload_n hx hb dX2_endAt_0 rfl (lv_at hl 0 rfl) ?_
  refine lv_aload_n hx hb dX2_endAt_1 rfl (lv_at hl 0 rfl) ?_
  refine lv_iload_n hx hb dX2_endAt_2 rfl (lv_at hl 1 rfl) ?_
  refine z_callV (As := [.int p0]) (rest := [.ref (am 0)]) ⟨hx, hb, hml, hown, hts⟩ hw hX (hm.1.1 0 (by decide)) rfl (c_X2_is l g am L f σ bs th p0 hm.rf) (cwV 1 hts gX2_endAt_X2_is rfl rfl rfl (by decide +kernel) ⟨(Nat.le_of_ble_eq_true rfl), (Nat.le_of_ble_eq_true rfl)⟩) rfl hl.1 rfl (Nat.le_of_ble_eq_true rfl) dX2_endAt_3 ⟨(Nat.le_of_ble_eq_true rfl), (Nat.le_of_ble_eq_true rfl)⟩ (fun _ _ _ _ _ _ _ hp => False.elim hp) (fun r9 L9 f9 H locs hp hw => ?_)
  obtain ⟨rfl, rfl, rfl⟩ := hp
  refine W.eq (g2 := F0 m 6 ls [.int (zb (zis σ p0)), .ref (am 0)]) rfl ?_
  refine zr_bne hx hb dX2_endAt_6 (tgt := 13) (by decide) (fun c_1 => ?_) (fun c_1 => ?_)
  · refine lv_iload_n hx hb dX2_endAt_13 rfl (lv_at hl 2 rfl) ?_
    refine lv_iconst (v := 0) hx hb dX2_endAt_14 (by decide) ?_
    refine lv_aload_n hx hb dX2_endAt_15 rfl (lv_at hl 0 rfl) ?_
    refine zm_get (v := .ref (am 5)) hx hb hts hi_X2_endAt hown hw hm 4 (by decide) hf_X2_endAt_23 rfl dX2_endAt_16 ?_
    refine lv_iload_n hx hb dX2_endAt_19 rfl (lv_at hl 1 rfl) ?_
    refine zm_ldSZ hx hb hw hm (by first | assumption | exact zis_7 (by assumption) | exact zin_7 (by assumption) | exact zin_1 (by assumption)) dX2_endAt_20 ?_
    refine z_callS (As := [.int p1, .int 0, .int (zSZ σ (Int32.toNatClampNeg p0))]) (rest := [.ref (am 0)]) ⟨hx, hb, hml, hown, hts⟩ hw hX (c_X2_in l g L f p1 0 (zSZ σ (Int32.toNatClampNeg p0))) (va_cwS 3 hts gX2_endAt_X2_in rfl rfl rfl (by decide +kernel) ⟨(Nat.le_of_ble_eq_true rfl), (Nat.le_of_ble_eq_true rfl)⟩) rfl hl.1 rfl (Nat.le_of_ble_eq_true rfl) dX2_endAt_21 ⟨(Nat.le_of_ble_eq_true rfl), (Nat.le_of_ble_eq_true rfl)⟩ (fun _ _ _ _ _ _ _ hp => False.elim hp) (fun r9 L9 f9 H locs hp hw => ?_)
    obtain ⟨rfl, rfl, rfl⟩ := hp
    refine W.eq (g2 := F0 m 24 ls [.int (zb (zin p1 0 (zSZ σ (Int32.toNatClampNeg p0)))), .ref (am 0)]) rfl ?_
    refine zr_bne hx hb dX2_endAt_24 (tgt := 31) (by decide) (fun c_2 => ?_) (fun c_2 => ?_)
    · refine lv_iconst (v := 0) hx hb dX2_endAt_31 (by decide) ?_
      refine zm_putT hx hb hts hi_X2_endAt hown hw hm hf_X2_endAt_48 dX2_endAt_32 (fun f_3 H locs hm hw => ?_)
      refine lv_aload_n hx hb dX2_endAt_35 rfl (lv_at hl 0 rfl) ?_
      refine zm_get (v := .int 0) hx hb hts hi_X2_endAt hown hw hm 12 (by decide) hf_X2_endAt_48 rfl dX2_endAt_36 ?_
      refine lv_if_le (tgt := 44) hx hb dX2_endAt_39 (by decide) (fun c_4 => ?_) (fun c_4 => absurd (by decide) c_4)
      refine lv_aload_n hx hb dX2_endAt_44 rfl (lv_at hl 0 rfl) ?_
      refine zm_get (v := .ref (am 7)) hx hb hts hi_X2_endAt hown hw hm 6 (by decide) hf_X2_endAt_29 rfl dX2_endAt_45 ?_
      refine lv_iload_n hx hb dX2_endAt_48 rfl (lv_at hl 1 rfl) ?_
      refine zm_ldEN hx hb hw hm (by first | assumption | exact zis_7 (by assumption) | exact zin_7 (by assumption) | exact zin_1 (by assumption)) dX2_endAt_49 ?_
      refine lv_istore_n (lv' := [(3, .int (zEN σ (Int32.toNatClampNeg p0))), (0, .ref (am 0)), (1, .int p0), (2, .int p1)]) hx hb dX2_endAt_50 rfl hl (by decide) rfl (fun ls hl => ?_)
      refine lv_aload_n hx hb dX2_endAt_51 rfl (lv_at hl 1 rfl) ?_
      refine zm_get (v := .ref (am 7)) hx hb hts hi_X2_endAt hown hw hm 6 (by decide) hf_X2_endAt_29 rfl dX2_endAt_52 ?_
      refine lv_iload_n hx hb dX2_endAt_55 rfl (lv_at hl 2 rfl) ?_
      refine lv_iload_n hx hb dX2_endAt_56 rfl (lv_at hl 3 rfl) ?_
      refine zm_stEN hx hb hw hm (by first | assumption | exact zis_7 (by assumption) | exact zin_7 (by assumption) | exact zin_1 (by assumption)) dX2_endAt_57 (fun f_5 H locs hm hw => ?_)
      refine lv_aload_n hx hb dX2_endAt_58 rfl (lv_at hl 1 rfl) ?_
      refine zm_get (v := .ref (am 6)) hx hb hts hi_X2_endAt hown hw hm 5 (by decide) hf_X2_endAt_26 rfl dX2_endAt_59 ?_
      refine lv_iload_n hx hb dX2_endAt_62 rfl (lv_at hl 2 rfl) ?_
      refine lv_aload_n hx hb dX2_endAt_63 rfl (lv_at hl 1 rfl) ?_
      refine zm_get (v := .ref (am 6)) hx hb hts hi_X2_endAt hown hw hm 5 (by decide) hf_X2_endAt_26 rfl dX2_endAt_64 ?_
      refine lv_iload_n hx hb dX2_endAt_67 rfl (lv_at hl 2 rfl) ?_
      refine zm_ldPL hx hb hw hm (by first | assumption | exact zis_7 (by assumption) | exact zin_7 (by assumption) | exact zin_1 (by assumption)) dX2_endAt_68 ?_
      refine lv_iload_n hx hb dX2_endAt_69 rfl (lv_at hl 3 rfl) ?_
      refine lv_icmp_le (tgt := 77) hx hb dX2_endAt_70 (by decide) (fun c_6 => ?_) (fun c_6 => ?_)
      · refine lv_aload_n hx hb dX2_endAt_77 rfl (lv_at hl 1 rfl) ?_
        refine zm_get (v := .ref (am 6)) hx hb hts hi_X2_endAt hown hw hm 5 (by decide) hf_X2_endAt_26 rfl dX2_endAt_78 ?_
        refine lv_iload_n hx hb dX2_endAt_81 rfl (lv_at hl 2 rfl) ?_
        refine zm_ldPL hx hb hw hm (by first | assumption | exact zis_7 (by assumption) | exact zin_7 (by assumption) | exact zin_1 (by assumption)) dX2_endAt_82 ?_
        refine zm_stPL hx hb hw hm (by first | assumption | exact zis_7 (by assumption) | exact zin_7 (by assumption) | exact zin_1 (by assumption)) dX2_endAt_83 (fun f_7 H locs hm hw => ?_)
        refine lv_aload_n hx hb dX2_endAt_84 rfl (lv_at hl 1 rfl) ?_
        refine zm_get (v := .ref (am 8)) hx hb hts hi_X2_endAt hown hw hm 7 (by decide) hf_X2_endAt_32 rfl dX2_endAt_85 ?_
        refine lv_iload_n hx hb dX2_endAt_88 rfl (lv_at hl 2 rfl) ?_
        refine lv_aload_n hx hb dX2_endAt_89 rfl (lv_at hl 1 rfl) ?_
        refine zm_get (v := .ref (am 8)) hx hb hts hi_X2_endAt hown hw hm 7 (by decide) hf_X2_endAt_32 rfl dX2_endAt_90 ?_
        refine lv_iload_n hx hb dX2_endAt_93 rfl (lv_at hl 2 rfl) ?_
        refine zm_ldMK hx hb hw hm (by first | assumption | exact zis_7 (by assumption) | exact zin_7 (by assumption) | exact zin_1 (by assumption)) dX2_endAt_94 ?_
        refine lv_iload_n hx hb dX2_endAt_95 rfl (lv_at hl 3 rfl) ?_
        refine lv_icmp_le (tgt := 103) hx hb dX2_endAt_96 (by decide) (fun c_8 => ?_) (fun c_8 => ?_)
        · refine lv_aload_n hx hb dX2_endAt_103 rfl (lv_at hl 1 rfl) ?_
          refine zm_get (v := .ref (am 8)) hx hb hts hi_X2_endAt hown hw hm 7 (by decide) hf_X2_endAt_32 rfl dX2_endAt_104 ?_
          refine lv_iload_n hx hb dX2_endAt_107 rfl (lv_at hl 2 rfl) ?_
          refine zm_ldMK hx hb hw hm (by first | assumption | exact zis_7 (by assumption) | exact zin_7 (by assumption) | exact zin_1 (by assumption)) dX2_endAt_108 ?_
          refine zm_stMK hx hb hw hm (by first | assumption | exact zis_7 (by assumption) | exact zin_7 (by assumption) | exact zin_1 (by assumption)) dX2_endAt_109 (fun f_9 H locs hm hw => ?_)
          refine lv_iload_n hx hb dX2_endAt_110 rfl (lv_at hl 0 rfl) ?_
          have ho : (o_endAt σ p0 p1) = (0, (zEN σ (Int32.toNatClampNeg p0)), (zsMK (zsPL (zsEN σ (upd (zEN σ) (Int32.toNatClampNeg p0) p1)) (upd (zPL (zsEN σ (upd (zEN σ) (Int32.toNatClampNeg p0) p1))) (Int32.toNatClampNeg p0) (zPL (zsEN σ (upd (zEN σ) (Int32.toNatClampNeg p0) p1)) (Int32.toNatClampNeg p0)))) (upd (zMK (zsPL (zsEN σ (upd (zEN σ) (Int32.toNatClampNeg p0) p1)) (upd (zPL (zsEN σ (upd (zEN σ) (Int32.toNatClampNeg p0) p1))) (Int32.toNatClampNeg p0) (zPL (zsEN σ (upd (zEN σ) (Int32.toNatClampNeg p0) p1)) (Int32.toNatClampNeg p0))))) (Int32.toNatClampNeg p0) (zMK (zsPL (zsEN σ (upd (zEN σ) (Int32.toNatClampNeg p0) p1)) (upd (zPL (zsEN σ (upd (zEN σ) (Int32.toNatClampNeg p0) p1))) (Int32.toNatClampNeg p0) (zPL (zsEN σ (upd (zEN σ) (Int32.toNatClampNeg p0) p1)) (Int32.toNatClampNeg p0)))) (Int32.toNatClampNeg p0))))) := by unfold o_endAt; first | exact (if_pos (show (zis σ p0 = true) from by assumption)).trans ((if_pos (show (zin p1 0 (zSZ σ (Int32.toNatClampNeg p0)) = true) from by assumption)).trans ((if_pos (show (zPL σ (Int32.toNatClampNeg p0) ≤ p1) from by assumption)).trans (if_pos (show (zMK σ (Int32.toNatClampNeg p0) ≤ p1) from by assumption)))) | exact (if_pos (show (zis σ p0 = true) from by assumption)).trans ((if_pos (show (zin p1 0 (zSZ σ (Int32.toNatClampNeg p0)) = true) from by assumption)).trans ((if_pos (show (zPL σ (Int32.toNatClampNeg p0) ≤ p1) from by assumption)).trans (if_neg (show ¬ (zMK σ (Int32.toNatClampNeg p0) ≤ p1) from by assumption)))) | exact (if_pos (show (zis σ p0 = true) from by assumption)).trans ((if_pos (show (zin p1 0 (zSZ σ (Int32.toNatClampNeg p0)) = true) from by assumption)).trans ((if_neg (show ¬ (zPL σ (Int32.toNatClampNeg p0) ≤ p1) from by assumption)).trans (if_pos (show (zMK σ (Int32.toNatClampNeg p0) ≤ p1) from by assumption)))) | exact (if_pos (show (zis σ p0 = true) from by assumption)).trans ((if_pos (show (zin p1 0 (zSZ σ (Int32.toNatClampNeg p0)) = true) from by assumption)).trans ((if_neg (show ¬ (zPL σ (Int32.toNatClampNeg p0) ≤ p1) from by assumption)).trans (if_neg (show ¬ (zMK σ (Int32.toNatClampNeg p0) ≤ p1) from by assumption))))
          exact z_iret hx hb hr hlocks hw (Nat.le_of_ble_eq_true rfl) (Nat.le_of_ble_eq_true rfl) dX2_endAt_111 ⟨rfl, _, _, rfl, by rw [ho]; exact hm, by rw [ho]; exact fun _ => rfl⟩
        · refine lv_iconst (v := (-1)) hx hb dX2_endAt_99 (by decide) ?_
          refine lv_goto (tgt := 109) hx hb dX2_endAt_100 (by decide) ?_
          refine zm_stMK hx hb hw hm (by first | assumption | exact zis_7 (by assumption) | exact zin_7 (by assumption) | exact zin_1 (by assumption)) dX2_endAt_109 (fun f_10 H locs hm hw => ?_)
          refine lv_iload_n hx hb dX2_endAt_110 rfl (lv_at hl 0 rfl) ?_
          have ho : (o_endAt σ p0 p1) = (0, (zEN σ (Int32.toNatClampNeg p0)), (zsMK (zsPL (zsEN σ (upd (zEN σ) (Int32.toNatClampNeg p0) p1)) (upd (zPL (zsEN σ (upd (zEN σ) (Int32.toNatClampNeg p0) p1))) (Int32.toNatClampNeg p0) (zPL (zsEN σ (upd (zEN σ) (Int32.toNatClampNeg p0) p1)) (Int32.toNatClampNeg p0)))) (upd (zMK (zsPL (zsEN σ (upd (zEN σ) (Int32.toNatClampNeg p0) p1)) (upd (zPL (zsEN σ (upd (zEN σ) (Int32.toNatClampNeg p0) p1))) (Int32.toNatClampNeg p0) (zPL (zsEN σ (upd (zEN σ) (Int32.toNatClampNeg p0) p1)) (Int32.toNatClampNeg p0))))) (Int32.toNatClampNeg p0) (-1)))) := by unfold o_endAt; first | exact (if_pos (show (zis σ p0 = true) from by assumption)).trans ((if_pos (show (zin p1 0 (zSZ σ (Int32.toNatClampNeg p0)) = true) from by assumption)).trans ((if_pos (show (zPL σ (Int32.toNatClampNeg p0) ≤ p1) from by assumption)).trans (if_pos (show (zMK σ (Int32.toNatClampNeg p0) ≤ p1) from by assumption)))) | exact (if_pos (show (zis σ p0 = true) from by assumption)).trans ((if_pos (show (zin p1 0 (zSZ σ (Int32.toNatClampNeg p0)) = true) from by assumption)).trans ((if_pos (show (zPL σ (Int32.toNatClampNeg p0) ≤ p1) from by assumption)).trans (if_neg (show ¬ (zMK σ (Int32.toNatClampNeg p0) ≤ p1) from by assumption)))) | exact (if_pos (show (zis σ p0 = true) from by assumption)).trans ((if_pos (show (zin p1 0 (zSZ σ (Int32.toNatClampNeg p0)) = true) from by assumption)).trans ((if_neg (show ¬ (zPL σ (Int32.toNatClampNeg p0) ≤ p1) from by assumption)).trans (if_pos (show (zMK σ (Int32.toNatClampNeg p0) ≤ p1) from by assumption)))) | exact (if_pos (show (zis σ p0 = true) from by assumption)).trans ((if_pos (show (zin p1 0 (zSZ σ (Int32.toNatClampNeg p0)) = true) from by assumption)).trans ((if_neg (show ¬ (zPL σ (Int32.toNatClampNeg p0) ≤ p1) from by assumption)).trans (if_neg (show ¬ (zMK σ (Int32.toNatClampNeg p0) ≤ p1) from by assumption))))
          exact z_iret hx hb hr hlocks hw (Nat.le_of_ble_eq_true rfl) (Nat.le_of_ble_eq_true rfl) dX2_endAt_111 ⟨rfl, _, _, rfl, by rw [ho]; exact hm, by rw [ho]; exact fun _ => rfl⟩
      · refine lv_iload_n hx hb dX2_endAt_73 rfl (lv_at hl 3 rfl) ?_
        refine lv_goto (tgt := 83) hx hb dX2_endAt_74 (by decide) ?_
        refine zm_stPL hx hb hw hm (by first | assumption | exact zis_7 (by assumption) | exact zin_7 (by assumption) | exact zin_1 (by assumption)) dX2_endAt_83 (fun f_11 H locs hm hw => ?_)
        refine lv_aload_n hx hb dX2_endAt_84 rfl (lv_at hl 1 rfl) ?_
        refine zm_get (v := .ref (am 8)) hx hb hts hi_X2_endAt hown hw hm 7 (by decide) hf_X2_endAt_32 rfl dX2_endAt_85 ?_
        refine lv_iload_n hx hb dX2_endAt_88 rfl (lv_at hl 2 rfl) ?_
        refine lv_aload_n hx hb dX2_endAt_89 rfl (lv_at hl 1 rfl) ?_
        refine zm_get (v := .ref (am 8)) hx hb hts hi_X2_endAt hown hw hm 7 (by decide) hf_X2_endAt_32 rfl dX2_endAt_90 ?_
        refine lv_iload_n hx hb dX2_endAt_93 rfl (lv_at hl 2 rfl) ?_
        refine zm_ldMK hx hb hw hm (by first | assumption | exact zis_7 (by assumption) | exact zin_7 (by assumption) | exact zin_1 (by assumption)) dX2_endAt_94 ?_
        refine lv_iload_n hx hb dX2_endAt_95 rfl (lv_at hl 3 rfl) ?_
        refine lv_icmp_le (tgt := 103) hx hb dX2_endAt_96 (by decide) (fun c_12 => ?_) (fun c_12 => ?_)
        · refine lv_aload_n hx hb dX2_endAt_103 rfl (lv_at hl 1 rfl) ?_
          refine zm_get (v := .ref (am 8)) hx hb hts hi_X2_endAt hown hw hm 7 (by decide) hf_X2_endAt_32 rfl dX2_endAt_104 ?_
          refine lv_iload_n hx hb dX2_endAt_107 rfl (lv_at hl 2 rfl) ?_
          refine zm_ldMK hx hb hw hm (by first | assumption | exact zis_7 (by assumption) | exact zin_7 (by assumption) | exact zin_1 (by assumption)) dX2_endAt_108 ?_
          refine zm_stMK hx hb hw hm (by first | assumption | exact zis_7 (by assumption) | exact zin_7 (by assumption) | exact zin_1 (by assumption)) dX2_endAt_109 (fun f_13 H locs hm hw => ?_)
          refine lv_iload_n hx hb dX2_endAt_110 rfl (lv_at hl 0 rfl) ?_
          have ho : (o_endAt σ p0 p1) = (0, (zEN σ (Int32.toNatClampNeg p0)), (zsMK (zsPL (zsEN σ (upd (zEN σ) (Int32.toNatClampNeg p0) p1)) (upd (zPL (zsEN σ (upd (zEN σ) (Int32.toNatClampNeg p0) p1))) (Int32.toNatClampNeg p0) p1)) (upd (zMK (zsPL (zsEN σ (upd (zEN σ) (Int32.toNatClampNeg p0) p1)) (upd (zPL (zsEN σ (upd (zEN σ) (Int32.toNatClampNeg p0) p1))) (Int32.toNatClampNeg p0) p1))) (Int32.toNatClampNeg p0) (zMK (zsPL (zsEN σ (upd (zEN σ) (Int32.toNatClampNeg p0) p1)) (upd (zPL (zsEN σ (upd (zEN σ) (Int32.toNatClampNeg p0) p1))) (Int32.toNatClampNeg p0) p1)) (Int32.toNatClampNeg p0))))) := by unfold o_endAt; first | exact (if_pos (show (zis σ p0 = true) from by assumption)).trans ((if_pos (show (zin p1 0 (zSZ σ (Int32.toNatClampNeg p0)) = true) from by assumption)).trans ((if_pos (show (zPL σ (Int32.toNatClampNeg p0) ≤ p1) from by assumption)).trans (if_pos (show (zMK σ (Int32.toNatClampNeg p0) ≤ p1) from by assumption)))) | exact (if_pos (show (zis σ p0 = true) from by assumption)).trans ((if_pos (show (zin p1 0 (zSZ σ (Int32.toNatClampNeg p0)) = true) from by assumption)).trans ((if_pos (show (zPL σ (Int32.toNatClampNeg p0) ≤ p1) from by assumption)).trans (if_neg (show ¬ (zMK σ (Int32.toNatClampNeg p0) ≤ p1) from by assumption)))) | exact (if_pos (show (zis σ p0 = true) from by assumption)).trans ((if_pos (show (zin p1 0 (zSZ σ (Int32.toNatClampNeg p0)) = true) from by assumption)).trans ((if_neg (show ¬ (zPL σ (Int32.toNatClampNeg p0) ≤ p1) from by assumption)).trans (if_pos (show (zMK σ (Int32.toNatClampNeg p0) ≤ p1) from by assumption)))) | exact (if_pos (show (zis σ p0 = true) from by assumption)).trans ((if_pos (show (zin p1 0 (zSZ σ (Int32.toNatClampNeg p0)) = true) from by assumption)).trans ((if_neg (show ¬ (zPL σ (Int32.toNatClampNeg p0) ≤ p1) from by assumption)).trans (if_neg (show ¬ (zMK σ (Int32.toNatClampNeg p0) ≤ p1) from by assumption))))
          exact z_iret hx hb hr hlocks hw (Nat.le_of_ble_eq_true rfl) (Nat.le_of_ble_eq_true rfl) dX2_endAt_111 ⟨rfl, _, _, rfl, by rw [ho]; exact hm, by rw [ho]; exact fun _ => rfl⟩
        · refine lv_iconst (v := (-1)) hx hb dX2_endAt_99 (by decide) ?_
          refine lv_goto (tgt := 109) hx hb dX2_endAt_100 (by decide) ?_
          refine zm_stMK hx hb hw hm (by first | assumption | exact zis_7 (by assumption) | exact zin_7 (by assumption) | exact zin_1 (by assumption)) dX2_endAt_109 (fun f_14 H locs hm hw => ?_)
          refine lv_iload_n hx hb dX2_endAt_110 rfl (lv_at hl 0 rfl) ?_
          have ho : (o_endAt σ p0 p1) = (0, (zEN σ (Int32.toNatClampNeg p0)), (zsMK (zsPL (zsEN σ (upd (zEN σ) (Int32.toNatClampNeg p0) p1)) (upd (zPL (zsEN σ (upd (zEN σ) (Int32.toNatClampNeg p0) p1))) (Int32.toNatClampNeg p0) p1)) (upd (zMK (zsPL (zsEN σ (upd (zEN σ) (Int32.toNatClampNeg p0) p1)) (upd (zPL (zsEN σ (upd (zEN σ) (Int32.toNatClampNeg p0) p1))) (Int32.toNatClampNeg p0) p1))) (Int32.toNatClampNeg p0) (-1)))) := by unfold o_endAt; first | exact (if_pos (show (zis σ p0 = true) from by assumption)).trans ((if_pos (show (zin p1 0 (zSZ σ (Int32.toNatClampNeg p0)) = true) from by assumption)).trans ((if_pos (show (zPL σ (Int32.toNatClampNeg p0) ≤ p1) from by assumption)).trans (if_pos (show (zMK σ (Int32.toNatClampNeg p0) ≤ p1) from by assumption)))) | exact (if_pos (show (zis σ p0 = true) from by assumption)).trans ((if_pos (show (zin p1 0 (zSZ σ (Int32.toNatClampNeg p0)) = true) from by assumption)).trans ((if_pos (show (zPL σ (Int32.toNatClampNeg p0) ≤ p1) from by assumption)).trans (if_neg (show ¬ (zMK σ (Int32.toNatClampNeg p0) ≤ p1) from by assumption)))) | exact (if_pos (show (zis σ p0 = true) from by assumption)).trans ((if_pos (show (zin p1 0 (zSZ σ (Int32.toNatClampNeg p0)) = true) from by assumption)).trans ((if_neg (show ¬ (zPL σ (Int32.toNatClampNeg p0) ≤ p1) from by assumption)).trans (if_pos (show (zMK σ (Int32.toNatClampNeg p0) ≤ p1) from by assumption)))) | exact (if_pos (show (zis σ p0 = true) from by assumption)).trans ((if_pos (show (zin p1 0 (zSZ σ (Int32.toNatClampNeg p0)) = true) from by assumption)).trans ((if_neg (show ¬ (zPL σ (Int32.toNatClampNeg p0) ≤ p1) from by assumption)).trans (if_neg (show ¬ (zMK σ (Int32.toNatClampNeg p0) ≤ p1) from by assumption))))
          exact z_iret hx hb hr hlocks hw (Nat.le_of_ble_eq_true rfl) (Nat.le_of_ble_eq_true rfl) dX2_endAt_111 ⟨rfl, _, _, rfl, by rw [ho]; exact hm, by rw [ho]; exact fun _ => rfl⟩
    · refine lv_iconst (v := 2) hx hb dX2_endAt_27 (by decide) ?_
      refine lv_goto (tgt := 32) hx hb dX2_endAt_28 (by decide) ?_
      refine zm_putT hx hb hts hi_X2_endAt hown hw hm hf_X2_endAt_48 dX2_endAt_32 (fun f_15 H locs hm hw => ?_)
      refine lv_aload_n hx hb dX2_endAt_35 rfl (lv_at hl 0 rfl) ?_
      refine zm_get (v := .int 2) hx hb hts hi_X2_endAt hown hw hm 12 (by decide) hf_X2_endAt_48 rfl dX2_endAt_36 ?_
      refine lv_if_le (tgt := 44) hx hb dX2_endAt_39 (by decide) (fun c_16 => absurd c_16 (by decide)) (fun c_16 => ?_)
      refine lv_iconst (v := 0) hx hb dX2_endAt_42 (by decide) ?_
      have ho : (o_endAt σ p0 p1) = (2, 0, σ) := by unfold o_endAt; first | exact (if_pos (show (zis σ p0 = true) from by assumption)).trans (if_neg (show ¬ (zin p1 0 (zSZ σ (Int32.toNatClampNeg p0)) = true) from by assumption))
      exact z_iret hx hb hr hlocks hw (Nat.le_of_ble_eq_true rfl) (Nat.le_of_ble_eq_true rfl) dX2_endAt_43 ⟨rfl, _, _, rfl, by rw [ho]; exact hm, by rw [ho]; exact fun h => absurd (show (2 : Int32) = 0 from h) (by decide)⟩
  · refine lv_iconst (v := 1) hx hb dX2_endAt_9 (by decide) ?_
    refine lv_goto (tgt := 32) hx hb dX2_endAt_10 (by decide) ?_
    refine zm_putT hx hb hts hi_X2_endAt hown hw hm hf_X2_endAt_48 dX2_endAt_32 (fun f_17 H locs hm hw => ?_)
    refine lv_aload_n hx hb dX2_endAt_35 rfl (lv_at hl 0 rfl) ?_
    refine zm_get (v := .int 1) hx hb hts hi_X2_endAt hown hw hm 12 (by decide) hf_X2_endAt_48 rfl dX2_endAt_36 ?_
    refine lv_if_le (tgt := 44) hx hb dX2_endAt_39 (by decide) (fun c_18 => absurd c_18 (by decide)) (fun c_18 => ?_)
    refine lv_iconst (v := 0) hx hb dX2_endAt_42 (by decide) ?_
    have ho : (o_endAt σ p0 p1) = (1, 0, σ) := by unfold o_endAt; first | exact if_neg (show ¬ (zis σ p0 = true) from by assumption)
    exact z_iret hx hb hr hlocks hw (Nat.le_of_ble_eq_true rfl) (Nat.le_of_ble_eq_true rfl) dX2_endAt_43 ⟨rfl, _, _, rfl, by rw [ho]; exact hm, by rw [ho]; exact fun h => absurd (show (1 : Int32) = 0 from h) (by decide)⟩

def o_mark (σ : ZS) (p0 : Int32) : Int32 × Int32 × ZS := if zis σ p0 = true then (0, zPL σ (Int32.toNatClampNeg p0), zsMK σ (upd (zMK σ) (Int32.toNatClampNeg p0) (zPL σ (Int32.toNatClampNeg p0)))) else (1, 0, σ)

theorem hi_X2_mark : ∀ w ∈ wsX20, w ∈ wsX2_mark := by decide +kernel
theorem hf_X2_mark_26 : Cond.fieldLink RX2 26 (TX2 5).1 (TX2 5).2.1 (TX2 5).2.2.1 ∈ wsX2_mark := by decide +kernel
theorem hf_X2_mark_32 : Cond.fieldLink RX2 32 (TX2 7).1 (TX2 7).2.1 (TX2 7).2.2.1 ∈ wsX2_mark := by decide +kernel
set_option maxRecDepth 100000 in
set_option maxHeartbeats 4000000 in
theorem c_X2_mark (l : Launch) (g : zG) (am : Nat → Nat) (L : List Nat) (f : Nat → va_E) (σ : ZS) (bs : Nat → Int64) (th : Int32) (p0 : Int32) (hm : zM g am f σ bs th L f) {ln : Nat → Nat} {kd : Nat → Int32} (hI : zI σ ln kd) : zC l yX2_mark wsX2_mark { frames := 3, cells := 0, slots := 0, locals := 64 } 0 0 g [.ref (am 0), .int p0] L f (fun r L1 f1 => L = L1 ∧ ∃ (b9 : Int32) (bs1 : Nat → Int64), some (.int b9) = r ∧ zM g am f (o_mark σ p0).2.2 bs1 (o_mark σ p0).1 L f1 ∧ ((o_mark σ p0).1 = 0 → b9 = (o_mark σ p0).2.1)) zNo := by
  refine z_ofW (cc := cX2_mark) (maxL := 2) (ret := (some .int)) (by decide) rfl (Nat.le_of_ble_eq_true rfl) ?_
  intro p e s m args below meth c ls A hx hb hr hts hown hlocks hml htab hin hw hX hl
  have hl : lv_has ls 2 [(0, .ref (am 0)), (1, .int p0)] := hl
  have hown : s.vm.findClass RX2 = some m.cls := hown
  refine lv_aload_n hx hb dX2_mark_0 rfl (lv_at hl 0 rfl) ?_
  refine lv_iload_n hx hb dX2_mark_1 rfl (lv_at hl 1 rfl) ?_
  refine z_callV (As := [.int p0]) (rest := []) ⟨hx, hb, hml, hown, hts⟩ hw hX (hm.1.1 0 (by decide)) rfl (c_X2_isWindow l g am L f σ bs th p0 hm.rf) (cwV 1 hts gX2_mark_X2_isWindow rfl rfl rfl (by decide +kernel) ⟨(Nat.le_of_ble_eq_true rfl), (Nat.le_of_ble_eq_true rfl)⟩) rfl hl.1 rfl (Nat.le_of_ble_eq_true rfl) dX2_mark_2 ⟨(Nat.le_of_ble_eq_true rfl), (Nat.le_of_ble_eq_true rfl)⟩ (fun _ _ _ _ _ _ _ hp => False.elim hp) (fun r9 L9 f9 H locs hp hw => ?_)
  rcases hp with ⟨c_1, rfl, rfl, hm9⟩ | ⟨c_1, rfl, rfl, hm9⟩
  · refine W.eq (g2 := F0 m 5 ls [.int 1]) rfl ?_
    have hm := hm.tr hm9
    refine lv_if_ne (tgt := 10) hx hb dX2_mark_5 (by decide) (fun c_2 => ?_) (fun c_2 => absurd c_2 (by decide))
    refine lv_aload_n hx hb dX2_mark_10 rfl (lv_at hl 0 rfl) ?_
    refine zm_get (v := .ref (am 8)) hx hb hts hi_X2_mark hown hw hm 7 (by decide) hf_X2_mark_32 rfl dX2_mark_11 ?_
    refine lv_iload_n hx hb dX2_mark_14 rfl (lv_at hl 1 rfl) ?_
    refine lv_aload_n hx hb dX2_mark_15 rfl (lv_at hl 0 rfl) ?_
    refine zm_get (v := .ref (am 6)) hx hb hts hi_X2_mark hown hw hm 5 (by decide) hf_X2_mark_26 rfl dX2_mark_16 ?_
    refine lv_iload_n hx hb dX2_mark_19 rfl (lv_at hl 1 rfl) ?_
    refine zm_ldPL hx hb hw hm (by first | assumption | exact zis_7 (by assumption) | exact zin_7 (by assumption) | exact zin_1 (by assumption)) dX2_mark_20 ?_
    refine zm_stMK hx hb hw hm (by first | assumption | exact zis_7 (by assumption) | exact zin_7 (by assumption) | exact zin_1 (by assumption)) dX2_mark_21 (fun f_3 H locs hm hw => ?_)
    refine lv_aload_n hx hb dX2_mark_22 rfl (lv_at hl 0 rfl) ?_
    refine zm_get (v := .ref (am 6)) hx hb hts hi_X2_mark hown hw hm 5 (by decide) hf_X2_mark_26 rfl dX2_mark_23 ?_
    refine lv_iload_n hx hb dX2_mark_26 rfl (lv_at hl 1 rfl) ?_
    refine zm_ldPL hx hb hw hm (by first | assumption | exact zis_7 (by assumption) | exact zin_7 (by assumption) | exact zin_1 (by assumption)) dX2_mark_27 ?_
    have ho : (o_mark σ p0) = (0, (zPL (zsMK σ (upd (zMK σ) (Int32.toNatClampNeg p0) (zPL σ (Int32.toNatClampNeg p0)))) (Int32.toNatClampNeg p0)), (zsMK σ (upd (zMK σ) (Int32.toNatClampNeg p0) (zPL σ (Int32.toNatClampNeg p0))))) := by unfold o_mark; first | exact if_pos (show (zis σ p0 = true) from by assumption)
    exact z_iret hx hb hr hlocks hw (Nat.le_of_ble_eq_true rfl) (Nat.le_of_ble_eq_true rfl) dX2_mark_28 ⟨rfl, _, _, rfl, by rw [ho]; exact hm, by rw [ho]; exact fun _ => rfl⟩
  · refine W.eq (g2 := F0 m 5 ls [.int 0]) rfl ?_
    have hm := hm.tr hm9
    refine lv_if_ne (tgt := 10) hx hb dX2_mark_5 (by decide) (fun c_4 => absurd (by decide) c_4) (fun c_4 => ?_)
    refine lv_iconst (v := 0) hx hb dX2_mark_8 (by decide) ?_
    have ho : (o_mark σ p0) = (1, 0, σ) := by unfold o_mark; first | exact if_neg (show ¬ (zis σ p0 = true) from by assumption)
    exact z_iret hx hb hr hlocks hw (Nat.le_of_ble_eq_true rfl) (Nat.le_of_ble_eq_true rfl) dX2_mark_9 ⟨rfl, _, _, rfl, by rw [ho]; exact hm, by rw [ho]; exact fun h => absurd (show (1 : Int32) = 0 from h) (by decide)⟩

def o_back (σ : ZS) (p0 : Int32) : Int32 × Int32 × ZS := if zis σ p0 = true then if zMK σ (Int32.toNatClampNeg p0) = -1 then (2, 0, σ) else (0, zPL σ (Int32.toNatClampNeg p0) - zMK σ (Int32.toNatClampNeg p0), zsPL σ (upd (zPL σ) (Int32.toNatClampNeg p0) (zMK σ (Int32.toNatClampNeg p0)))) else (1, 0, σ)

theorem hi_X2_back : ∀ w ∈ wsX20, w ∈ wsX2_back := by decide +kernel
theorem hf_X2_back_26 : Cond.fieldLink RX2 26 (TX2 5).1 (TX2 5).2.1 (TX2 5).2.2.1 ∈ wsX2_back := by decide +kernel
theorem hf_X2_back_32 : Cond.fieldLink RX2 32 (TX2 7).1 (TX2 7).2.1 (TX2 7).2.2.1 ∈ wsX2_back := by decide +kernel
theorem hf_X2_back_48 : Cond.fieldLink RX2 48 (TX2 12).1 (TX2 12).2.1 (TX2 12).2.2.1 ∈ wsX2_back := by decide +kernel
set_option maxRecDepth 100000 in
set_option maxHeartbeats 4000000 in
theorem c_X2_back (l : Launch) (g : zG) (am : Nat → Nat) (L : List Nat) (f : Nat → va_E) (σ : ZS) (bs : Nat → Int64) (th : Int32) (p0 : Int32) (hm : zM g am f σ bs th L f) {ln : Nat → Nat} {kd : Nat → Int32} (hI : zI σ ln kd) : zC l yX2_back wsX2_back { frames := 2, cells := 0, slots := 0, locals := 43 } 0 0 g [.ref (am 0), .int p0] L f (fun r L1 f1 => L = L1 ∧ ∃ (b9 : Int32) (bs1 : Nat → Int64), some (.int b9) = r ∧ zM g am f (o_back σ p0).2.2 bs1 (o_back σ p0).1 L f1 ∧ ((o_back σ p0).1 = 0 → b9 = (o_back σ p0).2.1)) zNo := by
  refine z_ofW (cc := cX2_back) (maxL := 3) (ret := (some .int)) (by decide) rfl (Nat.le_of_ble_eq_true rfl) ?_
  intro p e s m args below meth c ls A hx hb hr hts hown hlocks hml htab hin hw hX hl
  have hl : lv_has ls 3 [(0, .ref (am 0)), (1, .int p0)] := hl
  have hown : s.vm.findClass RX2 = some m.cls := hown
  refine lv_aload_n hx hb dX2_back_0 rfl (lv_at hl 0 rfl) ?_
  refine lv_aload_n hx hb dX2_back_1 rfl (lv_at hl 0 rfl) ?_
  refine lv_iload_n hx hb dX2_back_2 rfl (lv_at hl 1 rfl) ?_
  refine z_callV (As := [.int p0]) (rest := [.ref (am 0)]) ⟨hx, hb, hml, hown, hts⟩ hw hX (hm.1.1 0 (by decide)) rfl (c_X2_is l g am L f σ bs th p0 hm.rf) (cwV 1 hts gX2_back_X2_is rfl rfl rfl (by decide +kernel) ⟨(Nat.le_of_ble_eq_true rfl), (Nat.le_of_ble_eq_true rfl)⟩) rfl hl.1 rfl (Nat.le_of_ble_eq_true rfl) dX2_back_3 ⟨(Nat.le_of_ble_eq_true rfl), (Nat.le_of_ble_eq_true rfl)⟩ (fun _ _ _ _ _ _ _ hp => False.elim hp) (fun r9 L9 f9 H locs hp hw => ?_)
  obtain ⟨rfl, rfl, rfl⟩ := hp
  refine W.eq (g2 := F0 m 6 ls [.int (zb (zis σ p0)), .ref (am 0)]) rfl ?_
  refine zr_bne hx hb dX2_back_6 (tgt := 13) (by decide) (fun c_1 => ?_) (fun c_1 => ?_)
  · refine lv_aload_n hx hb dX2_back_13 rfl (lv_at hl 0 rfl) ?_
    refine zm_get (v := .ref (am 8)) hx hb hts hi_X2_back hown hw hm 7 (by decide) hf_X2_back_32 rfl dX2_back_14 ?_
    refine lv_iload_n hx hb dX2_back_17 rfl (lv_at hl 1 rfl) ?_
    refine zm_ldMK hx hb hw hm (by first | assumption | exact zis_7 (by assumption) | exact zin_7 (by assumption) | exact zin_1 (by assumption)) dX2_back_18 ?_
    refine lv_iconst (v := (-1)) hx hb dX2_back_19 (by decide) ?_
    refine lv_icmp_ne (tgt := 27) hx hb dX2_back_20 (by decide) (fun c_2 => ?_) (fun c_2 => ?_)
    · refine lv_iconst (v := 0) hx hb dX2_back_27 (by decide) ?_
      refine zm_putT hx hb hts hi_X2_back hown hw hm hf_X2_back_48 dX2_back_28 (fun f_3 H locs hm hw => ?_)
      refine lv_aload_n hx hb dX2_back_31 rfl (lv_at hl 0 rfl) ?_
      refine zm_get (v := .int 0) hx hb hts hi_X2_back hown hw hm 12 (by decide) hf_X2_back_48 rfl dX2_back_32 ?_
      refine lv_if_le (tgt := 40) hx hb dX2_back_35 (by decide) (fun c_4 => ?_) (fun c_4 => absurd (by decide) c_4)
      refine lv_aload_n hx hb dX2_back_40 rfl (lv_at hl 0 rfl) ?_
      refine zm_get (v := .ref (am 6)) hx hb hts hi_X2_back hown hw hm 5 (by decide) hf_X2_back_26 rfl dX2_back_41 ?_
      refine lv_iload_n hx hb dX2_back_44 rfl (lv_at hl 1 rfl) ?_
      refine zm_ldPL hx hb hw hm (by first | assumption | exact zis_7 (by assumption) | exact zin_7 (by assumption) | exact zin_1 (by assumption)) dX2_back_45 ?_
      refine lv_aload_n hx hb dX2_back_46 rfl (lv_at hl 0 rfl) ?_
      refine zm_get (v := .ref (am 8)) hx hb hts hi_X2_back hown hw hm 7 (by decide) hf_X2_back_32 rfl dX2_back_47 ?_
      refine lv_iload_n hx hb dX2_back_50 rfl (lv_at hl 1 rfl) ?_
      refine zm_ldMK hx hb hw hm (by first | assumption | exact zis_7 (by assumption) | exact zin_7 (by assumption) | exact zin_1 (by assumption)) dX2_back_51 ?_
      refine lv_isub hx hb dX2_back_52 ?_
      refine lv_istore_n (lv' := [(2, .int ((zPL σ (Int32.toNatClampNeg p0)) - (zMK σ (Int32.toNatClampNeg p0)))), (0, .ref (am 0)), (1, .int p0)]) hx hb dX2_back_53 rfl hl (by decide) rfl (fun ls hl => ?_)
      refine lv_aload_n hx hb dX2_back_54 rfl (lv_at hl 1 rfl) ?_
      refine zm_get (v := .ref (am 6)) hx hb hts hi_X2_back hown hw hm 5 (by decide) hf_X2_back_26 rfl dX2_back_55 ?_
      refine lv_iload_n hx hb dX2_back_58 rfl (lv_at hl 2 rfl) ?_
      refine lv_aload_n hx hb dX2_back_59 rfl (lv_at hl 1 rfl) ?_
      refine zm_get (v := .ref (am 8)) hx hb hts hi_X2_back hown hw hm 7 (by decide) hf_X2_back_32 rfl dX2_back_60 ?_
      refine lv_iload_n hx hb dX2_back_63 rfl (lv_at hl 2 rfl) ?_
      refine zm_ldMK hx hb hw hm (by first | assumption | exact zis_7 (by assumption) | exact zin_7 (by assumption) | exact zin_1 (by assumption)) dX2_back_64 ?_
      refine zm_stPL hx hb hw hm (by first | assumption | exact zis_7 (by assumption) | exact zin_7 (by assumption) | exact zin_1 (by assumption)) dX2_back_65 (fun f_5 H locs hm hw => ?_)
      refine lv_iload_n hx hb dX2_back_66 rfl (lv_at hl 0 rfl) ?_
      have ho : (o_back σ p0) = (0, ((zPL σ (Int32.toNatClampNeg p0)) - (zMK σ (Int32.toNatClampNeg p0))), (zsPL σ (upd (zPL σ) (Int32.toNatClampNeg p0) (zMK σ (Int32.toNatClampNeg p0))))) := by unfold o_back; first | exact (if_pos (show (zis σ p0 = true) from by assumption)).trans (if_neg (show ¬ (zMK σ (Int32.toNatClampNeg p0) = -1) from by assumption))
      exact z_iret hx hb hr hlocks hw (Nat.le_of_ble_eq_true rfl) (Nat.le_of_ble_eq_true rfl) dX2_back_67 ⟨rfl, _, _, rfl, by rw [ho]; exact hm, by rw [ho]; exact fun _ => rfl⟩
    · refine lv_iconst (v := 2) hx hb dX2_back_23 (by decide) ?_
      refine lv_goto (tgt := 28) hx hb dX2_back_24 (by decide) ?_
      refine zm_putT hx hb hts hi_X2_back hown hw hm hf_X2_back_48 dX2_back_28 (fun f_6 H locs hm hw => ?_)
      refine lv_aload_n hx hb dX2_back_31 rfl (lv_at hl 0 rfl) ?_
      refine zm_get (v := .int 2) hx hb hts hi_X2_back hown hw hm 12 (by decide) hf_X2_back_48 rfl dX2_back_32 ?_
      refine lv_if_le (tgt := 40) hx hb dX2_back_35 (by decide) (fun c_7 => absurd c_7 (by decide)) (fun c_7 => ?_)
      refine lv_iconst (v := 0) hx hb dX2_back_38 (by decide) ?_
      have ho : (o_back σ p0) = (2, 0, σ) := by unfold o_back; first | exact (if_pos (show (zis σ p0 = true) from by assumption)).trans (if_pos (show (zMK σ (Int32.toNatClampNeg p0) = -1) from by assumption))
      exact z_iret hx hb hr hlocks hw (Nat.le_of_ble_eq_true rfl) (Nat.le_of_ble_eq_true rfl) dX2_back_39 ⟨rfl, _, _, rfl, by rw [ho]; exact hm, by rw [ho]; exact fun h => absurd (show (2 : Int32) = 0 from h) (by decide)⟩
  · refine lv_iconst (v := 1) hx hb dX2_back_9 (by decide) ?_
    refine lv_goto (tgt := 28) hx hb dX2_back_10 (by decide) ?_
    refine zm_putT hx hb hts hi_X2_back hown hw hm hf_X2_back_48 dX2_back_28 (fun f_8 H locs hm hw => ?_)
    refine lv_aload_n hx hb dX2_back_31 rfl (lv_at hl 0 rfl) ?_
    refine zm_get (v := .int 1) hx hb hts hi_X2_back hown hw hm 12 (by decide) hf_X2_back_48 rfl dX2_back_32 ?_
    refine lv_if_le (tgt := 40) hx hb dX2_back_35 (by decide) (fun c_9 => absurd c_9 (by decide)) (fun c_9 => ?_)
    refine lv_iconst (v := 0) hx hb dX2_back_38 (by decide) ?_
    have ho : (o_back σ p0) = (1, 0, σ) := by unfold o_back; first | exact if_neg (show ¬ (zis σ p0 = true) from by assumption)
    exact z_iret hx hb hr hlocks hw (Nat.le_of_ble_eq_true rfl) (Nat.le_of_ble_eq_true rfl) dX2_back_39 ⟨rfl, _, _, rfl, by rw [ho]; exact hm, by rw [ho]; exact fun h => absurd (show (1 : Int32) = 0 from h) (by decide)⟩

def o_clear (σ : ZS) (p0 : Int32) : Int32 × Int32 × ZS := if zis σ p0 = true then (0, zEN (zStands σ (Int32.toNatClampNeg p0) 0 (zSZ σ (Int32.toNatClampNeg p0))) (Int32.toNatClampNeg p0), (zStands σ (Int32.toNatClampNeg p0) 0 (zSZ σ (Int32.toNatClampNeg p0)))) else (1, 0, σ)

theorem hi_X2_clear : ∀ w ∈ wsX20, w ∈ wsX2_clear := by decide +kernel
theorem hf_X2_clear_23 : Cond.fieldLink RX2 23 (TX2 4).1 (TX2 4).2.1 (TX2 4).2.2.1 ∈ wsX2_clear := by decide +kernel
theorem hf_X2_clear_29 : Cond.fieldLink RX2 29 (TX2 6).1 (TX2 6).2.1 (TX2 6).2.2.1 ∈ wsX2_clear := by decide +kernel
set_option maxRecDepth 100000 in
set_option maxHeartbeats 4000000 in
theorem c_X2_clear (l : Launch) (g : zG) (am : Nat → Nat) (L : List Nat) (f : Nat → va_E) (σ : ZS) (bs : Nat → Int64) (th : Int32) (p0 : Int32) (hm : zM g am f σ bs th L f) {ln : Nat → Nat} {kd : Nat → Int32} (hI : zI σ ln kd) : zC l yX2_clear wsX2_clear { frames := 3, cells := 0, slots := 0, locals := 64 } 0 0 g [.ref (am 0), .int p0] L f (fun r L1 f1 => L = L1 ∧ ∃ (b9 : Int32) (bs1 : Nat → Int64), some (.int b9) = r ∧ zM g am f (o_clear σ p0).2.2 bs1 (o_clear σ p0).1 L f1 ∧ ((o_clear σ p0).1 = 0 → b9 = (o_clear σ p0).2.1)) zNo := by
  refine z_ofW (cc := cX2_clear) (maxL := 2) (ret := (some .int)) (by decide) rfl (Nat.le_of_ble_eq_true rfl) ?_
  intro p e s m args below meth c ls A hx hb hr hts hown hlocks hml htab hin hw hX hl
  have hl : lv_has ls 2 [(0, .ref (am 0)), (1, .int p0)] := hl
  have hown : s.vm.findClass RX2 = some m.cls := hown
  refine lv_aload_n hx hb dX2_clear_0 rfl (lv_at hl 0 rfl) ?_
  refine lv_iload_n hx hb dX2_clear_1 rfl (lv_at hl 1 rfl) ?_
  refine z_callV (As := [.int p0]) (rest := []) ⟨hx, hb, hml, hown, hts⟩ hw hX (hm.1.1 0 (by decide)) rfl (c_X2_isWindow l g am L f σ bs th p0 hm.rf) (cwV 1 hts gX2_clear_X2_isWindow rfl rfl rfl (by decide +kernel) ⟨(Nat.le_of_ble_eq_true rfl), (Nat.le_of_ble_eq_true rfl)⟩) rfl hl.1 rfl (Nat.le_of_ble_eq_true rfl) dX2_clear_2 ⟨(Nat.le_of_ble_eq_true rfl), (Nat.le_of_ble_eq_true rfl)⟩ (fun _ _ _ _ _ _ _ hp => False.elim hp) (fun r9 L9 f9 H locs hp hw => ?_)
  rcases hp with ⟨c_1, rfl, rfl, hm9⟩ | ⟨c_1, rfl, rfl, hm9⟩
  · refine W.eq (g2 := F0 m 5 ls [.int 1]) rfl ?_
    have hm := hm.tr hm9
    refine lv_if_ne (tgt := 10) hx hb dX2_clear_5 (by decide) (fun c_2 => ?_) (fun c_2 => absurd c_2 (by decide))
    refine lv_aload_n hx hb dX2_clear_10 rfl (lv_at hl 0 rfl) ?_
    refine lv_iload_n hx hb dX2_clear_11 rfl (lv_at hl 1 rfl) ?_
    refine lv_iconst (v := 0) hx hb dX2_clear_12 (by decide) ?_
    refine lv_aload_n hx hb dX2_clear_13 rfl (lv_at hl 0 rfl) ?_
    refine zm_get (v := .ref (am 5)) hx hb hts hi_X2_clear hown hw hm 4 (by decide) hf_X2_clear_23 rfl dX2_clear_14 ?_
    refine lv_iload_n hx hb dX2_clear_17 rfl (lv_at hl 1 rfl) ?_
    refine zm_ldSZ hx hb hw hm (by first | assumption | exact zis_7 (by assumption) | exact zin_7 (by assumption) | exact zin_1 (by assumption)) dX2_clear_18 ?_
    refine z_callV (As := [.int p0, .int 0, .int (zSZ σ (Int32.toNatClampNeg p0))]) (rest := []) ⟨hx, hb, hml, hown, hts⟩ hw hX (hm.1.1 0 (by decide)) rfl (c_X2_stands l g am L f9 σ bs 0 p0 0 (zSZ σ (Int32.toNatClampNeg p0)) hm.rf (by first | assumption | exact zis_7 (by assumption) | exact zin_7 (by assumption) | exact zin_1 (by assumption))) (cwV 3 hts gX2_clear_X2_stands rfl rfl rfl (by decide +kernel) ⟨(Nat.le_of_ble_eq_true rfl), (Nat.le_of_ble_eq_true rfl)⟩) rfl hl.1 rfl (Nat.le_of_ble_eq_true rfl) dX2_clear_19 ⟨(Nat.le_of_ble_eq_true rfl), (Nat.le_of_ble_eq_true rfl)⟩ (fun _ _ _ _ _ _ _ hp => False.elim hp) (fun r9 L9 f9 H locs hp hw => ?_)
    obtain ⟨rfl, rfl, hm9⟩ := hp
    refine W.eq (g2 := F0 m 22 ls []) rfl ?_
    have hm := hm.tr hm9
    refine lv_aload_n hx hb dX2_clear_22 rfl (lv_at hl 0 rfl) ?_
    refine zm_get (v := .ref (am 7)) hx hb hts hi_X2_clear hown hw hm 6 (by decide) hf_X2_clear_29 rfl dX2_clear_23 ?_
    refine lv_iload_n hx hb dX2_clear_26 rfl (lv_at hl 1 rfl) ?_
    refine zm_ldEN hx hb hw hm (by first | assumption | exact zis_7 (by assumption) | exact zin_7 (by assumption) | exact zin_1 (by assumption)) dX2_clear_27 ?_
    have ho : (o_clear σ p0) = (0, (zEN (zStands σ (Int32.toNatClampNeg p0) 0 (zSZ σ (Int32.toNatClampNeg p0))) (Int32.toNatClampNeg p0)), (zStands σ (Int32.toNatClampNeg p0) 0 (zSZ σ (Int32.toNatClampNeg p0)))) := by unfold o_clear; first | exact if_pos (show (zis σ p0 = true) from by assumption)
    exact z_iret hx hb hr hlocks hw (Nat.le_of_ble_eq_true rfl) (Nat.le_of_ble_eq_true rfl) dX2_clear_28 ⟨rfl, _, _, rfl, by rw [ho]; exact hm, by rw [ho]; exact fun _ => rfl⟩
  · refine W.eq (g2 := F0 m 5 ls [.int 0]) rfl ?_
    have hm := hm.tr hm9
    refine lv_if_ne (tgt := 10) hx hb dX2_clear_5 (by decide) (fun c_3 => absurd (by decide) c_3) (fun c_3 => ?_)
    refine lv_iconst (v := 0) hx hb dX2_clear_8 (by decide) ?_
    have ho : (o_clear σ p0) = (1, 0, σ) := by unfold o_clear; first | exact if_neg (show ¬ (zis σ p0 = true) from by assumption)
    exact z_iret hx hb hr hlocks hw (Nat.le_of_ble_eq_true rfl) (Nat.le_of_ble_eq_true rfl) dX2_clear_9 ⟨rfl, _, _, rfl, by rw [ho]; exact hm, by rw [ho]; exact fun h => absurd (show (1 : Int32) = 0 from h) (by decide)⟩

def o_flip (σ : ZS) (p0 : Int32) : Int32 × Int32 × ZS := if zis σ p0 = true then (0, zEN (zStands σ (Int32.toNatClampNeg p0) 0 (zPL σ (Int32.toNatClampNeg p0))) (Int32.toNatClampNeg p0), (zStands σ (Int32.toNatClampNeg p0) 0 (zPL σ (Int32.toNatClampNeg p0)))) else (1, 0, σ)

theorem hi_X2_flip : ∀ w ∈ wsX20, w ∈ wsX2_flip := by decide +kernel
theorem hf_X2_flip_26 : Cond.fieldLink RX2 26 (TX2 5).1 (TX2 5).2.1 (TX2 5).2.2.1 ∈ wsX2_flip := by decide +kernel
theorem hf_X2_flip_29 : Cond.fieldLink RX2 29 (TX2 6).1 (TX2 6).2.1 (TX2 6).2.2.1 ∈ wsX2_flip := by decide +kernel
set_option maxRecDepth 100000 in
set_option maxHeartbeats 4000000 in
theorem c_X2_flip (l : Launch) (g : zG) (am : Nat → Nat) (L : List Nat) (f : Nat → va_E) (σ : ZS) (bs : Nat → Int64) (th : Int32) (p0 : Int32) (hm : zM g am f σ bs th L f) {ln : Nat → Nat} {kd : Nat → Int32} (hI : zI σ ln kd) : zC l yX2_flip wsX2_flip { frames := 3, cells := 0, slots := 0, locals := 64 } 0 0 g [.ref (am 0), .int p0] L f (fun r L1 f1 => L = L1 ∧ ∃ (b9 : Int32) (bs1 : Nat → Int64), some (.int b9) = r ∧ zM g am f (o_flip σ p0).2.2 bs1 (o_flip σ p0).1 L f1 ∧ ((o_flip σ p0).1 = 0 → b9 = (o_flip σ p0).2.1)) zNo := by
  refine z_ofW (cc := cX2_flip) (maxL := 2) (ret := (some .int)) (by decide) rfl (Nat.le_of_ble_eq_true rfl) ?_
  intro p e s m args below meth c ls A hx hb hr hts hown hlocks hml htab hin hw hX hl
  have hl : lv_has ls 2 [(0, .ref (am 0)), (1, .int p0)] := hl
  have hown : s.vm.findClass RX2 = some m.cls := hown
  refine lv_aload_n hx hb dX2_flip_0 rfl (lv_at hl 0 rfl) ?_
  refine lv_iload_n hx hb dX2_flip_1 rfl (lv_at hl 1 rfl) ?_
  refine z_callV (As := [.int p0]) (rest := []) ⟨hx, hb, hml, hown, hts⟩ hw hX (hm.1.1 0 (by decide)) rfl (c_X2_isWindow l g am L f σ bs th p0 hm.rf) (cwV 1 hts gX2_flip_X2_isWindow rfl rfl rfl (by decide +kernel) ⟨(Nat.le_of_ble_eq_true rfl), (Nat.le_of_ble_eq_true rfl)⟩) rfl hl.1 rfl (Nat.le_of_ble_eq_true rfl) dX2_flip_2 ⟨(Nat.le_of_ble_eq_true rfl), (Nat.le_of_ble_eq_true rfl)⟩ (fun _ _ _ _ _ _ _ hp => False.elim hp) (fun r9 L9 f9 H locs hp hw => ?_)
  rcases hp with ⟨c_1, rfl, rfl, hm9⟩ | ⟨c_1, rfl, rfl, hm9⟩
  · refine W.eq (g2 := F0 m 5 ls [.int 1]) rfl ?_
    have hm := hm.tr hm9
    refine lv_if_ne (tgt := 10) hx hb dX2_flip_5 (by decide) (fun c_2 => ?_) (fun c_2 => absurd c_2 (by decide))
    refine lv_aload_n hx hb dX2_flip_10 rfl (lv_at hl 0 rfl) ?_
    refine lv_iload_n hx hb dX2_flip_11 rfl (lv_at hl 1 rfl) ?_
    refine lv_iconst (v := 0) hx hb dX2_flip_12 (by decide) ?_
    refine lv_aload_n hx hb dX2_flip_13 rfl (lv_at hl 0 rfl) ?_
    refine zm_get (v := .ref (am 6)) hx hb hts hi_X2_flip hown hw hm 5 (by decide) hf_X2_flip_26 rfl dX2_flip_14 ?_
    refine lv_iload_n hx hb dX2_flip_17 rfl (lv_at hl 1 rfl) ?_
    refine zm_ldPL hx hb hw hm (by first | assumption | exact zis_7 (by assumption) | exact zin_7 (by assumption) | exact zin_1 (by assumption)) dX2_flip_18 ?_
    refine z_callV (As := [.int p0, .int 0, .int (zPL σ (Int32.toNatClampNeg p0))]) (rest := []) ⟨hx, hb, hml, hown, hts⟩ hw hX (hm.1.1 0 (by decide)) rfl (c_X2_stands l g am L f9 σ bs 0 p0 0 (zPL σ (Int32.toNatClampNeg p0)) hm.rf (by first | assumption | exact zis_7 (by assumption) | exact zin_7 (by assumption) | exact zin_1 (by assumption))) (cwV 3 hts gX2_flip_X2_stands rfl rfl rfl (by decide +kernel) ⟨(Nat.le_of_ble_eq_true rfl), (Nat.le_of_ble_eq_true rfl)⟩) rfl hl.1 rfl (Nat.le_of_ble_eq_true rfl) dX2_flip_19 ⟨(Nat.le_of_ble_eq_true rfl), (Nat.le_of_ble_eq_true rfl)⟩ (fun _ _ _ _ _ _ _ hp => False.elim hp) (fun r9 L9 f9 H locs hp hw => ?_)
    obtain ⟨rfl, rfl, hm9⟩ := hp
    refine W.eq (g2 := F0 m 22 ls []) rfl ?_
    have hm := hm.tr hm9
    refine lv_aload_n hx hb dX2_flip_22 rfl (lv_at hl 0 rfl) ?_
    refine zm_get (v := .ref (am 7)) hx hb hts hi_X2_flip hown hw hm 6 (by decide) hf_X2_flip_29 rfl dX2_flip_23 ?_
    refine lv_iload_n hx hb dX2_flip_26 rfl (lv_at hl 1 rfl) ?_
    refine zm_ldEN hx hb hw hm (by first | assumption | exact zis_7 (by assumption) | exact zin_7 (by assumption) | exact zin_1 (by assumption)) dX2_flip_27 ?_
    have ho : (o_flip σ p0) = (0, (zEN (zStands σ (Int32.toNatClampNeg p0) 0 (zPL σ (Int32.toNatClampNeg p0))) (Int32.toNatClampNeg p0)), (zStands σ (Int32.toNatClampNeg p0) 0 (zPL σ (Int32.toNatClampNeg p0)))) := by unfold o_flip; first | exact if_pos (show (zis σ p0 = true) from by assumption)
    exact z_iret hx hb hr hlocks hw (Nat.le_of_ble_eq_true rfl) (Nat.le_of_ble_eq_true rfl) dX2_flip_28 ⟨rfl, _, _, rfl, by rw [ho]; exact hm, by rw [ho]; exact fun _ => rfl⟩
  · refine W.eq (g2 := F0 m 5 ls [.int 0]) rfl ?_
    have hm := hm.tr hm9
    refine lv_if_ne (tgt := 10) hx hb dX2_flip_5 (by decide) (fun c_3 => absurd (by decide) c_3) (fun c_3 => ?_)
    refine lv_iconst (v := 0) hx hb dX2_flip_8 (by decide) ?_
    have ho : (o_flip σ p0) = (1, 0, σ) := by unfold o_flip; first | exact if_neg (show ¬ (zis σ p0 = true) from by assumption)
    exact z_iret hx hb hr hlocks hw (Nat.le_of_ble_eq_true rfl) (Nat.le_of_ble_eq_true rfl) dX2_flip_9 ⟨rfl, _, _, rfl, by rw [ho]; exact hm, by rw [ho]; exact fun h => absurd (show (1 : Int32) = 0 from h) (by decide)⟩

def o_rewind (σ : ZS) (p0 : Int32) : Int32 × Int32 × ZS := if zis σ p0 = true then (0, zEN (zStands σ (Int32.toNatClampNeg p0) 0 (zEN σ (Int32.toNatClampNeg p0))) (Int32.toNatClampNeg p0), (zStands σ (Int32.toNatClampNeg p0) 0 (zEN σ (Int32.toNatClampNeg p0)))) else (1, 0, σ)

theorem hi_X2_rewind : ∀ w ∈ wsX20, w ∈ wsX2_rewind := by decide +kernel
theorem hf_X2_rewind_29 : Cond.fieldLink RX2 29 (TX2 6).1 (TX2 6).2.1 (TX2 6).2.2.1 ∈ wsX2_rewind := by decide +kernel
set_option maxRecDepth 100000 in
set_option maxHeartbeats 4000000 in
theorem c_X2_rewind (l : Launch) (g : zG) (am : Nat → Nat) (L : List Nat) (f : Nat → va_E) (σ : ZS) (bs : Nat → Int64) (th : Int32) (p0 : Int32) (hm : zM g am f σ bs th L f) {ln : Nat → Nat} {kd : Nat → Int32} (hI : zI σ ln kd) : zC l yX2_rewind wsX2_rewind { frames := 3, cells := 0, slots := 0, locals := 64 } 0 0 g [.ref (am 0), .int p0] L f (fun r L1 f1 => L = L1 ∧ ∃ (b9 : Int32) (bs1 : Nat → Int64), some (.int b9) = r ∧ zM g am f (o_rewind σ p0).2.2 bs1 (o_rewind σ p0).1 L f1 ∧ ((o_rewind σ p0).1 = 0 → b9 = (o_rewind σ p0).2.1)) zNo := by
  refine z_ofW (cc := cX2_rewind) (maxL := 2) (ret := (some .int)) (by decide) rfl (Nat.le_of_ble_eq_true rfl) ?_
  intro p e s m args below meth c ls A hx hb hr hts hown hlocks hml htab hin hw hX hl
  have hl : lv_has ls 2 [(0, .ref (am 0)), (1, .int p0)] := hl
  have hown : s.vm.findClass RX2 = some m.cls := hown
  refine lv_aload_n hx hb dX2_rewind_0 rfl (lv_at hl 0 rfl) ?_
  refine lv_iload_n hx hb dX2_rewind_1 rfl (lv_at hl 1 rfl) ?_
  refine z_callV (As := [.int p0]) (rest := []) ⟨hx, hb, hml, hown, hts⟩ hw hX (hm.1.1 0 (by decide)) rfl (c_X2_isWindow l g am L f σ bs th p0 hm.rf) (cwV 1 hts gX2_rewind_X2_isWindow rfl rfl rfl (by decide +kernel) ⟨(Nat.le_of_ble_eq_true rfl), (Nat.le_of_ble_eq_true rfl)⟩) rfl hl.1 rfl (Nat.le_of_ble_eq_true rfl) dX2_rewind_2 ⟨(Nat.le_of_ble_eq_true rfl), (Nat.le_of_ble_eq_true rfl)⟩ (fun _ _ _ _ _ _ _ hp => False.elim hp) (fun r9 L9 f9 H locs hp hw => ?_)
  rcases hp with ⟨c_1, rfl, rfl, hm9⟩ | ⟨c_1, rfl, rfl, hm9⟩
  · refine W.eq (g2 := F0 m 5 ls [.int 1]) rfl ?_
    have hm := hm.tr hm9
    refine lv_if_ne (tgt := 10) hx hb dX2_rewind_5 (by decide) (fun c_2 => ?_) (fun c_2 => absurd c_2 (by decide))
    refine lv_aload_n hx hb dX2_rewind_10 rfl (lv_at hl 0 rfl) ?_
    refine lv_iload_n hx hb dX2_rewind_11 rfl (lv_at hl 1 rfl) ?_
    refine lv_iconst (v := 0) hx hb dX2_rewind_12 (by decide) ?_
    refine lv_aload_n hx hb dX2_rewind_13 rfl (lv_at hl 0 rfl) ?_
    refine zm_get (v := .ref (am 7)) hx hb hts hi_X2_rewind hown hw hm 6 (by decide) hf_X2_rewind_29 rfl dX2_rewind_14 ?_
    refine lv_iload_n hx hb dX2_rewind_17 rfl (lv_at hl 1 rfl) ?_
    refine zm_ldEN hx hb hw hm (by first | assumption | exact zis_7 (by assumption) | exact zin_7 (by assumption) | exact zin_1 (by assumption)) dX2_rewind_18 ?_
    refine z_callV (As := [.int p0, .int 0, .int (zEN σ (Int32.toNatClampNeg p0))]) (rest := []) ⟨hx, hb, hml, hown, hts⟩ hw hX (hm.1.1 0 (by decide)) rfl (c_X2_stands l g am L f9 σ bs 0 p0 0 (zEN σ (Int32.toNatClampNeg p0)) hm.rf (by first | assumption | exact zis_7 (by assumption) | exact zin_7 (by assumption) | exact zin_1 (by assumption))) (cwV 3 hts gX2_rewind_X2_stands rfl rfl rfl (by decide +kernel) ⟨(Nat.le_of_ble_eq_true rfl), (Nat.le_of_ble_eq_true rfl)⟩) rfl hl.1 rfl (Nat.le_of_ble_eq_true rfl) dX2_rewind_19 ⟨(Nat.le_of_ble_eq_true rfl), (Nat.le_of_ble_eq_true rfl)⟩ (fun _ _ _ _ _ _ _ hp => False.elim hp) (fun r9 L9 f9 H locs hp hw => ?_)
    obtain ⟨rfl, rfl, hm9⟩ := hp
    refine W.eq (g2 := F0 m 22 ls []) rfl ?_
    have hm := hm.tr hm9
    refine lv_aload_n hx hb dX2_rewind_22 rfl (lv_at hl 0 rfl) ?_
    refine zm_get (v := .ref (am 7)) hx hb hts hi_X2_rewind hown hw hm 6 (by decide) hf_X2_rewind_29 rfl dX2_rewind_23 ?_
    refine lv_iload_n hx hb dX2_rewind_26 rfl (lv_at hl 1 rfl) ?_
    refine zm_ldEN hx hb hw hm (by first | assumption | exact zis_7 (by assumption) | exact zin_7 (by assumption) | exact zin_1 (by assumption)) dX2_rewind_27 ?_
    have ho : (o_rewind σ p0) = (0, (zEN (zStands σ (Int32.toNatClampNeg p0) 0 (zEN σ (Int32.toNatClampNeg p0))) (Int32.toNatClampNeg p0)), (zStands σ (Int32.toNatClampNeg p0) 0 (zEN σ (Int32.toNatClampNeg p0)))) := by unfold o_rewind; first | exact if_pos (show (zis σ p0 = true) from by assumption)
    exact z_iret hx hb hr hlocks hw (Nat.le_of_ble_eq_true rfl) (Nat.le_of_ble_eq_true rfl) dX2_rewind_28 ⟨rfl, _, _, rfl, by rw [ho]; exact hm, by rw [ho]; exact fun _ => rfl⟩
  · refine W.eq (g2 := F0 m 5 ls [.int 0]) rfl ?_
    have hm := hm.tr hm9
    refine lv_if_ne (tgt := 10) hx hb dX2_rewind_5 (by decide) (fun c_3 => absurd (by decide) c_3) (fun c_3 => ?_)
    refine lv_iconst (v := 0) hx hb dX2_rewind_8 (by decide) ?_
    have ho : (o_rewind σ p0) = (1, 0, σ) := by unfold o_rewind; first | exact if_neg (show ¬ (zis σ p0 = true) from by assumption)
    exact z_iret hx hb hr hlocks hw (Nat.le_of_ble_eq_true rfl) (Nat.le_of_ble_eq_true rfl) dX2_rewind_9 ⟨rfl, _, _, rfl, by rw [ho]; exact hm, by rw [ho]; exact fun h => absurd (show (1 : Int32) = 0 from h) (by decide)⟩

def o_get (σ : ZS) (p0 : Int32) : Int32 × Int64 × ZS := if zis σ p0 = true then if zPL σ (Int32.toNatClampNeg p0) = zEN σ (Int32.toNatClampNeg p0) then (2, 0, σ) else (0, zVal (zsPL σ (upd (zPL σ) (Int32.toNatClampNeg p0) (zPL σ (Int32.toNatClampNeg p0) + 1))) (Int32.toNatClampNeg p0) (zPL (zsPL σ (upd (zPL σ) (Int32.toNatClampNeg p0) (zPL σ (Int32.toNatClampNeg p0) + 1))) (Int32.toNatClampNeg p0) - 1), (zsPL σ (upd (zPL σ) (Int32.toNatClampNeg p0) (zPL σ (Int32.toNatClampNeg p0) + 1)))) else (1, 0, σ)

theorem hi_X2_get : ∀ w ∈ wsX20, w ∈ wsX2_get := by decide +kernel
theorem hf_X2_get_26 : Cond.fieldLink RX2 26 (TX2 5).1 (TX2 5).2.1 (TX2 5).2.2.1 ∈ wsX2_get := by decide +kernel
theorem hf_X2_get_29 : Cond.fieldLink RX2 29 (TX2 6).1 (TX2 6).2.1 (TX2 6).2.2.1 ∈ wsX2_get := by decide +kernel
theorem hf_X2_get_48 : Cond.fieldLink RX2 48 (TX2 12).1 (TX2 12).2.1 (TX2 12).2.2.1 ∈ wsX2_get := by decide +kernel
set_option maxRecDepth 100000 in
set_option maxHeartbeats 4000000 in
theorem c_X2_get (l : Launch) (g : zG) (am : Nat → Nat) (L : List Nat) (f : Nat → va_E) (σ : ZS) (bs : Nat → Int64) (th : Int32) (p0 : Int32) (hm : zM g am f σ bs th L f) {ln : Nat → Nat} {kd : Nat → Int32} (hI : zI σ ln kd) : zC l yX2_get wsX2_get { frames := 2, cells := 0, slots := 0, locals := 43 } 0 0 g [.ref (am 0), .int p0] L f (fun r L1 f1 => L = L1 ∧ ∃ (b9 : Int64) (bs1 : Nat → Int64), some (.long b9) = r ∧ zM g am f (o_get σ p0).2.2 bs1 (o_get σ p0).1 L f1 ∧ ((o_get σ p0).1 = 0 → b9 = (o_get σ p0).2.1)) zNo := by
  refine z_ofW (cc := cX2_get) (maxL := 2) (ret := (some .long)) (by decide) rfl (Nat.le_of_ble_eq_true rfl) ?_
  intro p e s m args below meth c ls A hx hb hr hts hown hlocks hml htab hin hw hX hl
  have hl : lv_has ls 2 [(0, .ref (am 0)), (1, .int p0)] := hl
  have hown : s.vm.findClass RX2 = some m.cls := hown
  refine lv_aload_n hx hb dX2_get_0 rfl (lv_at hl 0 rfl) ?_
  refine lv_aload_n hx hb dX2_get_1 rfl (lv_at hl 0 rfl) ?_
  refine lv_iload_n hx hb dX2_get_2 rfl (lv_at hl 1 rfl) ?_
  refine z_callV (As := [.int p0]) (rest := [.ref (am 0)]) ⟨hx, hb, hml, hown, hts⟩ hw hX (hm.1.1 0 (by decide)) rfl (c_X2_is l g am L f σ bs th p0 hm.rf) (cwV 1 hts gX2_get_X2_is rfl rfl rfl (by decide +kernel) ⟨(Nat.le_of_ble_eq_true rfl), (Nat.le_of_ble_eq_true rfl)⟩) rfl hl.1 rfl (Nat.le_of_ble_eq_true rfl) dX2_get_3 ⟨(Nat.le_of_ble_eq_true rfl), (Nat.le_of_ble_eq_true rfl)⟩ (fun _ _ _ _ _ _ _ hp => False.elim hp) (fun r9 L9 f9 H locs hp hw => ?_)
  obtain ⟨rfl, rfl, rfl⟩ := hp
  refine W.eq (g2 := F0 m 6 ls [.int (zb (zis σ p0)), .ref (am 0)]) rfl ?_
  refine zr_bne hx hb dX2_get_6 (tgt := 13) (by decide) (fun c_1 => ?_) (fun c_1 => ?_)
  · refine lv_aload_n hx hb dX2_get_13 rfl (lv_at hl 0 rfl) ?_
    refine zm_get (v := .ref (am 6)) hx hb hts hi_X2_get hown hw hm 5 (by decide) hf_X2_get_26 rfl dX2_get_14 ?_
    refine lv_iload_n hx hb dX2_get_17 rfl (lv_at hl 1 rfl) ?_
    refine zm_ldPL hx hb hw hm (by first | assumption | exact zis_7 (by assumption) | exact zin_7 (by assumption) | exact zin_1 (by assumption)) dX2_get_18 ?_
    refine lv_aload_n hx hb dX2_get_19 rfl (lv_at hl 0 rfl) ?_
    refine zm_get (v := .ref (am 7)) hx hb hts hi_X2_get hown hw hm 6 (by decide) hf_X2_get_29 rfl dX2_get_20 ?_
    refine lv_iload_n hx hb dX2_get_23 rfl (lv_at hl 1 rfl) ?_
    refine zm_ldEN hx hb hw hm (by first | assumption | exact zis_7 (by assumption) | exact zin_7 (by assumption) | exact zin_1 (by assumption)) dX2_get_24 ?_
    refine lv_icmp_ne (tgt := 32) hx hb dX2_get_25 (by decide) (fun c_2 => ?_) (fun c_2 => ?_)
    · refine lv_iconst (v := 0) hx hb dX2_get_32 (by decide) ?_
      refine zm_putT hx hb hts hi_X2_get hown hw hm hf_X2_get_48 dX2_get_33 (fun f_3 H locs hm hw => ?_)
      refine lv_aload_n hx hb dX2_get_36 rfl (lv_at hl 0 rfl) ?_
      refine zm_get (v := .int 0) hx hb hts hi_X2_get hown hw hm 12 (by decide) hf_X2_get_48 rfl dX2_get_37 ?_
      refine lv_if_le (tgt := 45) hx hb dX2_get_40 (by decide) (fun c_4 => ?_) (fun c_4 => absurd (by decide) c_4)
      refine lv_aload_n hx hb dX2_get_45 rfl (lv_at hl 0 rfl) ?_
      refine zm_get (v := .ref (am 6)) hx hb hts hi_X2_get hown hw hm 5 (by decide) hf_X2_get_26 rfl dX2_get_46 ?_
      refine lv_iload_n hx hb dX2_get_49 rfl (lv_at hl 1 rfl) ?_
      refine lv_dup2_11 hx hb dX2_get_50 rfl rfl ?_
      refine zm_ldPL hx hb hw hm (by first | assumption | exact zis_7 (by assumption) | exact zin_7 (by assumption) | exact zin_1 (by assumption)) dX2_get_51 ?_
      refine lv_iconst (v := 1) hx hb dX2_get_52 (by decide) ?_
      refine lv_iadd hx hb dX2_get_53 ?_
      refine zm_stPL hx hb hw hm (by first | assumption | exact zis_7 (by assumption) | exact zin_7 (by assumption) | exact zin_1 (by assumption)) dX2_get_54 (fun f_5 H locs hm hw => ?_)
      refine lv_aload_n hx hb dX2_get_55 rfl (lv_at hl 0 rfl) ?_
      refine lv_iload_n hx hb dX2_get_56 rfl (lv_at hl 1 rfl) ?_
      refine lv_aload_n hx hb dX2_get_57 rfl (lv_at hl 0 rfl) ?_
      refine zm_get (v := .ref (am 6)) hx hb hts hi_X2_get hown hw hm 5 (by decide) hf_X2_get_26 rfl dX2_get_58 ?_
      refine lv_iload_n hx hb dX2_get_61 rfl (lv_at hl 1 rfl) ?_
      refine zm_ldPL hx hb hw hm (by first | assumption | exact zis_7 (by assumption) | exact zin_7 (by assumption) | exact zin_1 (by assumption)) dX2_get_62 ?_
      refine lv_iconst (v := 1) hx hb dX2_get_63 (by decide) ?_
      refine lv_isub hx hb dX2_get_64 ?_
      refine z_callV (As := [.int p0, .int ((zPL (zsPL σ (upd (zPL σ) (Int32.toNatClampNeg p0) ((zPL σ (Int32.toNatClampNeg p0)) + 1))) (Int32.toNatClampNeg p0)) - 1)]) (rest := []) ⟨hx, hb, hml, hown, hts⟩ hw hX (hm.1.1 0 (by decide)) rfl (c_X2_value l g am L f_5 (zsPL σ (upd (zPL σ) (Int32.toNatClampNeg p0) ((zPL σ (Int32.toNatClampNeg p0)) + 1))) bs 0 p0 ((zPL (zsPL σ (upd (zPL σ) (Int32.toNatClampNeg p0) ((zPL σ (Int32.toNatClampNeg p0)) + 1))) (Int32.toNatClampNeg p0)) - 1) hm.rf (by first | assumption | exact zis_7 (by assumption) | exact zin_7 (by assumption) | exact zin_1 (by assumption)) (zAt_inc (zI_win hI (by assumption)) (by assumption))) (cwV 2 hts gX2_get_X2_value rfl rfl rfl (by decide +kernel) ⟨(Nat.le_of_ble_eq_true rfl), (Nat.le_of_ble_eq_true rfl)⟩) rfl hl.1 rfl (Nat.le_of_ble_eq_true rfl) dX2_get_65 ⟨(Nat.le_of_ble_eq_true rfl), (Nat.le_of_ble_eq_true rfl)⟩ (fun _ _ _ _ _ _ _ hp => False.elim hp) (fun r9 L9 f9 H locs hp hw => ?_)
      obtain ⟨rfl, rfl, rfl⟩ := hp
      refine W.eq (g2 := F0 m 68 ls [.long (zVal (zsPL σ (upd (zPL σ) (Int32.toNatClampNeg p0) ((zPL σ (Int32.toNatClampNeg p0)) + 1))) (Int32.toNatClampNeg p0) ((zPL (zsPL σ (upd (zPL σ) (Int32.toNatClampNeg p0) ((zPL σ (Int32.toNatClampNeg p0)) + 1))) (Int32.toNatClampNeg p0)) - 1))]) rfl ?_
      have ho : (o_get σ p0) = (0, (zVal (zsPL σ (upd (zPL σ) (Int32.toNatClampNeg p0) ((zPL σ (Int32.toNatClampNeg p0)) + 1))) (Int32.toNatClampNeg p0) ((zPL (zsPL σ (upd (zPL σ) (Int32.toNatClampNeg p0) ((zPL σ (Int32.toNatClampNeg p0)) + 1))) (Int32.toNatClampNeg p0)) - 1)), (zsPL σ (upd (zPL σ) (Int32.toNatClampNeg p0) ((zPL σ (Int32.toNatClampNeg p0)) + 1)))) := by unfold o_get; first | exact (if_pos (show (zis σ p0 = true) from by assumption)).trans (if_neg (show ¬ (zPL σ (Int32.toNatClampNeg p0) = zEN σ (Int32.toNatClampNeg p0)) from by assumption))
      exact z_lret hx hb hr hlocks hw (Nat.le_of_ble_eq_true rfl) (Nat.le_of_ble_eq_true rfl) dX2_get_68 ⟨rfl, _, _, rfl, by rw [ho]; exact hm, by rw [ho]; exact fun _ => rfl⟩
    · refine lv_iconst (v := 2) hx hb dX2_get_28 (by decide) ?_
      refine lv_goto (tgt := 33) hx hb dX2_get_29 (by decide) ?_
      refine zm_putT hx hb hts hi_X2_get hown hw hm hf_X2_get_48 dX2_get_33 (fun f_6 H locs hm hw => ?_)
      refine lv_aload_n hx hb dX2_get_36 rfl (lv_at hl 0 rfl) ?_
      refine zm_get (v := .int 2) hx hb hts hi_X2_get hown hw hm 12 (by decide) hf_X2_get_48 rfl dX2_get_37 ?_
      refine lv_if_le (tgt := 45) hx hb dX2_get_40 (by decide) (fun c_7 => absurd c_7 (by decide)) (fun c_7 => ?_)
      refine lv_lconst (v := 0) hx hb dX2_get_43 (by decide) ?_
      have ho : (o_get σ p0) = (2, 0, σ) := by unfold o_get; first | exact (if_pos (show (zis σ p0 = true) from by assumption)).trans (if_pos (show (zPL σ (Int32.toNatClampNeg p0) = zEN σ (Int32.toNatClampNeg p0)) from by assumption))
      exact z_lret hx hb hr hlocks hw (Nat.le_of_ble_eq_true rfl) (Nat.le_of_ble_eq_true rfl) dX2_get_44 ⟨rfl, _, _, rfl, by rw [ho]; exact hm, by rw [ho]; exact fun h => absurd (show (2 : Int32) = 0 from h) (by decide)⟩
  · refine lv_iconst (v := 1) hx hb dX2_get_9 (by decide) ?_
    refine lv_goto (tgt := 33) hx hb dX2_get_10 (by decide) ?_
    refine zm_putT hx hb hts hi_X2_get hown hw hm hf_X2_get_48 dX2_get_33 (fun f_8 H locs hm hw => ?_)
    refine lv_aload_n hx hb dX2_get_36 rfl (lv_at hl 0 rfl) ?_
    refine zm_get (v := .int 1) hx hb hts hi_X2_get hown hw hm 12 (by decide) hf_X2_get_48 rfl dX2_get_37 ?_
    refine lv_if_le (tgt := 45) hx hb dX2_get_40 (by decide) (fun c_9 => absurd c_9 (by decide)) (fun c_9 => ?_)
    refine lv_lconst (v := 0) hx hb dX2_get_43 (by decide) ?_
    have ho : (o_get σ p0) = (1, 0, σ) := by unfold o_get; first | exact if_neg (show ¬ (zis σ p0 = true) from by assumption)
    exact z_lret hx hb hr hlocks hw (Nat.le_of_ble_eq_true rfl) (Nat.le_of_ble_eq_true rfl) dX2_get_44 ⟨rfl, _, _, rfl, by rw [ho]; exact hm, by rw [ho]; exact fun h => absurd (show (1 : Int32) = 0 from h) (by decide)⟩

def o_put (σ : ZS) (p0 : Int32) (p1 : Int64) : Int32 × Int32 × ZS := if zis σ p0 = true then if zRD σ (Int32.toNatClampNeg p0) = 0 then if zPL σ (Int32.toNatClampNeg p0) = zEN σ (Int32.toNatClampNeg p0) then (3, 0, σ) else (0, zPL (zsPL (zLay σ (Int32.toNatClampNeg p0) (zPL σ (Int32.toNatClampNeg p0)) p1) (upd (zPL (zLay σ (Int32.toNatClampNeg p0) (zPL σ (Int32.toNatClampNeg p0)) p1)) (Int32.toNatClampNeg p0) (zPL (zLay σ (Int32.toNatClampNeg p0) (zPL σ (Int32.toNatClampNeg p0)) p1) (Int32.toNatClampNeg p0) + 1))) (Int32.toNatClampNeg p0), (zsPL (zLay σ (Int32.toNatClampNeg p0) (zPL σ (Int32.toNatClampNeg p0)) p1) (upd (zPL (zLay σ (Int32.toNatClampNeg p0) (zPL σ (Int32.toNatClampNeg p0)) p1)) (Int32.toNatClampNeg p0) (zPL (zLay σ (Int32.toNatClampNeg p0) (zPL σ (Int32.toNatClampNeg p0)) p1) (Int32.toNatClampNeg p0) + 1)))) else (2, 0, σ) else (1, 0, σ)

theorem hi_X2_put : ∀ w ∈ wsX20, w ∈ wsX2_put := by decide +kernel
theorem hf_X2_put_26 : Cond.fieldLink RX2 26 (TX2 5).1 (TX2 5).2.1 (TX2 5).2.2.1 ∈ wsX2_put := by decide +kernel
theorem hf_X2_put_29 : Cond.fieldLink RX2 29 (TX2 6).1 (TX2 6).2.1 (TX2 6).2.2.1 ∈ wsX2_put := by decide +kernel
theorem hf_X2_put_35 : Cond.fieldLink RX2 35 (TX2 8).1 (TX2 8).2.1 (TX2 8).2.2.1 ∈ wsX2_put := by decide +kernel
theorem hf_X2_put_48 : Cond.fieldLink RX2 48 (TX2 12).1 (TX2 12).2.1 (TX2 12).2.2.1 ∈ wsX2_put := by decide +kernel
set_option maxRecDepth 100000 in
set_option maxHeartbeats 4000000 in
theorem c_X2_put (l : Launch) (g : zG) (am : Nat → Nat) (L : List Nat) (f : Nat → va_E) (σ : ZS) (bs : Nat → Int64) (th : Int32) (p0 : Int32) (p1 : Int64) (hm : zM g am f σ bs th L f) {ln : Nat → Nat} {kd : Nat → Int32} (hI : zI σ ln kd) : zC l yX2_put wsX2_put { frames := 2, cells := 0, slots := 0, locals := 43 } 0 0 g [.ref (am 0), .int p0, .long p1] L f (fun r L1 f1 => L = L1 ∧ ∃ (b9 : Int32) (bs1 : Nat → Int64), some (.int b9) = r ∧ zM g am f (o_put σ p0 p1).2.2 bs1 (o_put σ p0 p1).1 L f1 ∧ ((o_put σ p0 p1).1 = 0 → b9 = (o_put σ p0 p1).2.1)) zNo := by
  refine z_ofW (cc := cX2_put) (maxL := 4) (ret := (some .int)) (by decide) rfl (Nat.le_of_ble_eq_true rfl) ?_
  intro p e s m args below meth c ls A hx hb hr hts hown hlocks hml htab hin hw hX hl
  have hl : lv_has ls 4 [(0, .ref (am 0)), (1, .int p0), (2, .long p1)] := hl
  have hown : s.vm.findClass RX2 = some m.cls := hown
  refine lv_aload_n hx hb dX2_put_0 rfl (lv_at hl 0 rfl) ?_
  refine lv_aload_n hx hb dX2_put_1 rfl (lv_at hl 0 rfl) ?_
  refine lv_iload_n hx hb dX2_put_2 rfl (lv_at hl 1 rfl) ?_
  refine z_callV (As := [.int p0]) (rest := [.ref (am 0)]) ⟨hx, hb, hml, hown, hts⟩ hw hX (hm.1.1 0 (by decide)) rfl (c_X2_is l g am L f σ bs th p0 hm.rf) (cwV 1 hts gX2_put_X2_is rfl rfl rfl (by decide +kernel) ⟨(Nat.le_of_ble_eq_true rfl), (Nat.le_of_ble_eq_true rfl)⟩) rfl hl.1 rfl (Nat.le_of_ble_eq_true rfl) dX2_put_3 ⟨(Nat.le_of_ble_eq_true rfl), (Nat.le_of_ble_eq_true rfl)⟩ (fun _ _ _ _ _ _ _ hp => False.elim hp) (fun r9 L9 f9 H locs hp hw => ?_)
  obtain ⟨rfl, rfl, rfl⟩ := hp
  refine W.eq (g2 := F0 m 6 ls [.int (zb (zis σ p0)), .ref (am 0)]) rfl ?_
  refine zr_bne hx hb dX2_put_6 (tgt := 13) (by decide) (fun c_1 => ?_) (fun c_1 => ?_)
  · refine lv_aload_n hx hb dX2_put_13 rfl (lv_at hl 0 rfl) ?_
    refine zm_get (v := .ref (am 9)) hx hb hts hi_X2_put hown hw hm 8 (by decide) hf_X2_put_35 rfl dX2_put_14 ?_
    refine lv_iload_n hx hb dX2_put_17 rfl (lv_at hl 1 rfl) ?_
    refine zm_ldRD hx hb hw hm (by first | assumption | exact zis_7 (by assumption) | exact zin_7 (by assumption) | exact zin_1 (by assumption)) dX2_put_18 ?_
    refine lv_if_eq (tgt := 26) hx hb dX2_put_19 (by decide) (fun c_2 => ?_) (fun c_2 => ?_)
    · refine lv_aload_n hx hb dX2_put_26 rfl (lv_at hl 0 rfl) ?_
      refine zm_get (v := .ref (am 6)) hx hb hts hi_X2_put hown hw hm 5 (by decide) hf_X2_put_26 rfl dX2_put_27 ?_
      refine lv_iload_n hx hb dX2_put_30 rfl (lv_at hl 1 rfl) ?_
      refine zm_ldPL hx hb hw hm (by first | assumption | exact zis_7 (by assumption) | exact zin_7 (by assumption) | exact zin_1 (by assumption)) dX2_put_31 ?_
      refine lv_aload_n hx hb dX2_put_32 rfl (lv_at hl 0 rfl) ?_
      refine zm_get (v := .ref (am 7)) hx hb hts hi_X2_put hown hw hm 6 (by decide) hf_X2_put_29 rfl dX2_put_33 ?_
      refine lv_iload_n hx hb dX2_put_36 rfl (lv_at hl 1 rfl) ?_
      refine zm_ldEN hx hb hw hm (by first | assumption | exact zis_7 (by assumption) | exact zin_7 (by assumption) | exact zin_1 (by assumption)) dX2_put_37 ?_
      refine lv_icmp_ne (tgt := 45) hx hb dX2_put_38 (by decide) (fun c_3 => ?_) (fun c_3 => ?_)
      · refine lv_iconst (v := 0) hx hb dX2_put_45 (by decide) ?_
        refine zm_putT hx hb hts hi_X2_put hown hw hm hf_X2_put_48 dX2_put_46 (fun f_4 H locs hm hw => ?_)
        refine lv_aload_n hx hb dX2_put_49 rfl (lv_at hl 0 rfl) ?_
        refine zm_get (v := .int 0) hx hb hts hi_X2_put hown hw hm 12 (by decide) hf_X2_put_48 rfl dX2_put_50 ?_
        refine lv_if_le (tgt := 58) hx hb dX2_put_53 (by decide) (fun c_5 => ?_) (fun c_5 => absurd (by decide) c_5)
        refine lv_aload_n hx hb dX2_put_58 rfl (lv_at hl 0 rfl) ?_
        refine lv_iload_n hx hb dX2_put_59 rfl (lv_at hl 1 rfl) ?_
        refine lv_aload_n hx hb dX2_put_60 rfl (lv_at hl 0 rfl) ?_
        refine zm_get (v := .ref (am 6)) hx hb hts hi_X2_put hown hw hm 5 (by decide) hf_X2_put_26 rfl dX2_put_61 ?_
        refine lv_iload_n hx hb dX2_put_64 rfl (lv_at hl 1 rfl) ?_
        refine zm_ldPL hx hb hw hm (by first | assumption | exact zis_7 (by assumption) | exact zin_7 (by assumption) | exact zin_1 (by assumption)) dX2_put_65 ?_
        refine lv_lload_n hx hb dX2_put_66 rfl (lv_at hl 2 rfl) ?_
        refine z_callV (As := [.int p0, .int (zPL σ (Int32.toNatClampNeg p0)), .long p1]) (rest := []) ⟨hx, hb, hml, hown, hts⟩ hw hX (hm.1.1 0 (by decide)) rfl (c_X2_lays l g am L f_4 σ bs 0 p0 (zPL σ (Int32.toNatClampNeg p0)) p1 hm.rf (by first | assumption | exact zis_7 (by assumption) | exact zin_7 (by assumption) | exact zin_1 (by assumption)) (zAt_in (zI_win hI (by assumption)) (zWin_pl (zI_win hI (by assumption))).1 ((zWin_pl (zI_win hI (by assumption))).2 (by assumption)))) (cwV 3 hts gX2_put_X2_lays rfl rfl rfl (by decide +kernel) ⟨(Nat.le_of_ble_eq_true rfl), (Nat.le_of_ble_eq_true rfl)⟩) rfl hl.1 rfl (Nat.le_of_ble_eq_true rfl) dX2_put_67 ⟨(Nat.le_of_ble_eq_true rfl), (Nat.le_of_ble_eq_true rfl)⟩ (fun _ _ _ _ _ _ _ hp => False.elim hp) (fun r9 L9 f9 H locs hp hw => ?_)
        obtain ⟨rfl, rfl, hm9⟩ := hp
        refine W.eq (g2 := F0 m 70 ls []) rfl ?_
        have hm := hm.tr hm9
        refine lv_aload_n hx hb dX2_put_70 rfl (lv_at hl 0 rfl) ?_
        refine zm_get (v := .ref (am 6)) hx hb hts hi_X2_put hown hw hm 5 (by decide) hf_X2_put_26 rfl dX2_put_71 ?_
        refine lv_iload_n hx hb dX2_put_74 rfl (lv_at hl 1 rfl) ?_
        refine lv_dup2_11 hx hb dX2_put_75 rfl rfl ?_
        refine zm_ldPL hx hb hw hm (by first | assumption | exact zis_7 (by assumption) | exact zin_7 (by assumption) | exact zin_1 (by assumption)) dX2_put_76 ?_
        refine lv_iconst (v := 1) hx hb dX2_put_77 (by decide) ?_
        refine lv_iadd hx hb dX2_put_78 ?_
        refine zm_stPL hx hb hw hm (by first | assumption | exact zis_7 (by assumption) | exact zin_7 (by assumption) | exact zin_1 (by assumption)) dX2_put_79 (fun f_6 H locs hm hw => ?_)
        refine lv_aload_n hx hb dX2_put_80 rfl (lv_at hl 0 rfl) ?_
        refine zm_get (v := .ref (am 6)) hx hb hts hi_X2_put hown hw hm 5 (by decide) hf_X2_put_26 rfl dX2_put_81 ?_
        refine lv_iload_n hx hb dX2_put_84 rfl (lv_at hl 1 rfl) ?_
        refine zm_ldPL hx hb hw hm (by first | assumption | exact zis_7 (by assumption) | exact zin_7 (by assumption) | exact zin_1 (by assumption)) dX2_put_85 ?_
        have ho : (o_put σ p0 p1) = (0, (zPL (zsPL (zLay σ (Int32.toNatClampNeg p0) (zPL σ (Int32.toNatClampNeg p0)) p1) (upd (zPL (zLay σ (Int32.toNatClampNeg p0) (zPL σ (Int32.toNatClampNeg p0)) p1)) (Int32.toNatClampNeg p0) ((zPL (zLay σ (Int32.toNatClampNeg p0) (zPL σ (Int32.toNatClampNeg p0)) p1) (Int32.toNatClampNeg p0)) + 1))) (Int32.toNatClampNeg p0)), (zsPL (zLay σ (Int32.toNatClampNeg p0) (zPL σ (Int32.toNatClampNeg p0)) p1) (upd (zPL (zLay σ (Int32.toNatClampNeg p0) (zPL σ (Int32.toNatClampNeg p0)) p1)) (Int32.toNatClampNeg p0) ((zPL (zLay σ (Int32.toNatClampNeg p0) (zPL σ (Int32.toNatClampNeg p0)) p1) (Int32.toNatClampNeg p0)) + 1)))) := by unfold o_put; first | exact (if_pos (show (zis σ p0 = true) from by assumption)).trans ((if_pos (show (zRD σ (Int32.toNatClampNeg p0) = 0) from by assumption)).trans (if_neg (show ¬ (zPL σ (Int32.toNatClampNeg p0) = zEN σ (Int32.toNatClampNeg p0)) from by assumption)))
        exact z_iret hx hb hr hlocks hw (Nat.le_of_ble_eq_true rfl) (Nat.le_of_ble_eq_true rfl) dX2_put_86 ⟨rfl, _, _, rfl, by rw [ho]; exact hm, by rw [ho]; exact fun _ => rfl⟩
      · refine lv_iconst (v := 3) hx hb dX2_put_41 (by decide) ?_
        refine lv_goto (tgt := 46) hx hb dX2_put_42 (by decide) ?_
        refine zm_putT hx hb hts hi_X2_put hown hw hm hf_X2_put_48 dX2_put_46 (fun f_7 H locs hm hw => ?_)
        refine lv_aload_n hx hb dX2_put_49 rfl (lv_at hl 0 rfl) ?_
        refine zm_get (v := .int 3) hx hb hts hi_X2_put hown hw hm 12 (by decide) hf_X2_put_48 rfl dX2_put_50 ?_
        refine lv_if_le (tgt := 58) hx hb dX2_put_53 (by decide) (fun c_8 => absurd c_8 (by decide)) (fun c_8 => ?_)
        refine lv_iconst (v := 0) hx hb dX2_put_56 (by decide) ?_
        have ho : (o_put σ p0 p1) = (3, 0, σ) := by unfold o_put; first | exact (if_pos (show (zis σ p0 = true) from by assumption)).trans ((if_pos (show (zRD σ (Int32.toNatClampNeg p0) = 0) from by assumption)).trans (if_pos (show (zPL σ (Int32.toNatClampNeg p0) = zEN σ (Int32.toNatClampNeg p0)) from by assumption)))
        exact z_iret hx hb hr hlocks hw (Nat.le_of_ble_eq_true rfl) (Nat.le_of_ble_eq_true rfl) dX2_put_57 ⟨rfl, _, _, rfl, by rw [ho]; exact hm, by rw [ho]; exact fun h => absurd (show (3 : Int32) = 0 from h) (by decide)⟩
    · refine lv_iconst (v := 2) hx hb dX2_put_22 (by decide) ?_
      refine lv_goto (tgt := 46) hx hb dX2_put_23 (by decide) ?_
      refine zm_putT hx hb hts hi_X2_put hown hw hm hf_X2_put_48 dX2_put_46 (fun f_9 H locs hm hw => ?_)
      refine lv_aload_n hx hb dX2_put_49 rfl (lv_at hl 0 rfl) ?_
      refine zm_get (v := .int 2) hx hb hts hi_X2_put hown hw hm 12 (by decide) hf_X2_put_48 rfl dX2_put_50 ?_
      refine lv_if_le (tgt := 58) hx hb dX2_put_53 (by decide) (fun c_10 => absurd c_10 (by decide)) (fun c_10 => ?_)
      refine lv_iconst (v := 0) hx hb dX2_put_56 (by decide) ?_
      have ho : (o_put σ p0 p1) = (2, 0, σ) := by unfold o_put; first | exact (if_pos (show (zis σ p0 = true) from by assumption)).trans (if_neg (show ¬ (zRD σ (Int32.toNatClampNeg p0) = 0) from by assumption))
      exact z_iret hx hb hr hlocks hw (Nat.le_of_ble_eq_true rfl) (Nat.le_of_ble_eq_true rfl) dX2_put_57 ⟨rfl, _, _, rfl, by rw [ho]; exact hm, by rw [ho]; exact fun h => absurd (show (2 : Int32) = 0 from h) (by decide)⟩
  · refine lv_iconst (v := 1) hx hb dX2_put_9 (by decide) ?_
    refine lv_goto (tgt := 46) hx hb dX2_put_10 (by decide) ?_
    refine zm_putT hx hb hts hi_X2_put hown hw hm hf_X2_put_48 dX2_put_46 (fun f_11 H locs hm hw => ?_)
    refine lv_aload_n hx hb dX2_put_49 rfl (lv_at hl 0 rfl) ?_
    refine zm_get (v := .int 1) hx hb hts hi_X2_put hown hw hm 12 (by decide) hf_X2_put_48 rfl dX2_put_50 ?_
    refine lv_if_le (tgt := 58) hx hb dX2_put_53 (by decide) (fun c_12 => absurd c_12 (by decide)) (fun c_12 => ?_)
    refine lv_iconst (v := 0) hx hb dX2_put_56 (by decide) ?_
    have ho : (o_put σ p0 p1) = (1, 0, σ) := by unfold o_put; first | exact if_neg (show ¬ (zis σ p0 = true) from by assumption)
    exact z_iret hx hb hr hlocks hw (Nat.le_of_ble_eq_true rfl) (Nat.le_of_ble_eq_true rfl) dX2_put_57 ⟨rfl, _, _, rfl, by rw [ho]; exact hm, by rw [ho]; exact fun h => absurd (show (1 : Int32) = 0 from h) (by decide)⟩

def o_getAt (σ : ZS) (p0 : Int32) (p1 : Int32) : Int32 × Int64 × ZS := if zis σ p0 = true then if zin p1 0 (zEN σ (Int32.toNatClampNeg p0) - 1) = true then (0, zVal σ (Int32.toNatClampNeg p0) p1, σ) else (1, 0, σ) else (1, 0, σ)

theorem hi_X2_getAt : ∀ w ∈ wsX20, w ∈ wsX2_getAt := by decide +kernel
theorem hf_X2_getAt_29 : Cond.fieldLink RX2 29 (TX2 6).1 (TX2 6).2.1 (TX2 6).2.2.1 ∈ wsX2_getAt := by decide +kernel
theorem hf_X2_getAt_48 : Cond.fieldLink RX2 48 (TX2 12).1 (TX2 12).2.1 (TX2 12).2.2.1 ∈ wsX2_getAt := by decide +kernel
set_option maxRecDepth 100000 in
set_option maxHeartbeats 4000000 in
theorem c_X2_getAt (l : Launch) (g : zG) (am : Nat → Nat) (L : List Nat) (f : Nat → va_E) (σ : ZS) (bs : Nat → Int64) (th : Int32) (p0 : Int32) (p1 : Int32) (hm : zM g am f σ bs th L f) {ln : Nat → Nat} {kd : Nat → Int32} (hI : zI σ ln kd) : zC l yX2_getAt wsX2_getAt { frames := 2, cells := 0, slots := 0, locals := 43 } 0 0 g [.ref (am 0), .int p0, .int p1] L f (fun r L1 f1 => L = L1 ∧ ∃ (b9 : Int64) (bs1 : Nat → Int64), some (.long b9) = r ∧ zM g am f (o_getAt σ p0 p1).2.2 bs1 (o_getAt σ p0 p1).1 L f1 ∧ ((o_getAt σ p0 p1).1 = 0 → b9 = (o_getAt σ p0 p1).2.1)) zNo := by
  refine z_ofW (cc := cX2_getAt) (maxL := 3) (ret := (some .long)) (by decide) rfl (Nat.le_of_ble_eq_true rfl) ?_
  intro p e s m args below meth c ls A hx hb hr hts hown hlocks hml htab hin hw hX hl
  have hl : lv_has ls 3 [(0, .ref (am 0)), (1, .int p0), (2, .int p1)] := hl
  have hown : s.vm.findClass RX2 = some m.cls := hown
  refine lv_aload_n hx hb dX2_getAt_0 rfl (lv_at hl 0 rfl) ?_
  refine lv_aload_n hx hb dX2_getAt_1 rfl (lv_at hl 0 rfl) ?_
  refine lv_iload_n hx hb dX2_getAt_2 rfl (lv_at hl 1 rfl) ?_
  refine z_callV (As := [.int p0]) (rest := [.ref (am 0)]) ⟨hx, hb, hml, hown, hts⟩ hw hX (hm.1.1 0 (by decide)) rfl (c_X2_is l g am L f σ bs th p0 hm.rf) (cwV 1 hts gX2_getAt_X2_is rfl rfl rfl (by decide +kernel) ⟨(Nat.le_of_ble_eq_true rfl), (Nat.le_of_ble_eq_true rfl)⟩) rfl hl.1 rfl (Nat.le_of_ble_eq_true rfl) dX2_getAt_3 ⟨(Nat.le_of_ble_eq_true rfl), (Nat.le_of_ble_eq_true rfl)⟩ (fun _ _ _ _ _ _ _ hp => False.elim hp) (fun r9 L9 f9 H locs hp hw => ?_)
  obtain ⟨rfl, rfl, rfl⟩ := hp
  refine W.eq (g2 := F0 m 6 ls [.int (zb (zis σ p0)), .ref (am 0)]) rfl ?_
  refine zr_beq hx hb dX2_getAt_6 (tgt := 29) (by decide) (fun c_1 => ?_) (fun c_1 => ?_)
  · refine lv_iconst (v := 1) hx hb dX2_getAt_29 (by decide) ?_
    refine zm_putT hx hb hts hi_X2_getAt hown hw hm hf_X2_getAt_48 dX2_getAt_30 (fun f_2 H locs hm hw => ?_)
    refine lv_aload_n hx hb dX2_getAt_33 rfl (lv_at hl 0 rfl) ?_
    refine zm_get (v := .int 1) hx hb hts hi_X2_getAt hown hw hm 12 (by decide) hf_X2_getAt_48 rfl dX2_getAt_34 ?_
    refine lv_if_le (tgt := 44) hx hb dX2_getAt_37 (by decide) (fun c_3 => absurd c_3 (by decide)) (fun c_3 => ?_)
    refine lv_lconst (v := 0) hx hb dX2_getAt_40 (by decide) ?_
    refine lv_goto (tgt := 50) hx hb dX2_getAt_41 (by decide) ?_
    have ho : (o_getAt σ p0 p1) = (1, 0, σ) := by unfold o_getAt; first | exact (if_pos (show (zis σ p0 = true) from by assumption)).trans (if_neg (show ¬ (zin p1 0 (zEN σ (Int32.toNatClampNeg p0) - 1) = true) from by assumption)) | exact if_neg (show ¬ (zis σ p0 = true) from by assumption)
    exact z_lret hx hb hr hlocks hw (Nat.le_of_ble_eq_true rfl) (Nat.le_of_ble_eq_true rfl) dX2_getAt_50 ⟨rfl, _, _, rfl, by rw [ho]; exact hm, by rw [ho]; exact fun h => absurd (show (1 : Int32) = 0 from h) (by decide)⟩
  · refine lv_iload_n hx hb dX2_getAt_9 rfl (lv_at hl 2 rfl) ?_
    refine lv_iconst (v := 0) hx hb dX2_getAt_10 (by decide) ?_
    refine lv_aload_n hx hb dX2_getAt_11 rfl (lv_at hl 0 rfl) ?_
    refine zm_get (v := .ref (am 7)) hx hb hts hi_X2_getAt hown hw hm 6 (by decide) hf_X2_getAt_29 rfl dX2_getAt_12 ?_
    refine lv_iload_n hx hb dX2_getAt_15 rfl (lv_at hl 1 rfl) ?_
    refine zm_ldEN hx hb hw hm (by first | assumption | exact zis_7 (by assumption) | exact zin_7 (by assumption) | exact zin_1 (by assumption)) dX2_getAt_16 ?_
    refine lv_iconst (v := 1) hx hb dX2_getAt_17 (by decide) ?_
    refine lv_isub hx hb dX2_getAt_18 ?_
    refine z_callS (As := [.int p1, .int 0, .int ((zEN σ (Int32.toNatClampNeg p0)) - 1)]) (rest := [.ref (am 0)]) ⟨hx, hb, hml, hown, hts⟩ hw hX (c_X2_in l g L f p1 0 ((zEN σ (Int32.toNatClampNeg p0)) - 1)) (va_cwS 3 hts gX2_getAt_X2_in rfl rfl rfl (by decide +kernel) ⟨(Nat.le_of_ble_eq_true rfl), (Nat.le_of_ble_eq_true rfl)⟩) rfl hl.1 rfl (Nat.le_of_ble_eq_true rfl) dX2_getAt_19 ⟨(Nat.le_of_ble_eq_true rfl), (Nat.le_of_ble_eq_true rfl)⟩ (fun _ _ _ _ _ _ _ hp => False.elim hp) (fun r9 L9 f9 H locs hp hw => ?_)
    obtain ⟨rfl, rfl, rfl⟩ := hp
    refine W.eq (g2 := F0 m 22 ls [.int (zb (zin p1 0 ((zEN σ (Int32.toNatClampNeg p0)) - 1))), .ref (am 0)]) rfl ?_
    refine zr_beq hx hb dX2_getAt_22 (tgt := 29) (by decide) (fun c_4 => ?_) (fun c_4 => ?_)
    · refine lv_iconst (v := 1) hx hb dX2_getAt_29 (by decide) ?_
      refine zm_putT hx hb hts hi_X2_getAt hown hw hm hf_X2_getAt_48 dX2_getAt_30 (fun f_5 H locs hm hw => ?_)
      refine lv_aload_n hx hb dX2_getAt_33 rfl (lv_at hl 0 rfl) ?_
      refine zm_get (v := .int 1) hx hb hts hi_X2_getAt hown hw hm 12 (by decide) hf_X2_getAt_48 rfl dX2_getAt_34 ?_
      refine lv_if_le (tgt := 44) hx hb dX2_getAt_37 (by decide) (fun c_6 => absurd c_6 (by decide)) (fun c_6 => ?_)
      refine lv_lconst (v := 0) hx hb dX2_getAt_40 (by decide) ?_
      refine lv_goto (tgt := 50) hx hb dX2_getAt_41 (by decide) ?_
      have ho : (o_getAt σ p0 p1) = (1, 0, σ) := by unfold o_getAt; first | exact (if_pos (show (zis σ p0 = true) from by assumption)).trans (if_neg (show ¬ (zin p1 0 (zEN σ (Int32.toNatClampNeg p0) - 1) = true) from by assumption)) | exact if_neg (show ¬ (zis σ p0 = true) from by assumption)
      exact z_lret hx hb hr hlocks hw (Nat.le_of_ble_eq_true rfl) (Nat.le_of_ble_eq_true rfl) dX2_getAt_50 ⟨rfl, _, _, rfl, by rw [ho]; exact hm, by rw [ho]; exact fun h => absurd (show (1 : Int32) = 0 from h) (by decide)⟩
    · refine lv_iconst (v := 0) hx hb dX2_getAt_25 (by decide) ?_
      refine lv_goto (tgt := 30) hx hb dX2_getAt_26 (by decide) ?_
      refine zm_putT hx hb hts hi_X2_getAt hown hw hm hf_X2_getAt_48 dX2_getAt_30 (fun f_7 H locs hm hw => ?_)
      refine lv_aload_n hx hb dX2_getAt_33 rfl (lv_at hl 0 rfl) ?_
      refine zm_get (v := .int 0) hx hb hts hi_X2_getAt hown hw hm 12 (by decide) hf_X2_getAt_48 rfl dX2_getAt_34 ?_
      refine lv_if_le (tgt := 44) hx hb dX2_getAt_37 (by decide) (fun c_8 => ?_) (fun c_8 => absurd (by decide) c_8)
      refine lv_aload_n hx hb dX2_getAt_44 rfl (lv_at hl 0 rfl) ?_
      refine lv_iload_n hx hb dX2_getAt_45 rfl (lv_at hl 1 rfl) ?_
      refine lv_iload_n hx hb dX2_getAt_46 rfl (lv_at hl 2 rfl) ?_
      refine z_callV (As := [.int p0, .int p1]) (rest := []) ⟨hx, hb, hml, hown, hts⟩ hw hX (hm.1.1 0 (by decide)) rfl (c_X2_value l g am L f_7 σ bs 0 p0 p1 hm.rf (by first | assumption | exact zis_7 (by assumption) | exact zin_7 (by assumption) | exact zin_1 (by assumption)) (zAt_in (zI_win hI (by assumption)) (zWin_ix (zI_win hI (by assumption)) (by assumption)).1 (zWin_ix (zI_win hI (by assumption)) (by assumption)).2)) (cwV 2 hts gX2_getAt_X2_value rfl rfl rfl (by decide +kernel) ⟨(Nat.le_of_ble_eq_true rfl), (Nat.le_of_ble_eq_true rfl)⟩) rfl hl.1 rfl (Nat.le_of_ble_eq_true rfl) dX2_getAt_47 ⟨(Nat.le_of_ble_eq_true rfl), (Nat.le_of_ble_eq_true rfl)⟩ (fun _ _ _ _ _ _ _ hp => False.elim hp) (fun r9 L9 f9 H locs hp hw => ?_)
      obtain ⟨rfl, rfl, rfl⟩ := hp
      refine W.eq (g2 := F0 m 50 ls [.long (zVal σ (Int32.toNatClampNeg p0) p1)]) rfl ?_
      have ho : (o_getAt σ p0 p1) = (0, (zVal σ (Int32.toNatClampNeg p0) p1), σ) := by unfold o_getAt; first | exact (if_pos (show (zis σ p0 = true) from by assumption)).trans (if_pos (show (zin p1 0 (zEN σ (Int32.toNatClampNeg p0) - 1) = true) from by assumption))
      exact z_lret hx hb hr hlocks hw (Nat.le_of_ble_eq_true rfl) (Nat.le_of_ble_eq_true rfl) dX2_getAt_50 ⟨rfl, _, _, rfl, by rw [ho]; exact hm, by rw [ho]; exact fun _ => rfl⟩

def o_putAt (σ : ZS) (p0 : Int32) (p1 : Int32) (p2 : Int64) : Int32 × Int64 × ZS := if zis σ p0 = true then if zin p1 0 (zEN σ (Int32.toNatClampNeg p0) - 1) = true then if zRD σ (Int32.toNatClampNeg p0) = 0 then (0, zVal σ (Int32.toNatClampNeg p0) p1, zLay σ (Int32.toNatClampNeg p0) p1 p2) else (2, 0, σ) else (1, 0, σ) else (1, 0, σ)

theorem hi_X2_putAt : ∀ w ∈ wsX20, w ∈ wsX2_putAt := by decide +kernel
theorem hf_X2_putAt_29 : Cond.fieldLink RX2 29 (TX2 6).1 (TX2 6).2.1 (TX2 6).2.2.1 ∈ wsX2_putAt := by decide +kernel
theorem hf_X2_putAt_35 : Cond.fieldLink RX2 35 (TX2 8).1 (TX2 8).2.1 (TX2 8).2.2.1 ∈ wsX2_putAt := by decide +kernel
theorem hf_X2_putAt_48 : Cond.fieldLink RX2 48 (TX2 12).1 (TX2 12).2.1 (TX2 12).2.2.1 ∈ wsX2_putAt := by decide +kernel
set_option maxRecDepth 100000 in
set_option maxHeartbeats 4000000 in
theorem c_X2_putAt (l : Launch) (g : zG) (am : Nat → Nat) (L : List Nat) (f : Nat → va_E) (σ : ZS) (bs : Nat → Int64) (th : Int32) (p0 : Int32) (p1 : Int32) (p2 : Int64) (hm : zM g am f σ bs th L f) {ln : Nat → Nat} {kd : Nat → Int32} (hI : zI σ ln kd) : zC l yX2_putAt wsX2_putAt { frames := 2, cells := 0, slots := 0, locals := 43 } 0 0 g [.ref (am 0), .int p0, .int p1, .long p2] L f (fun r L1 f1 => L = L1 ∧ ∃ (b9 : Int64) (bs1 : Nat → Int64), some (.long b9) = r ∧ zM g am f (o_putAt σ p0 p1 p2).2.2 bs1 (o_putAt σ p0 p1 p2).1 L f1 ∧ ((o_putAt σ p0 p1 p2).1 = 0 → b9 = (o_putAt σ p0 p1 p2).2.1)) zNo := by
  refine z_ofW (cc := cX2_putAt) (maxL := 7) (ret := (some .long)) (by decide) rfl (Nat.le_of_ble_eq_true rfl) ?_
  intro p e s m args below meth c ls A hx hb hr hts hown hlocks hml htab hin hw hX hl
  have hl : lv_has ls 7 [(0, .ref (am 0)), (1, .int p0), (2, .int p1), (3, .long p2)] := hl
  have hown : s.vm.findClass RX2 = some m.cls := hown
  refine lv_aload_n hx hb dX2_putAt_0 rfl (lv_at hl 0 rfl) ?_
  refine lv_aload_n hx hb dX2_putAt_1 rfl (lv_at hl 0 rfl) ?_
  refine lv_iload_n hx hb dX2_putAt_2 rfl (lv_at hl 1 rfl) ?_
  refine z_callV (As := [.int p0]) (rest := [.ref (am 0)]) ⟨hx, hb, hml, hown, hts⟩ hw hX (hm.1.1 0 (by decide)) rfl (c_X2_is l g am L f σ bs th p0 hm.rf) (cwV 1 hts gX2_putAt_X2_is rfl rfl rfl (by decide +kernel) ⟨(Nat.le_of_ble_eq_true rfl), (Nat.le_of_ble_eq_true rfl)⟩) rfl hl.1 rfl (Nat.le_of_ble_eq_true rfl) dX2_putAt_3 ⟨(Nat.le_of_ble_eq_true rfl), (Nat.le_of_ble_eq_true rfl)⟩ (fun _ _ _ _ _ _ _ hp => False.elim hp) (fun r9 L9 f9 H locs hp hw => ?_)
  obtain ⟨rfl, rfl, rfl⟩ := hp
  refine W.eq (g2 := F0 m 6 ls [.int (zb (zis σ p0)), .ref (am 0)]) rfl ?_
  refine zr_beq hx hb dX2_putAt_6 (tgt := 25) (by decide) (fun c_1 => ?_) (fun c_1 => ?_)
  · refine lv_iconst (v := 1) hx hb dX2_putAt_25 (by decide) ?_
    refine lv_goto (tgt := 43) hx hb dX2_putAt_26 (by decide) ?_
    refine zm_putT hx hb hts hi_X2_putAt hown hw hm hf_X2_putAt_48 dX2_putAt_43 (fun f_2 H locs hm hw => ?_)
    refine lv_aload_n hx hb dX2_putAt_46 rfl (lv_at hl 0 rfl) ?_
    refine zm_get (v := .int 1) hx hb hts hi_X2_putAt hown hw hm 12 (by decide) hf_X2_putAt_48 rfl dX2_putAt_47 ?_
    refine lv_if_le (tgt := 55) hx hb dX2_putAt_50 (by decide) (fun c_3 => absurd c_3 (by decide)) (fun c_3 => ?_)
    refine lv_lconst (v := 0) hx hb dX2_putAt_53 (by decide) ?_
    have ho : (o_putAt σ p0 p1 p2) = (1, 0, σ) := by unfold o_putAt; first | exact (if_pos (show (zis σ p0 = true) from by assumption)).trans (if_neg (show ¬ (zin p1 0 (zEN σ (Int32.toNatClampNeg p0) - 1) = true) from by assumption)) | exact if_neg (show ¬ (zis σ p0 = true) from by assumption)
    exact z_lret hx hb hr hlocks hw (Nat.le_of_ble_eq_true rfl) (Nat.le_of_ble_eq_true rfl) dX2_putAt_54 ⟨rfl, _, _, rfl, by rw [ho]; exact hm, by rw [ho]; exact fun h => absurd (show (1 : Int32) = 0 from h) (by decide)⟩
  · refine lv_iload_n hx hb dX2_putAt_9 rfl (lv_at hl 2 rfl) ?_
    refine lv_iconst (v := 0) hx hb dX2_putAt_10 (by decide) ?_
    refine lv_aload_n hx hb dX2_putAt_11 rfl (lv_at hl 0 rfl) ?_
    refine zm_get (v := .ref (am 7)) hx hb hts hi_X2_putAt hown hw hm 6 (by decide) hf_X2_putAt_29 rfl dX2_putAt_12 ?_
    refine lv_iload_n hx hb dX2_putAt_15 rfl (lv_at hl 1 rfl) ?_
    refine zm_ldEN hx hb hw hm (by first | assumption | exact zis_7 (by assumption) | exact zin_7 (by assumption) | exact zin_1 (by assumption)) dX2_putAt_16 ?_
    refine lv_iconst (v := 1) hx hb dX2_putAt_17 (by decide) ?_
    refine lv_isub hx hb dX2_putAt_18 ?_
    refine z_callS (As := [.int p1, .int 0, .int ((zEN σ (Int32.toNatClampNeg p0)) - 1)]) (rest := [.ref (am 0)]) ⟨hx, hb, hml, hown, hts⟩ hw hX (c_X2_in l g L f p1 0 ((zEN σ (Int32.toNatClampNeg p0)) - 1)) (va_cwS 3 hts gX2_putAt_X2_in rfl rfl rfl (by decide +kernel) ⟨(Nat.le_of_ble_eq_true rfl), (Nat.le_of_ble_eq_true rfl)⟩) rfl hl.1 rfl (Nat.le_of_ble_eq_true rfl) dX2_putAt_19 ⟨(Nat.le_of_ble_eq_true rfl), (Nat.le_of_ble_eq_true rfl)⟩ (fun _ _ _ _ _ _ _ hp => False.elim hp) (fun r9 L9 f9 H locs hp hw => ?_)
    obtain ⟨rfl, rfl, rfl⟩ := hp
    refine W.eq (g2 := F0 m 22 ls [.int (zb (zin p1 0 ((zEN σ (Int32.toNatClampNeg p0)) - 1))), .ref (am 0)]) rfl ?_
    refine zr_bne hx hb dX2_putAt_22 (tgt := 29) (by decide) (fun c_4 => ?_) (fun c_4 => ?_)
    · refine lv_aload_n hx hb dX2_putAt_29 rfl (lv_at hl 0 rfl) ?_
      refine zm_get (v := .ref (am 9)) hx hb hts hi_X2_putAt hown hw hm 8 (by decide) hf_X2_putAt_35 rfl dX2_putAt_30 ?_
      refine lv_iload_n hx hb dX2_putAt_33 rfl (lv_at hl 1 rfl) ?_
      refine zm_ldRD hx hb hw hm (by first | assumption | exact zis_7 (by assumption) | exact zin_7 (by assumption) | exact zin_1 (by assumption)) dX2_putAt_34 ?_
      refine lv_if_eq (tgt := 42) hx hb dX2_putAt_35 (by decide) (fun c_5 => ?_) (fun c_5 => ?_)
      · refine lv_iconst (v := 0) hx hb dX2_putAt_42 (by decide) ?_
        refine zm_putT hx hb hts hi_X2_putAt hown hw hm hf_X2_putAt_48 dX2_putAt_43 (fun f_6 H locs hm hw => ?_)
        refine lv_aload_n hx hb dX2_putAt_46 rfl (lv_at hl 0 rfl) ?_
        refine zm_get (v := .int 0) hx hb hts hi_X2_putAt hown hw hm 12 (by decide) hf_X2_putAt_48 rfl dX2_putAt_47 ?_
        refine lv_if_le (tgt := 55) hx hb dX2_putAt_50 (by decide) (fun c_7 => ?_) (fun c_7 => absurd (by decide) c_7)
        refine lv_aload_n hx hb dX2_putAt_55 rfl (lv_at hl 0 rfl) ?_
        refine lv_iload_n hx hb dX2_putAt_56 rfl (lv_at hl 1 rfl) ?_
        refine lv_iload_n hx hb dX2_putAt_57 rfl (lv_at hl 2 rfl) ?_
        refine z_callV (As := [.int p0, .int p1]) (rest := []) ⟨hx, hb, hml, hown, hts⟩ hw hX (hm.1.1 0 (by decide)) rfl (c_X2_value l g am L f_6 σ bs 0 p0 p1 hm.rf (by first | assumption | exact zis_7 (by assumption) | exact zin_7 (by assumption) | exact zin_1 (by assumption)) (zAt_in (zI_win hI (by assumption)) (zWin_ix (zI_win hI (by assumption)) (by assumption)).1 (zWin_ix (zI_win hI (by assumption)) (by assumption)).2)) (cwV 2 hts gX2_putAt_X2_value rfl rfl rfl (by decide +kernel) ⟨(Nat.le_of_ble_eq_true rfl), (Nat.le_of_ble_eq_true rfl)⟩) rfl hl.1 rfl (Nat.le_of_ble_eq_true rfl) dX2_putAt_58 ⟨(Nat.le_of_ble_eq_true rfl), (Nat.le_of_ble_eq_true rfl)⟩ (fun _ _ _ _ _ _ _ hp => False.elim hp) (fun r9 L9 f9 H locs hp hw => ?_)
        obtain ⟨rfl, rfl, rfl⟩ := hp
        refine W.eq (g2 := F0 m 61 ls [.long (zVal σ (Int32.toNatClampNeg p0) p1)]) rfl ?_
        refine lv_lstore (lv' := [(5, .long (zVal σ (Int32.toNatClampNeg p0) p1)), (0, .ref (am 0)), (1, .int p0), (2, .int p1), (3, .long p2)]) hx hb dX2_putAt_61 hl (by decide) rfl (fun ls hl => ?_)
        refine lv_aload_n hx hb dX2_putAt_63 rfl (lv_at hl 1 rfl) ?_
        refine lv_iload_n hx hb dX2_putAt_64 rfl (lv_at hl 2 rfl) ?_
        refine lv_iload_n hx hb dX2_putAt_65 rfl (lv_at hl 3 rfl) ?_
        refine lv_lload_n hx hb dX2_putAt_66 rfl (lv_at hl 4 rfl) ?_
        refine z_callV (As := [.int p0, .int p1, .long p2]) (rest := []) ⟨hx, hb, hml, hown, hts⟩ hw hX (hm.1.1 0 (by decide)) rfl (c_X2_lays l g am L f_6 σ bs 0 p0 p1 p2 hm.rf (by first | assumption | exact zis_7 (by assumption) | exact zin_7 (by assumption) | exact zin_1 (by assumption)) (zAt_in (zI_win hI (by assumption)) (zWin_ix (zI_win hI (by assumption)) (by assumption)).1 (zWin_ix (zI_win hI (by assumption)) (by assumption)).2)) (cwV 3 hts gX2_putAt_X2_lays rfl rfl rfl (by decide +kernel) ⟨(Nat.le_of_ble_eq_true rfl), (Nat.le_of_ble_eq_true rfl)⟩) rfl hl.1 rfl (Nat.le_of_ble_eq_true rfl) dX2_putAt_67 ⟨(Nat.le_of_ble_eq_true rfl), (Nat.le_of_ble_eq_true rfl)⟩ (fun _ _ _ _ _ _ _ hp => False.elim hp) (fun r9 L9 f9 H locs hp hw => ?_)
        obtain ⟨rfl, rfl, hm9⟩ := hp
        refine W.eq (g2 := F0 m 70 ls []) rfl ?_
        have hm := hm.tr hm9
        refine lv_lload hx hb dX2_putAt_70 (lv_at hl 0 rfl) ?_
        have ho : (o_putAt σ p0 p1 p2) = (0, (zVal σ (Int32.toNatClampNeg p0) p1), (zLay σ (Int32.toNatClampNeg p0) p1 p2)) := by unfold o_putAt; first | exact (if_pos (show (zis σ p0 = true) from by assumption)).trans ((if_pos (show (zin p1 0 (zEN σ (Int32.toNatClampNeg p0) - 1) = true) from by assumption)).trans (if_pos (show (zRD σ (Int32.toNatClampNeg p0) = 0) from by assumption)))
        exact z_lret hx hb hr hlocks hw (Nat.le_of_ble_eq_true rfl) (Nat.le_of_ble_eq_true rfl) dX2_putAt_72 ⟨rfl, _, _, rfl, by rw [ho]; exact hm, by rw [ho]; exact fun _ => rfl⟩
      · refine lv_iconst (v := 2) hx hb dX2_putAt_38 (by decide) ?_
        refine lv_goto (tgt := 43) hx hb dX2_putAt_39 (by decide) ?_
        refine zm_putT hx hb hts hi_X2_putAt hown hw hm hf_X2_putAt_48 dX2_putAt_43 (fun f_8 H locs hm hw => ?_)
        refine lv_aload_n hx hb dX2_putAt_46 rfl (lv_at hl 0 rfl) ?_
        refine zm_get (v := .int 2) hx hb hts hi_X2_putAt hown hw hm 12 (by decide) hf_X2_putAt_48 rfl dX2_putAt_47 ?_
        refine lv_if_le (tgt := 55) hx hb dX2_putAt_50 (by decide) (fun c_9 => absurd c_9 (by decide)) (fun c_9 => ?_)
        refine lv_lconst (v := 0) hx hb dX2_putAt_53 (by decide) ?_
        have ho : (o_putAt σ p0 p1 p2) = (2, 0, σ) := by unfold o_putAt; first | exact (if_pos (show (zis σ p0 = true) from by assumption)).trans ((if_pos (show (zin p1 0 (zEN σ (Int32.toNatClampNeg p0) - 1) = true) from by assumption)).trans (if_neg (show ¬ (zRD σ (Int32.toNatClampNeg p0) = 0) from by assumption)))
        exact z_lret hx hb hr hlocks hw (Nat.le_of_ble_eq_true rfl) (Nat.le_of_ble_eq_true rfl) dX2_putAt_54 ⟨rfl, _, _, rfl, by rw [ho]; exact hm, by rw [ho]; exact fun h => absurd (show (2 : Int32) = 0 from h) (by decide)⟩
    · refine lv_iconst (v := 1) hx hb dX2_putAt_25 (by decide) ?_
      refine lv_goto (tgt := 43) hx hb dX2_putAt_26 (by decide) ?_
      refine zm_putT hx hb hts hi_X2_putAt hown hw hm hf_X2_putAt_48 dX2_putAt_43 (fun f_10 H locs hm hw => ?_)
      refine lv_aload_n hx hb dX2_putAt_46 rfl (lv_at hl 0 rfl) ?_
      refine zm_get (v := .int 1) hx hb hts hi_X2_putAt hown hw hm 12 (by decide) hf_X2_putAt_48 rfl dX2_putAt_47 ?_
      refine lv_if_le (tgt := 55) hx hb dX2_putAt_50 (by decide) (fun c_11 => absurd c_11 (by decide)) (fun c_11 => ?_)
      refine lv_lconst (v := 0) hx hb dX2_putAt_53 (by decide) ?_
      have ho : (o_putAt σ p0 p1 p2) = (1, 0, σ) := by unfold o_putAt; first | exact (if_pos (show (zis σ p0 = true) from by assumption)).trans (if_neg (show ¬ (zin p1 0 (zEN σ (Int32.toNatClampNeg p0) - 1) = true) from by assumption)) | exact if_neg (show ¬ (zis σ p0 = true) from by assumption)
      exact z_lret hx hb hr hlocks hw (Nat.le_of_ble_eq_true rfl) (Nat.le_of_ble_eq_true rfl) dX2_putAt_54 ⟨rfl, _, _, rfl, by rw [ho]; exact hm, by rw [ho]; exact fun h => absurd (show (1 : Int32) = 0 from h) (by decide)⟩

def o_slice (σ : ZS) (p0 : Int32) (p1 : Int32) : Int32 × Int32 × ZS := if zis σ p0 = true then if zin p1 0 7 = true then (0, zSZ (zBecomes σ (Int32.toNatClampNeg p1) (zK σ (Int32.toNatClampNeg p0)) (zSI σ (Int32.toNatClampNeg p0)) (zFR σ (Int32.toNatClampNeg p0) + zPL σ (Int32.toNatClampNeg p0)) (zEN σ (Int32.toNatClampNeg p0) - zPL σ (Int32.toNatClampNeg p0)) (zRD σ (Int32.toNatClampNeg p0))) (Int32.toNatClampNeg p1), (zBecomes σ (Int32.toNatClampNeg p1) (zK σ (Int32.toNatClampNeg p0)) (zSI σ (Int32.toNatClampNeg p0)) (zFR σ (Int32.toNatClampNeg p0) + zPL σ (Int32.toNatClampNeg p0)) (zEN σ (Int32.toNatClampNeg p0) - zPL σ (Int32.toNatClampNeg p0)) (zRD σ (Int32.toNatClampNeg p0)))) else (1, 0, σ) else (1, 0, σ)

theorem hi_X2_slice : ∀ w ∈ wsX20, w ∈ wsX2_slice := by decide +kernel
theorem hf_X2_slice_13 : Cond.fieldLink RX2 13 (TX2 1).1 (TX2 1).2.1 (TX2 1).2.2.1 ∈ wsX2_slice := by decide +kernel
theorem hf_X2_slice_17 : Cond.fieldLink RX2 17 (TX2 2).1 (TX2 2).2.1 (TX2 2).2.2.1 ∈ wsX2_slice := by decide +kernel
theorem hf_X2_slice_20 : Cond.fieldLink RX2 20 (TX2 3).1 (TX2 3).2.1 (TX2 3).2.2.1 ∈ wsX2_slice := by decide +kernel
theorem hf_X2_slice_23 : Cond.fieldLink RX2 23 (TX2 4).1 (TX2 4).2.1 (TX2 4).2.2.1 ∈ wsX2_slice := by decide +kernel
theorem hf_X2_slice_26 : Cond.fieldLink RX2 26 (TX2 5).1 (TX2 5).2.1 (TX2 5).2.2.1 ∈ wsX2_slice := by decide +kernel
theorem hf_X2_slice_29 : Cond.fieldLink RX2 29 (TX2 6).1 (TX2 6).2.1 (TX2 6).2.2.1 ∈ wsX2_slice := by decide +kernel
theorem hf_X2_slice_35 : Cond.fieldLink RX2 35 (TX2 8).1 (TX2 8).2.1 (TX2 8).2.2.1 ∈ wsX2_slice := by decide +kernel
theorem hf_X2_slice_48 : Cond.fieldLink RX2 48 (TX2 12).1 (TX2 12).2.1 (TX2 12).2.2.1 ∈ wsX2_slice := by decide +kernel
set_option maxRecDepth 100000 in
set_option maxHeartbeats 4000000 in
theorem c_X2_slice (l : Launch) (g : zG) (am : Nat → Nat) (L : List Nat) (f : Nat → va_E) (σ : ZS) (bs : Nat → Int64) (th : Int32) (p0 : Int32) (p1 : Int32) (hm : zM g am f σ bs th L f) {ln : Nat → Nat} {kd : Nat → Int32} (hI : zI σ ln kd) : zC l yX2_slice wsX2_slice { frames := 2, cells := 0, slots := 0, locals := 43 } 0 0 g [.ref (am 0), .int p0, .int p1] L f (fun r L1 f1 => L = L1 ∧ ∃ (b9 : Int32) (bs1 : Nat → Int64), some (.int b9) = r ∧ zM g am f (o_slice σ p0 p1).2.2 bs1 (o_slice σ p0 p1).1 L f1 ∧ ((o_slice σ p0 p1).1 = 0 → b9 = (o_slice σ p0 p1).2.1)) zNo := by
  refine z_ofW (cc := cX2_slice) (maxL := 3) (ret := (some .int)) (by decide) rfl (Nat.le_of_ble_eq_true rfl) ?_
  intro p e s m args below meth c ls A hx hb hr hts hown hlocks hml htab hin hw hX hl
  have hl : lv_has ls 3 [(0, .ref (am 0)), (1, .int p0), (2, .int p1)] := hl
  have hown : s.vm.findClass RX2 = some m.cls := hown
  refine lv_aload_n hx hb dX2_slice_0 rfl (lv_at hl 0 rfl) ?_
  refine lv_aload_n hx hb dX2_slice_1 rfl (lv_at hl 0 rfl) ?_
  refine lv_iload_n hx hb dX2_slice_2 rfl (lv_at hl 1 rfl) ?_
  refine z_callV (As := [.int p0]) (rest := [.ref (am 0)]) ⟨hx, hb, hml, hown, hts⟩ hw hX (hm.1.1 0 (by decide)) rfl (c_X2_is l g am L f σ bs th p0 hm.rf) (cwV 1 hts gX2_slice_X2_is rfl rfl rfl (by decide +kernel) ⟨(Nat.le_of_ble_eq_true rfl), (Nat.le_of_ble_eq_true rfl)⟩) rfl hl.1 rfl (Nat.le_of_ble_eq_true rfl) dX2_slice_3 ⟨(Nat.le_of_ble_eq_true rfl), (Nat.le_of_ble_eq_true rfl)⟩ (fun _ _ _ _ _ _ _ hp => False.elim hp) (fun r9 L9 f9 H locs hp hw => ?_)
  obtain ⟨rfl, rfl, rfl⟩ := hp
  refine W.eq (g2 := F0 m 6 ls [.int (zb (zis σ p0)), .ref (am 0)]) rfl ?_
  refine zr_beq hx hb dX2_slice_6 (tgt := 19) (by decide) (fun c_1 => ?_) (fun c_1 => ?_)
  · refine lv_iconst (v := 1) hx hb dX2_slice_19 (by decide) ?_
    refine lv_goto (tgt := 24) hx hb dX2_slice_20 (by decide) ?_
    refine zm_putT hx hb hts hi_X2_slice hown hw hm hf_X2_slice_48 dX2_slice_24 (fun f_2 H locs hm hw => ?_)
    refine lv_aload_n hx hb dX2_slice_27 rfl (lv_at hl 0 rfl) ?_
    refine zm_get (v := .int 1) hx hb hts hi_X2_slice hown hw hm 12 (by decide) hf_X2_slice_48 rfl dX2_slice_28 ?_
    refine lv_if_le (tgt := 36) hx hb dX2_slice_31 (by decide) (fun c_3 => absurd c_3 (by decide)) (fun c_3 => ?_)
    refine lv_iconst (v := 0) hx hb dX2_slice_34 (by decide) ?_
    have ho : (o_slice σ p0 p1) = (1, 0, σ) := by unfold o_slice; first | exact (if_pos (show (zis σ p0 = true) from by assumption)).trans (if_neg (show ¬ (zin p1 0 7 = true) from by assumption)) | exact if_neg (show ¬ (zis σ p0 = true) from by assumption)
    exact z_iret hx hb hr hlocks hw (Nat.le_of_ble_eq_true rfl) (Nat.le_of_ble_eq_true rfl) dX2_slice_35 ⟨rfl, _, _, rfl, by rw [ho]; exact hm, by rw [ho]; exact fun h => absurd (show (1 : Int32) = 0 from h) (by decide)⟩
  · refine lv_iload_n hx hb dX2_slice_9 rfl (lv_at hl 2 rfl) ?_
    refine lv_iconst (v := 0) hx hb dX2_slice_10 (by decide) ?_
    refine lv_bipush (v := 7) hx hb dX2_slice_11 (by decide) ?_
    refine z_callS (As := [.int p1, .int 0, .int 7]) (rest := [.ref (am 0)]) ⟨hx, hb, hml, hown, hts⟩ hw hX (c_X2_in l g L f p1 0 7) (va_cwS 3 hts gX2_slice_X2_in rfl rfl rfl (by decide +kernel) ⟨(Nat.le_of_ble_eq_true rfl), (Nat.le_of_ble_eq_true rfl)⟩) rfl hl.1 rfl (Nat.le_of_ble_eq_true rfl) dX2_slice_13 ⟨(Nat.le_of_ble_eq_true rfl), (Nat.le_of_ble_eq_true rfl)⟩ (fun _ _ _ _ _ _ _ hp => False.elim hp) (fun r9 L9 f9 H locs hp hw => ?_)
    obtain ⟨rfl, rfl, rfl⟩ := hp
    refine W.eq (g2 := F0 m 16 ls [.int (zb (zin p1 0 7)), .ref (am 0)]) rfl ?_
    refine zr_bne hx hb dX2_slice_16 (tgt := 23) (by decide) (fun c_4 => ?_) (fun c_4 => ?_)
    · refine lv_iconst (v := 0) hx hb dX2_slice_23 (by decide) ?_
      refine zm_putT hx hb hts hi_X2_slice hown hw hm hf_X2_slice_48 dX2_slice_24 (fun f_5 H locs hm hw => ?_)
      refine lv_aload_n hx hb dX2_slice_27 rfl (lv_at hl 0 rfl) ?_
      refine zm_get (v := .int 0) hx hb hts hi_X2_slice hown hw hm 12 (by decide) hf_X2_slice_48 rfl dX2_slice_28 ?_
      refine lv_if_le (tgt := 36) hx hb dX2_slice_31 (by decide) (fun c_6 => ?_) (fun c_6 => absurd (by decide) c_6)
      refine lv_aload_n hx hb dX2_slice_36 rfl (lv_at hl 0 rfl) ?_
      refine lv_iload_n hx hb dX2_slice_37 rfl (lv_at hl 2 rfl) ?_
      refine lv_aload_n hx hb dX2_slice_38 rfl (lv_at hl 0 rfl) ?_
      refine zm_get (v := .ref (am 2)) hx hb hts hi_X2_slice hown hw hm 1 (by decide) hf_X2_slice_13 rfl dX2_slice_39 ?_
      refine lv_iload_n hx hb dX2_slice_42 rfl (lv_at hl 1 rfl) ?_
      refine zm_ldK hx hb hw hm (zis_7 (by assumption)) dX2_slice_43 ?_
      refine lv_aload_n hx hb dX2_slice_44 rfl (lv_at hl 0 rfl) ?_
      refine zm_get (v := .ref (am 3)) hx hb hts hi_X2_slice hown hw hm 2 (by decide) hf_X2_slice_17 rfl dX2_slice_45 ?_
      refine lv_iload_n hx hb dX2_slice_48 rfl (lv_at hl 1 rfl) ?_
      refine zm_ldSI hx hb hw hm (zis_7 (by assumption)) dX2_slice_49 ?_
      refine lv_aload_n hx hb dX2_slice_50 rfl (lv_at hl 0 rfl) ?_
      refine zm_get (v := .ref (am 4)) hx hb hts hi_X2_slice hown hw hm 3 (by decide) hf_X2_slice_20 rfl dX2_slice_51 ?_
      refine lv_iload_n hx hb dX2_slice_54 rfl (lv_at hl 1 rfl) ?_
      refine zm_ldFR hx hb hw hm (zis_7 (by assumption)) dX2_slice_55 ?_
      refine lv_aload_n hx hb dX2_slice_56 rfl (lv_at hl 0 rfl) ?_
      refine zm_get (v := .ref (am 6)) hx hb hts hi_X2_slice hown hw hm 5 (by decide) hf_X2_slice_26 rfl dX2_slice_57 ?_
      refine lv_iload_n hx hb dX2_slice_60 rfl (lv_at hl 1 rfl) ?_
      refine zm_ldPL hx hb hw hm (zis_7 (by assumption)) dX2_slice_61 ?_
      refine lv_iadd hx hb dX2_slice_62 ?_
      refine lv_aload_n hx hb dX2_slice_63 rfl (lv_at hl 0 rfl) ?_
      refine zm_get (v := .ref (am 7)) hx hb hts hi_X2_slice hown hw hm 6 (by decide) hf_X2_slice_29 rfl dX2_slice_64 ?_
      refine lv_iload_n hx hb dX2_slice_67 rfl (lv_at hl 1 rfl) ?_
      refine zm_ldEN hx hb hw hm (zis_7 (by assumption)) dX2_slice_68 ?_
      refine lv_aload_n hx hb dX2_slice_69 rfl (lv_at hl 0 rfl) ?_
      refine zm_get (v := .ref (am 6)) hx hb hts hi_X2_slice hown hw hm 5 (by decide) hf_X2_slice_26 rfl dX2_slice_70 ?_
      refine lv_iload_n hx hb dX2_slice_73 rfl (lv_at hl 1 rfl) ?_
      refine zm_ldPL hx hb hw hm (zis_7 (by assumption)) dX2_slice_74 ?_
      refine lv_isub hx hb dX2_slice_75 ?_
      refine lv_aload_n hx hb dX2_slice_76 rfl (lv_at hl 0 rfl) ?_
      refine zm_get (v := .ref (am 9)) hx hb hts hi_X2_slice hown hw hm 8 (by decide) hf_X2_slice_35 rfl dX2_slice_77 ?_
      refine lv_iload_n hx hb dX2_slice_80 rfl (lv_at hl 1 rfl) ?_
      refine zm_ldRD hx hb hw hm (zis_7 (by assumption)) dX2_slice_81 ?_
      refine z_callV (As := [.int p1, .int (zK σ (Int32.toNatClampNeg p0)), .int (zSI σ (Int32.toNatClampNeg p0)), .int ((zFR σ (Int32.toNatClampNeg p0)) + (zPL σ (Int32.toNatClampNeg p0))), .int ((zEN σ (Int32.toNatClampNeg p0)) - (zPL σ (Int32.toNatClampNeg p0))), .int (zRD σ (Int32.toNatClampNeg p0))]) (rest := []) ⟨hx, hb, hml, hown, hts⟩ hw hX (hm.1.1 0 (by decide)) rfl (c_X2_becomes l g am L f_5 σ bs 0 p1 (zK σ (Int32.toNatClampNeg p0)) (zSI σ (Int32.toNatClampNeg p0)) ((zFR σ (Int32.toNatClampNeg p0)) + (zPL σ (Int32.toNatClampNeg p0))) ((zEN σ (Int32.toNatClampNeg p0)) - (zPL σ (Int32.toNatClampNeg p0))) (zRD σ (Int32.toNatClampNeg p0)) hm.rf (zin_7 (by assumption))) (cwV 6 hts gX2_slice_X2_becomes rfl rfl rfl (by decide +kernel) ⟨(Nat.le_of_ble_eq_true rfl), (Nat.le_of_ble_eq_true rfl)⟩) rfl hl.1 rfl (Nat.le_of_ble_eq_true rfl) dX2_slice_82 ⟨(Nat.le_of_ble_eq_true rfl), (Nat.le_of_ble_eq_true rfl)⟩ (fun _ _ _ _ _ _ _ hp => False.elim hp) (fun r9 L9 f9 H locs hp hw => ?_)
      obtain ⟨rfl, rfl, hm9⟩ := hp
      refine W.eq (g2 := F0 m 85 ls []) rfl ?_
      have hm := hm.tr hm9
      refine lv_aload_n hx hb dX2_slice_85 rfl (lv_at hl 0 rfl) ?_
      refine zm_get (v := .ref (am 5)) hx hb hts hi_X2_slice hown hw hm 4 (by decide) hf_X2_slice_23 rfl dX2_slice_86 ?_
      refine lv_iload_n hx hb dX2_slice_89 rfl (lv_at hl 2 rfl) ?_
      refine zm_ldSZ hx hb hw hm (zin_7 (by assumption)) dX2_slice_90 ?_
      have ho : (o_slice σ p0 p1) = (0, (zSZ (zBecomes σ (Int32.toNatClampNeg p1) (zK σ (Int32.toNatClampNeg p0)) (zSI σ (Int32.toNatClampNeg p0)) ((zFR σ (Int32.toNatClampNeg p0)) + (zPL σ (Int32.toNatClampNeg p0))) ((zEN σ (Int32.toNatClampNeg p0)) - (zPL σ (Int32.toNatClampNeg p0))) (zRD σ (Int32.toNatClampNeg p0))) (Int32.toNatClampNeg p1)), (zBecomes σ (Int32.toNatClampNeg p1) (zK σ (Int32.toNatClampNeg p0)) (zSI σ (Int32.toNatClampNeg p0)) ((zFR σ (Int32.toNatClampNeg p0)) + (zPL σ (Int32.toNatClampNeg p0))) ((zEN σ (Int32.toNatClampNeg p0)) - (zPL σ (Int32.toNatClampNeg p0))) (zRD σ (Int32.toNatClampNeg p0)))) := by unfold o_slice; first | exact (if_pos (show (zis σ p0 = true) from by assumption)).trans (if_pos (show (zin p1 0 7 = true) from by assumption))
      exact z_iret hx hb hr hlocks hw (Nat.le_of_ble_eq_true rfl) (Nat.le_of_ble_eq_true rfl) dX2_slice_91 ⟨rfl, _, _, rfl, by rw [ho]; exact hm, by rw [ho]; exact fun _ => rfl⟩
    · refine lv_iconst (v := 1) hx hb dX2_slice_19 (by decide) ?_
      refine lv_goto (tgt := 24) hx hb dX2_slice_20 (by decide) ?_
      refine zm_putT hx hb hts hi_X2_slice hown hw hm hf_X2_slice_48 dX2_slice_24 (fun f_7 H locs hm hw => ?_)
      refine lv_aload_n hx hb dX2_slice_27 rfl (lv_at hl 0 rfl) ?_
      refine zm_get (v := .int 1) hx hb hts hi_X2_slice hown hw hm 12 (by decide) hf_X2_slice_48 rfl dX2_slice_28 ?_
      refine lv_if_le (tgt := 36) hx hb dX2_slice_31 (by decide) (fun c_8 => absurd c_8 (by decide)) (fun c_8 => ?_)
      refine lv_iconst (v := 0) hx hb dX2_slice_34 (by decide) ?_
      have ho : (o_slice σ p0 p1) = (1, 0, σ) := by unfold o_slice; first | exact (if_pos (show (zis σ p0 = true) from by assumption)).trans (if_neg (show ¬ (zin p1 0 7 = true) from by assumption)) | exact if_neg (show ¬ (zis σ p0 = true) from by assumption)
      exact z_iret hx hb hr hlocks hw (Nat.le_of_ble_eq_true rfl) (Nat.le_of_ble_eq_true rfl) dX2_slice_35 ⟨rfl, _, _, rfl, by rw [ho]; exact hm, by rw [ho]; exact fun h => absurd (show (1 : Int32) = 0 from h) (by decide)⟩

def o_sliceAt (σ : ZS) (p0 : Int32) (p1 : Int32) (p2 : Int32) (p3 : Int32) : Int32 × Int32 × ZS := if zis σ p0 = true then if zin p1 0 (zEN σ (Int32.toNatClampNeg p0)) = true then if zin p2 0 (zEN σ (Int32.toNatClampNeg p0) - p1) = true then if zin p3 0 7 = true then (0, p2, (zBecomes σ (Int32.toNatClampNeg p3) (zK σ (Int32.toNatClampNeg p0)) (zSI σ (Int32.toNatClampNeg p0)) (zFR σ (Int32.toNatClampNeg p0) + p1) p2 (zRD σ (Int32.toNatClampNeg p0)))) else (1, 0, σ) else (1, 0, σ) else (1, 0, σ) else (1, 0, σ)

theorem hi_X2_sliceAt : ∀ w ∈ wsX20, w ∈ wsX2_sliceAt := by decide +kernel
theorem hf_X2_sliceAt_13 : Cond.fieldLink RX2 13 (TX2 1).1 (TX2 1).2.1 (TX2 1).2.2.1 ∈ wsX2_sliceAt := by decide +kernel
theorem hf_X2_sliceAt_17 : Cond.fieldLink RX2 17 (TX2 2).1 (TX2 2).2.1 (TX2 2).2.2.1 ∈ wsX2_sliceAt := by decide +kernel
theorem hf_X2_sliceAt_20 : Cond.fieldLink RX2 20 (TX2 3).1 (TX2 3).2.1 (TX2 3).2.2.1 ∈ wsX2_sliceAt := by decide +kernel
theorem hf_X2_sliceAt_29 : Cond.fieldLink RX2 29 (TX2 6).1 (TX2 6).2.1 (TX2 6).2.2.1 ∈ wsX2_sliceAt := by decide +kernel
theorem hf_X2_sliceAt_35 : Cond.fieldLink RX2 35 (TX2 8).1 (TX2 8).2.1 (TX2 8).2.2.1 ∈ wsX2_sliceAt := by decide +kernel
theorem hf_X2_sliceAt_48 : Cond.fieldLink RX2 48 (TX2 12).1 (TX2 12).2.1 (TX2 12).2.2.1 ∈ wsX2_sliceAt := by decide +kernel
set_option maxRecDepth 100000 in
set_option maxHeartbeats 4000000 in
theorem c_X2_sliceAt (l : Launch) (g : zG) (am : Nat → Nat) (L : List Nat) (f : Nat → va_E) (σ : ZS) (bs : Nat → Int64) (th : Int32) (p0 : Int32) (p1 : Int32) (p2 : Int32) (p3 : Int32) (hm : zM g am f σ bs th L f) {ln : Nat → Nat} {kd : Nat → Int32} (hI : zI σ ln kd) : zC l yX2_sliceAt wsX2_sliceAt { frames := 2, cells := 0, slots := 0, locals := 43 } 0 0 g [.ref (am 0), .int p0, .int p1, .int p2, .int p3] L f (fun r L1 f1 => L = L1 ∧ ∃ (b9 : Int32) (bs1 : Nat → Int64), some (.int b9) = r ∧ zM g am f (o_sliceAt σ p0 p1 p2 p3).2.2 bs1 (o_sliceAt σ p0 p1 p2 p3).1 L f1 ∧ ((o_sliceAt σ p0 p1 p2 p3).1 = 0 → b9 = (o_sliceAt σ p0 p1 p2 p3).2.1)) zNo := by
  refine z_ofW (cc := cX2_sliceAt) (maxL := 6) (ret := (some .int)) (by decide) rfl (Nat.le_of_ble_eq_true rfl) ?_
  intro p e s m args below meth c ls A hx hb hr hts hown hlocks hml htab hin hw hX hl
  have hl : lv_has ls 6 [(0, .ref (am 0)), (1, .int p0), (2, .int p1), (3, .int p2), (4, .int p3)] := hl
  have hown : s.vm.findClass RX2 = some m.cls := hown
  refine lv_aload_n hx hb dX2_sliceAt_0 rfl (lv_at hl 0 rfl) ?_
  refine lv_iload_n hx hb dX2_sliceAt_1 rfl (lv_at hl 1 rfl) ?_
  refine z_callV (As := [.int p0]) (rest := []) ⟨hx, hb, hml, hown, hts⟩ hw hX (hm.1.1 0 (by decide)) rfl (c_X2_is l g am L f σ bs th p0 hm.rf) (cwV 1 hts gX2_sliceAt_X2_is rfl rfl rfl (by decide +kernel) ⟨(Nat.le_of_ble_eq_true rfl), (Nat.le_of_ble_eq_true rfl)⟩) rfl hl.1 rfl (Nat.le_of_ble_eq_true rfl) dX2_sliceAt_2 ⟨(Nat.le_of_ble_eq_true rfl), (Nat.le_of_ble_eq_true rfl)⟩ (fun _ _ _ _ _ _ _ hp => False.elim hp) (fun r9 L9 f9 H locs hp hw => ?_)
  obtain ⟨rfl, rfl, rfl⟩ := hp
  refine W.eq (g2 := F0 m 5 ls [.int (zb (zis σ p0))]) rfl ?_
  refine zr_beq hx hb dX2_sliceAt_5 (tgt := 53) (by decide) (fun c_1 => ?_) (fun c_1 => ?_)
  · refine lv_iconst (v := 0) hx hb dX2_sliceAt_53 (by decide) ?_
    refine lv_istore (lv' := [(5, .int 0), (0, .ref (am 0)), (1, .int p0), (2, .int p1), (3, .int p2), (4, .int p3)]) hx hb dX2_sliceAt_54 hl (by decide) rfl (fun ls hl => ?_)
    refine lv_aload_n hx hb dX2_sliceAt_56 rfl (lv_at hl 1 rfl) ?_
    refine lv_iload hx hb dX2_sliceAt_57 (lv_at hl 0 rfl) ?_
    refine lv_if_eq (tgt := 66) hx hb dX2_sliceAt_59 (by decide) (fun c_2 => ?_) (fun c_2 => absurd (by decide) c_2)
    refine lv_iconst (v := 1) hx hb dX2_sliceAt_66 (by decide) ?_
    refine zm_putT hx hb hts hi_X2_sliceAt hown hw hm hf_X2_sliceAt_48 dX2_sliceAt_67 (fun f_3 H locs hm hw => ?_)
    refine lv_aload_n hx hb dX2_sliceAt_70 rfl (lv_at hl 1 rfl) ?_
    refine zm_get (v := .int 1) hx hb hts hi_X2_sliceAt hown hw hm 12 (by decide) hf_X2_sliceAt_48 rfl dX2_sliceAt_71 ?_
    refine lv_if_le (tgt := 79) hx hb dX2_sliceAt_74 (by decide) (fun c_4 => absurd c_4 (by decide)) (fun c_4 => ?_)
    refine lv_iconst (v := 0) hx hb dX2_sliceAt_77 (by decide) ?_
    have ho : (o_sliceAt σ p0 p1 p2 p3) = (1, 0, σ) := by unfold o_sliceAt; first | exact (if_pos (show (zis σ p0 = true) from by assumption)).trans ((if_pos (show (zin p1 0 (zEN σ (Int32.toNatClampNeg p0)) = true) from by assumption)).trans ((if_pos (show (zin p2 0 (zEN σ (Int32.toNatClampNeg p0) - p1) = true) from by assumption)).trans (if_neg (show ¬ (zin p3 0 7 = true) from by assumption)))) | exact (if_pos (show (zis σ p0 = true) from by assumption)).trans ((if_pos (show (zin p1 0 (zEN σ (Int32.toNatClampNeg p0)) = true) from by assumption)).trans (if_neg (show ¬ (zin p2 0 (zEN σ (Int32.toNatClampNeg p0) - p1) = true) from by assumption))) | exact (if_pos (show (zis σ p0 = true) from by assumption)).trans (if_neg (show ¬ (zin p1 0 (zEN σ (Int32.toNatClampNeg p0)) = true) from by assumption)) | exact if_neg (show ¬ (zis σ p0 = true) from by assumption)
    exact z_iret hx hb hr hlocks hw (Nat.le_of_ble_eq_true rfl) (Nat.le_of_ble_eq_true rfl) dX2_sliceAt_78 ⟨rfl, _, _, rfl, by rw [ho]; exact hm, by rw [ho]; exact fun h => absurd (show (1 : Int32) = 0 from h) (by decide)⟩
  · refine lv_iload_n hx hb dX2_sliceAt_8 rfl (lv_at hl 2 rfl) ?_
    refine lv_iconst (v := 0) hx hb dX2_sliceAt_9 (by decide) ?_
    refine lv_aload_n hx hb dX2_sliceAt_10 rfl (lv_at hl 0 rfl) ?_
    refine zm_get (v := .ref (am 7)) hx hb hts hi_X2_sliceAt hown hw hm 6 (by decide) hf_X2_sliceAt_29 rfl dX2_sliceAt_11 ?_
    refine lv_iload_n hx hb dX2_sliceAt_14 rfl (lv_at hl 1 rfl) ?_
    refine zm_ldEN hx hb hw hm (zis_7 (by assumption)) dX2_sliceAt_15 ?_
    refine z_callS (As := [.int p1, .int 0, .int (zEN σ (Int32.toNatClampNeg p0))]) (rest := []) ⟨hx, hb, hml, hown, hts⟩ hw hX (c_X2_in l g L f p1 0 (zEN σ (Int32.toNatClampNeg p0))) (va_cwS 3 hts gX2_sliceAt_X2_in rfl rfl rfl (by decide +kernel) ⟨(Nat.le_of_ble_eq_true rfl), (Nat.le_of_ble_eq_true rfl)⟩) rfl hl.1 rfl (Nat.le_of_ble_eq_true rfl) dX2_sliceAt_16 ⟨(Nat.le_of_ble_eq_true rfl), (Nat.le_of_ble_eq_true rfl)⟩ (fun _ _ _ _ _ _ _ hp => False.elim hp) (fun r9 L9 f9 H locs hp hw => ?_)
    obtain ⟨rfl, rfl, rfl⟩ := hp
    refine W.eq (g2 := F0 m 19 ls [.int (zb (zin p1 0 (zEN σ (Int32.toNatClampNeg p0))))]) rfl ?_
    refine zr_beq hx hb dX2_sliceAt_19 (tgt := 53) (by decide) (fun c_5 => ?_) (fun c_5 => ?_)
    · refine lv_iconst (v := 0) hx hb dX2_sliceAt_53 (by decide) ?_
      refine lv_istore (lv' := [(5, .int 0), (0, .ref (am 0)), (1, .int p0), (2, .int p1), (3, .int p2), (4, .int p3)]) hx hb dX2_sliceAt_54 hl (by decide) rfl (fun ls hl => ?_)
      refine lv_aload_n hx hb dX2_sliceAt_56 rfl (lv_at hl 1 rfl) ?_
      refine lv_iload hx hb dX2_sliceAt_57 (lv_at hl 0 rfl) ?_
      refine lv_if_eq (tgt := 66) hx hb dX2_sliceAt_59 (by decide) (fun c_6 => ?_) (fun c_6 => absurd (by decide) c_6)
      refine lv_iconst (v := 1) hx hb dX2_sliceAt_66 (by decide) ?_
      refine zm_putT hx hb hts hi_X2_sliceAt hown hw hm hf_X2_sliceAt_48 dX2_sliceAt_67 (fun f_7 H locs hm hw => ?_)
      refine lv_aload_n hx hb dX2_sliceAt_70 rfl (lv_at hl 1 rfl) ?_
      refine zm_get (v := .int 1) hx hb hts hi_X2_sliceAt hown hw hm 12 (by decide) hf_X2_sliceAt_48 rfl dX2_sliceAt_71 ?_
      refine lv_if_le (tgt := 79) hx hb dX2_sliceAt_74 (by decide) (fun c_8 => absurd c_8 (by decide)) (fun c_8 => ?_)
      refine lv_iconst (v := 0) hx hb dX2_sliceAt_77 (by decide) ?_
      have ho : (o_sliceAt σ p0 p1 p2 p3) = (1, 0, σ) := by unfold o_sliceAt; first | exact (if_pos (show (zis σ p0 = true) from by assumption)).trans ((if_pos (show (zin p1 0 (zEN σ (Int32.toNatClampNeg p0)) = true) from by assumption)).trans ((if_pos (show (zin p2 0 (zEN σ (Int32.toNatClampNeg p0) - p1) = true) from by assumption)).trans (if_neg (show ¬ (zin p3 0 7 = true) from by assumption)))) | exact (if_pos (show (zis σ p0 = true) from by assumption)).trans ((if_pos (show (zin p1 0 (zEN σ (Int32.toNatClampNeg p0)) = true) from by assumption)).trans (if_neg (show ¬ (zin p2 0 (zEN σ (Int32.toNatClampNeg p0) - p1) = true) from by assumption))) | exact (if_pos (show (zis σ p0 = true) from by assumption)).trans (if_neg (show ¬ (zin p1 0 (zEN σ (Int32.toNatClampNeg p0)) = true) from by assumption)) | exact if_neg (show ¬ (zis σ p0 = true) from by assumption)
      exact z_iret hx hb hr hlocks hw (Nat.le_of_ble_eq_true rfl) (Nat.le_of_ble_eq_true rfl) dX2_sliceAt_78 ⟨rfl, _, _, rfl, by rw [ho]; exact hm, by rw [ho]; exact fun h => absurd (show (1 : Int32) = 0 from h) (by decide)⟩
    · refine lv_iload_n hx hb dX2_sliceAt_22 rfl (lv_at hl 3 rfl) ?_
      refine lv_iconst (v := 0) hx hb dX2_sliceAt_23 (by decide) ?_
      refine lv_aload_n hx hb dX2_sliceAt_24 rfl (lv_at hl 0 rfl) ?_
      refine zm_get (v := .ref (am 7)) hx hb hts hi_X2_sliceAt hown hw hm 6 (by decide) hf_X2_sliceAt_29 rfl dX2_sliceAt_25 ?_
      refine lv_iload_n hx hb dX2_sliceAt_28 rfl (lv_at hl 1 rfl) ?_
      refine zm_ldEN hx hb hw hm (zis_7 (by assumption)) dX2_sliceAt_29 ?_
      refine lv_iload_n hx hb dX2_sliceAt_30 rfl (lv_at hl 2 rfl) ?_
      refine lv_isub hx hb dX2_sliceAt_31 ?_
      refine z_callS (As := [.int p2, .int 0, .int ((zEN σ (Int32.toNatClampNeg p0)) - p1)]) (rest := []) ⟨hx, hb, hml, hown, hts⟩ hw hX (c_X2_in l g L f p2 0 ((zEN σ (Int32.toNatClampNeg p0)) - p1)) (va_cwS 3 hts gX2_sliceAt_X2_in rfl rfl rfl (by decide +kernel) ⟨(Nat.le_of_ble_eq_true rfl), (Nat.le_of_ble_eq_true rfl)⟩) rfl hl.1 rfl (Nat.le_of_ble_eq_true rfl) dX2_sliceAt_32 ⟨(Nat.le_of_ble_eq_true rfl), (Nat.le_of_ble_eq_true rfl)⟩ (fun _ _ _ _ _ _ _ hp => False.elim hp) (fun r9 L9 f9 H locs hp hw => ?_)
      obtain ⟨rfl, rfl, rfl⟩ := hp
      refine W.eq (g2 := F0 m 35 ls [.int (zb (zin p2 0 ((zEN σ (Int32.toNatClampNeg p0)) - p1)))]) rfl ?_
      refine zr_beq hx hb dX2_sliceAt_35 (tgt := 53) (by decide) (fun c_9 => ?_) (fun c_9 => ?_)
      · refine lv_iconst (v := 0) hx hb dX2_sliceAt_53 (by decide) ?_
        refine lv_istore (lv' := [(5, .int 0), (0, .ref (am 0)), (1, .int p0), (2, .int p1), (3, .int p2), (4, .int p3)]) hx hb dX2_sliceAt_54 hl (by decide) rfl (fun ls hl => ?_)
        refine lv_aload_n hx hb dX2_sliceAt_56 rfl (lv_at hl 1 rfl) ?_
        refine lv_iload hx hb dX2_sliceAt_57 (lv_at hl 0 rfl) ?_
        refine lv_if_eq (tgt := 66) hx hb dX2_sliceAt_59 (by decide) (fun c_10 => ?_) (fun c_10 => absurd (by decide) c_10)
        refine lv_iconst (v := 1) hx hb dX2_sliceAt_66 (by decide) ?_
        refine zm_putT hx hb hts hi_X2_sliceAt hown hw hm hf_X2_sliceAt_48 dX2_sliceAt_67 (fun f_11 H locs hm hw => ?_)
        refine lv_aload_n hx hb dX2_sliceAt_70 rfl (lv_at hl 1 rfl) ?_
        refine zm_get (v := .int 1) hx hb hts hi_X2_sliceAt hown hw hm 12 (by decide) hf_X2_sliceAt_48 rfl dX2_sliceAt_71 ?_
        refine lv_if_le (tgt := 79) hx hb dX2_sliceAt_74 (by decide) (fun c_12 => absurd c_12 (by decide)) (fun c_12 => ?_)
        refine lv_iconst (v := 0) hx hb dX2_sliceAt_77 (by decide) ?_
        have ho : (o_sliceAt σ p0 p1 p2 p3) = (1, 0, σ) := by unfold o_sliceAt; first | exact (if_pos (show (zis σ p0 = true) from by assumption)).trans ((if_pos (show (zin p1 0 (zEN σ (Int32.toNatClampNeg p0)) = true) from by assumption)).trans ((if_pos (show (zin p2 0 (zEN σ (Int32.toNatClampNeg p0) - p1) = true) from by assumption)).trans (if_neg (show ¬ (zin p3 0 7 = true) from by assumption)))) | exact (if_pos (show (zis σ p0 = true) from by assumption)).trans ((if_pos (show (zin p1 0 (zEN σ (Int32.toNatClampNeg p0)) = true) from by assumption)).trans (if_neg (show ¬ (zin p2 0 (zEN σ (Int32.toNatClampNeg p0) - p1) = true) from by assumption))) | exact (if_pos (show (zis σ p0 = true) from by assumption)).trans (if_neg (show ¬ (zin p1 0 (zEN σ (Int32.toNatClampNeg p0)) = true) from by assumption)) | exact if_neg (show ¬ (zis σ p0 = true) from by assumption)
        exact z_iret hx hb hr hlocks hw (Nat.le_of_ble_eq_true rfl) (Nat.le_of_ble_eq_true rfl) dX2_sliceAt_78 ⟨rfl, _, _, rfl, by rw [ho]; exact hm, by rw [ho]; exact fun h => absurd (show (1 : Int32) = 0 from h) (by decide)⟩
      · refine lv_iload hx hb dX2_sliceAt_38 (lv_at hl 4 rfl) ?_
        refine lv_iconst (v := 0) hx hb dX2_sliceAt_40 (by decide) ?_
        refine lv_bipush (v := 7) hx hb dX2_sliceAt_41 (by decide) ?_
        refine z_callS (As := [.int p3, .int 0, .int 7]) (rest := []) ⟨hx, hb, hml, hown, hts⟩ hw hX (c_X2_in l g L f p3 0 7) (va_cwS 3 hts gX2_sliceAt_X2_in rfl rfl rfl (by decide +kernel) ⟨(Nat.le_of_ble_eq_true rfl), (Nat.le_of_ble_eq_true rfl)⟩) rfl hl.1 rfl (Nat.le_of_ble_eq_true rfl) dX2_sliceAt_43 ⟨(Nat.le_of_ble_eq_true rfl), (Nat.le_of_ble_eq_true rfl)⟩ (fun _ _ _ _ _ _ _ hp => False.elim hp) (fun r9 L9 f9 H locs hp hw => ?_)
        obtain ⟨rfl, rfl, rfl⟩ := hp
        refine W.eq (g2 := F0 m 46 ls [.int (zb (zin p3 0 7))]) rfl ?_
        refine zr_beq hx hb dX2_sliceAt_46 (tgt := 53) (by decide) (fun c_13 => ?_) (fun c_13 => ?_)
        · refine lv_iconst (v := 0) hx hb dX2_sliceAt_53 (by decide) ?_
          refine lv_istore (lv' := [(5, .int 0), (0, .ref (am 0)), (1, .int p0), (2, .int p1), (3, .int p2), (4, .int p3)]) hx hb dX2_sliceAt_54 hl (by decide) rfl (fun ls hl => ?_)
          refine lv_aload_n hx hb dX2_sliceAt_56 rfl (lv_at hl 1 rfl) ?_
          refine lv_iload hx hb dX2_sliceAt_57 (lv_at hl 0 rfl) ?_
          refine lv_if_eq (tgt := 66) hx hb dX2_sliceAt_59 (by decide) (fun c_14 => ?_) (fun c_14 => absurd (by decide) c_14)
          refine lv_iconst (v := 1) hx hb dX2_sliceAt_66 (by decide) ?_
          refine zm_putT hx hb hts hi_X2_sliceAt hown hw hm hf_X2_sliceAt_48 dX2_sliceAt_67 (fun f_15 H locs hm hw => ?_)
          refine lv_aload_n hx hb dX2_sliceAt_70 rfl (lv_at hl 1 rfl) ?_
          refine zm_get (v := .int 1) hx hb hts hi_X2_sliceAt hown hw hm 12 (by decide) hf_X2_sliceAt_48 rfl dX2_sliceAt_71 ?_
          refine lv_if_le (tgt := 79) hx hb dX2_sliceAt_74 (by decide) (fun c_16 => absurd c_16 (by decide)) (fun c_16 => ?_)
          refine lv_iconst (v := 0) hx hb dX2_sliceAt_77 (by decide) ?_
          have ho : (o_sliceAt σ p0 p1 p2 p3) = (1, 0, σ) := by unfold o_sliceAt; first | exact (if_pos (show (zis σ p0 = true) from by assumption)).trans ((if_pos (show (zin p1 0 (zEN σ (Int32.toNatClampNeg p0)) = true) from by assumption)).trans ((if_pos (show (zin p2 0 (zEN σ (Int32.toNatClampNeg p0) - p1) = true) from by assumption)).trans (if_neg (show ¬ (zin p3 0 7 = true) from by assumption)))) | exact (if_pos (show (zis σ p0 = true) from by assumption)).trans ((if_pos (show (zin p1 0 (zEN σ (Int32.toNatClampNeg p0)) = true) from by assumption)).trans (if_neg (show ¬ (zin p2 0 (zEN σ (Int32.toNatClampNeg p0) - p1) = true) from by assumption))) | exact (if_pos (show (zis σ p0 = true) from by assumption)).trans (if_neg (show ¬ (zin p1 0 (zEN σ (Int32.toNatClampNeg p0)) = true) from by assumption)) | exact if_neg (show ¬ (zis σ p0 = true) from by assumption)
          exact z_iret hx hb hr hlocks hw (Nat.le_of_ble_eq_true rfl) (Nat.le_of_ble_eq_true rfl) dX2_sliceAt_78 ⟨rfl, _, _, rfl, by rw [ho]; exact hm, by rw [ho]; exact fun h => absurd (show (1 : Int32) = 0 from h) (by decide)⟩
        · refine lv_iconst (v := 1) hx hb dX2_sliceAt_49 (by decide) ?_
          refine lv_goto (tgt := 54) hx hb dX2_sliceAt_50 (by decide) ?_
          refine lv_istore (lv' := [(5, .int 1), (0, .ref (am 0)), (1, .int p0), (2, .int p1), (3, .int p2), (4, .int p3)]) hx hb dX2_sliceAt_54 hl (by decide) rfl (fun ls hl => ?_)
          refine lv_aload_n hx hb dX2_sliceAt_56 rfl (lv_at hl 1 rfl) ?_
          refine lv_iload hx hb dX2_sliceAt_57 (lv_at hl 0 rfl) ?_
          refine lv_if_eq (tgt := 66) hx hb dX2_sliceAt_59 (by decide) (fun c_17 => absurd c_17 (by decide)) (fun c_17 => ?_)
          refine lv_iconst (v := 0) hx hb dX2_sliceAt_62 (by decide) ?_
          refine lv_goto (tgt := 67) hx hb dX2_sliceAt_63 (by decide) ?_
          refine zm_putT hx hb hts hi_X2_sliceAt hown hw hm hf_X2_sliceAt_48 dX2_sliceAt_67 (fun f_18 H locs hm hw => ?_)
          refine lv_aload_n hx hb dX2_sliceAt_70 rfl (lv_at hl 1 rfl) ?_
          refine zm_get (v := .int 0) hx hb hts hi_X2_sliceAt hown hw hm 12 (by decide) hf_X2_sliceAt_48 rfl dX2_sliceAt_71 ?_
          refine lv_if_le (tgt := 79) hx hb dX2_sliceAt_74 (by decide) (fun c_19 => ?_) (fun c_19 => absurd (by decide) c_19)
          refine lv_aload_n hx hb dX2_sliceAt_79 rfl (lv_at hl 1 rfl) ?_
          refine lv_iload hx hb dX2_sliceAt_80 (lv_at hl 5 rfl) ?_
          refine lv_aload_n hx hb dX2_sliceAt_82 rfl (lv_at hl 1 rfl) ?_
          refine zm_get (v := .ref (am 2)) hx hb hts hi_X2_sliceAt hown hw hm 1 (by decide) hf_X2_sliceAt_13 rfl dX2_sliceAt_83 ?_
          refine lv_iload_n hx hb dX2_sliceAt_86 rfl (lv_at hl 2 rfl) ?_
          refine zm_ldK hx hb hw hm (zis_7 (by assumption)) dX2_sliceAt_87 ?_
          refine lv_aload_n hx hb dX2_sliceAt_88 rfl (lv_at hl 1 rfl) ?_
          refine zm_get (v := .ref (am 3)) hx hb hts hi_X2_sliceAt hown hw hm 2 (by decide) hf_X2_sliceAt_17 rfl dX2_sliceAt_89 ?_
          refine lv_iload_n hx hb dX2_sliceAt_92 rfl (lv_at hl 2 rfl) ?_
          refine zm_ldSI hx hb hw hm (zis_7 (by assumption)) dX2_sliceAt_93 ?_
          refine lv_aload_n hx hb dX2_sliceAt_94 rfl (lv_at hl 1 rfl) ?_
          refine zm_get (v := .ref (am 4)) hx hb hts hi_X2_sliceAt hown hw hm 3 (by decide) hf_X2_sliceAt_20 rfl dX2_sliceAt_95 ?_
          refine lv_iload_n hx hb dX2_sliceAt_98 rfl (lv_at hl 2 rfl) ?_
          refine zm_ldFR hx hb hw hm (zis_7 (by assumption)) dX2_sliceAt_99 ?_
          refine lv_iload_n hx hb dX2_sliceAt_100 rfl (lv_at hl 3 rfl) ?_
          refine lv_iadd hx hb dX2_sliceAt_101 ?_
          refine lv_iload_n hx hb dX2_sliceAt_102 rfl (lv_at hl 4 rfl) ?_
          refine lv_aload_n hx hb dX2_sliceAt_103 rfl (lv_at hl 1 rfl) ?_
          refine zm_get (v := .ref (am 9)) hx hb hts hi_X2_sliceAt hown hw hm 8 (by decide) hf_X2_sliceAt_35 rfl dX2_sliceAt_104 ?_
          refine lv_iload_n hx hb dX2_sliceAt_107 rfl (lv_at hl 2 rfl) ?_
          refine zm_ldRD hx hb hw hm (zis_7 (by assumption)) dX2_sliceAt_108 ?_
          refine z_callV (As := [.int p3, .int (zK σ (Int32.toNatClampNeg p0)), .int (zSI σ (Int32.toNatClampNeg p0)), .int ((zFR σ (Int32.toNatClampNeg p0)) + p1), .int p2, .int (zRD σ (Int32.toNatClampNeg p0))]) (rest := []) ⟨hx, hb, hml, hown, hts⟩ hw hX (hm.1.1 0 (by decide)) rfl (c_X2_becomes l g am L f_18 σ bs 0 p3 (zK σ (Int32.toNatClampNeg p0)) (zSI σ (Int32.toNatClampNeg p0)) ((zFR σ (Int32.toNatClampNeg p0)) + p1) p2 (zRD σ (Int32.toNatClampNeg p0)) hm.rf (zin_7 (by assumption))) (cwV 6 hts gX2_sliceAt_X2_becomes rfl rfl rfl (by decide +kernel) ⟨(Nat.le_of_ble_eq_true rfl), (Nat.le_of_ble_eq_true rfl)⟩) rfl hl.1 rfl (Nat.le_of_ble_eq_true rfl) dX2_sliceAt_109 ⟨(Nat.le_of_ble_eq_true rfl), (Nat.le_of_ble_eq_true rfl)⟩ (fun _ _ _ _ _ _ _ hp => False.elim hp) (fun r9 L9 f9 H locs hp hw => ?_)
          obtain ⟨rfl, rfl, hm9⟩ := hp
          refine W.eq (g2 := F0 m 112 ls []) rfl ?_
          have hm := hm.tr hm9
          refine lv_iload_n hx hb dX2_sliceAt_112 rfl (lv_at hl 4 rfl) ?_
          have ho : (o_sliceAt σ p0 p1 p2 p3) = (0, p2, (zBecomes σ (Int32.toNatClampNeg p3) (zK σ (Int32.toNatClampNeg p0)) (zSI σ (Int32.toNatClampNeg p0)) ((zFR σ (Int32.toNatClampNeg p0)) + p1) p2 (zRD σ (Int32.toNatClampNeg p0)))) := by unfold o_sliceAt; first | exact (if_pos (show (zis σ p0 = true) from by assumption)).trans ((if_pos (show (zin p1 0 (zEN σ (Int32.toNatClampNeg p0)) = true) from by assumption)).trans ((if_pos (show (zin p2 0 (zEN σ (Int32.toNatClampNeg p0) - p1) = true) from by assumption)).trans (if_pos (show (zin p3 0 7 = true) from by assumption))))
          exact z_iret hx hb hr hlocks hw (Nat.le_of_ble_eq_true rfl) (Nat.le_of_ble_eq_true rfl) dX2_sliceAt_113 ⟨rfl, _, _, rfl, by rw [ho]; exact hm, by rw [ho]; exact fun _ => rfl⟩

def o_twin (σ : ZS) (p0 : Int32) (p1 : Int32) (p2 : Int32) : Int32 × Int32 × ZS := if zis σ p0 = true then if zin p1 0 7 = true then if zRD σ (Int32.toNatClampNeg p0) = 0 then if p2 = 0 then (0, zEN σ (Int32.toNatClampNeg p0) - zPL σ (Int32.toNatClampNeg p0), (zsMK (zsEN (zsPL (zBecomes σ (Int32.toNatClampNeg p1) (zK σ (Int32.toNatClampNeg p0)) (zSI σ (Int32.toNatClampNeg p0)) (zFR σ (Int32.toNatClampNeg p0)) (zSZ σ (Int32.toNatClampNeg p0)) 0) (upd (zPL (zBecomes σ (Int32.toNatClampNeg p1) (zK σ (Int32.toNatClampNeg p0)) (zSI σ (Int32.toNatClampNeg p0)) (zFR σ (Int32.toNatClampNeg p0)) (zSZ σ (Int32.toNatClampNeg p0)) 0)) (Int32.toNatClampNeg p1) (zPL σ (Int32.toNatClampNeg p0)))) (upd (zEN (zBecomes σ (Int32.toNatClampNeg p1) (zK σ (Int32.toNatClampNeg p0)) (zSI σ (Int32.toNatClampNeg p0)) (zFR σ (Int32.toNatClampNeg p0)) (zSZ σ (Int32.toNatClampNeg p0)) 0)) (Int32.toNatClampNeg p1) (zEN σ (Int32.toNatClampNeg p0)))) (upd (zMK (zBecomes σ (Int32.toNatClampNeg p1) (zK σ (Int32.toNatClampNeg p0)) (zSI σ (Int32.toNatClampNeg p0)) (zFR σ (Int32.toNatClampNeg p0)) (zSZ σ (Int32.toNatClampNeg p0)) 0)) (Int32.toNatClampNeg p1) (zMK σ (Int32.toNatClampNeg p0))))) else (0, zEN σ (Int32.toNatClampNeg p0) - zPL σ (Int32.toNatClampNeg p0), (zsMK (zsEN (zsPL (zBecomes σ (Int32.toNatClampNeg p1) (zK σ (Int32.toNatClampNeg p0)) (zSI σ (Int32.toNatClampNeg p0)) (zFR σ (Int32.toNatClampNeg p0)) (zSZ σ (Int32.toNatClampNeg p0)) 1) (upd (zPL (zBecomes σ (Int32.toNatClampNeg p1) (zK σ (Int32.toNatClampNeg p0)) (zSI σ (Int32.toNatClampNeg p0)) (zFR σ (Int32.toNatClampNeg p0)) (zSZ σ (Int32.toNatClampNeg p0)) 1)) (Int32.toNatClampNeg p1) (zPL σ (Int32.toNatClampNeg p0)))) (upd (zEN (zBecomes σ (Int32.toNatClampNeg p1) (zK σ (Int32.toNatClampNeg p0)) (zSI σ (Int32.toNatClampNeg p0)) (zFR σ (Int32.toNatClampNeg p0)) (zSZ σ (Int32.toNatClampNeg p0)) 1)) (Int32.toNatClampNeg p1) (zEN σ (Int32.toNatClampNeg p0)))) (upd (zMK (zBecomes σ (Int32.toNatClampNeg p1) (zK σ (Int32.toNatClampNeg p0)) (zSI σ (Int32.toNatClampNeg p0)) (zFR σ (Int32.toNatClampNeg p0)) (zSZ σ (Int32.toNatClampNeg p0)) 1)) (Int32.toNatClampNeg p1) (zMK σ (Int32.toNatClampNeg p0))))) else (0, zEN σ (Int32.toNatClampNeg p0) - zPL σ (Int32.toNatClampNeg p0), (zsMK (zsEN (zsPL (zBecomes σ (Int32.toNatClampNeg p1) (zK σ (Int32.toNatClampNeg p0)) (zSI σ (Int32.toNatClampNeg p0)) (zFR σ (Int32.toNatClampNeg p0)) (zSZ σ (Int32.toNatClampNeg p0)) 1) (upd (zPL (zBecomes σ (Int32.toNatClampNeg p1) (zK σ (Int32.toNatClampNeg p0)) (zSI σ (Int32.toNatClampNeg p0)) (zFR σ (Int32.toNatClampNeg p0)) (zSZ σ (Int32.toNatClampNeg p0)) 1)) (Int32.toNatClampNeg p1) (zPL σ (Int32.toNatClampNeg p0)))) (upd (zEN (zBecomes σ (Int32.toNatClampNeg p1) (zK σ (Int32.toNatClampNeg p0)) (zSI σ (Int32.toNatClampNeg p0)) (zFR σ (Int32.toNatClampNeg p0)) (zSZ σ (Int32.toNatClampNeg p0)) 1)) (Int32.toNatClampNeg p1) (zEN σ (Int32.toNatClampNeg p0)))) (upd (zMK (zBecomes σ (Int32.toNatClampNeg p1) (zK σ (Int32.toNatClampNeg p0)) (zSI σ (Int32.toNatClampNeg p0)) (zFR σ (Int32.toNatClampNeg p0)) (zSZ σ (Int32.toNatClampNeg p0)) 1)) (Int32.toNatClampNeg p1) (zMK σ (Int32.toNatClampNeg p0))))) else (1, 0, σ) else (1, 0, σ)

theorem hi_X2_twin : ∀ w ∈ wsX20, w ∈ wsX2_twin := by decide +kernel
theorem hf_X2_twin_13 : Cond.fieldLink RX2 13 (TX2 1).1 (TX2 1).2.1 (TX2 1).2.2.1 ∈ wsX2_twin := by decide +kernel
theorem hf_X2_twin_17 : Cond.fieldLink RX2 17 (TX2 2).1 (TX2 2).2.1 (TX2 2).2.2.1 ∈ wsX2_twin := by decide +kernel
theorem hf_X2_twin_20 : Cond.fieldLink RX2 20 (TX2 3).1 (TX2 3).2.1 (TX2 3).2.2.1 ∈ wsX2_twin := by decide +kernel
theorem hf_X2_twin_23 : Cond.fieldLink RX2 23 (TX2 4).1 (TX2 4).2.1 (TX2 4).2.2.1 ∈ wsX2_twin := by decide +kernel
theorem hf_X2_twin_26 : Cond.fieldLink RX2 26 (TX2 5).1 (TX2 5).2.1 (TX2 5).2.2.1 ∈ wsX2_twin := by decide +kernel
theorem hf_X2_twin_29 : Cond.fieldLink RX2 29 (TX2 6).1 (TX2 6).2.1 (TX2 6).2.2.1 ∈ wsX2_twin := by decide +kernel
theorem hf_X2_twin_32 : Cond.fieldLink RX2 32 (TX2 7).1 (TX2 7).2.1 (TX2 7).2.2.1 ∈ wsX2_twin := by decide +kernel
theorem hf_X2_twin_35 : Cond.fieldLink RX2 35 (TX2 8).1 (TX2 8).2.1 (TX2 8).2.2.1 ∈ wsX2_twin := by decide +kernel
theorem hf_X2_twin_48 : Cond.fieldLink RX2 48 (TX2 12).1 (TX2 12).2.1 (TX2 12).2.2.1 ∈ wsX2_twin := by decide +kernel
set_option maxRecDepth 100000 in
set_option maxHeartbeats 4000000 in
theorem c_X2_twin (l : Launch) (g : zG) (am : Nat → Nat) (L : List Nat) (f : Nat → va_E) (σ : ZS) (bs : Nat → Int64) (th : Int32) (p0 : Int32) (p1 : Int32) (p2 : Int32) (hm : zM g am f σ bs th L f) {ln : Nat → Nat} {kd : Nat → Int32} (hI : zI σ ln kd) : zC l yX2_twin wsX2_twin { frames := 2, cells := 0, slots := 0, locals := 43 } 0 0 g [.ref (am 0), .int p0, .int p1, .int p2] L f (fun r L1 f1 => L = L1 ∧ ∃ (b9 : Int32) (bs1 : Nat → Int64), some (.int b9) = r ∧ zM g am f (o_twin σ p0 p1 p2).2.2 bs1 (o_twin σ p0 p1 p2).1 L f1 ∧ ((o_twin σ p0 p1 p2).1 = 0 → b9 = (o_twin σ p0 p1 p2).2.1)) zNo := by
  refine z_ofW (cc := cX2_twin) (maxL := 7) (ret := (some .int)) (by decide) rfl (Nat.le_of_ble_eq_true rfl) ?_
  intro p e s m args below meth c ls A hx hb hr hts hown hlocks hml htab hin hw hX hl
  have hl : lv_has ls 7 [(0, .ref (am 0)), (1, .int p0), (2, .int p1), (3, .int p2)] := hl
  have hown : s.vm.findClass RX2 = some m.cls := hown
  refine lv_aload_n hx hb dX2_twin_0 rfl (lv_at hl 0 rfl) ?_
  refine lv_aload_n hx hb dX2_twin_1 rfl (lv_at hl 0 rfl) ?_
  refine lv_iload_n hx hb dX2_twin_2 rfl (lv_at hl 1 rfl) ?_
  refine z_callV (As := [.int p0]) (rest := [.ref (am 0)]) ⟨hx, hb, hml, hown, hts⟩ hw hX (hm.1.1 0 (by decide)) rfl (c_X2_is l g am L f σ bs th p0 hm.rf) (cwV 1 hts gX2_twin_X2_is rfl rfl rfl (by decide +kernel) ⟨(Nat.le_of_ble_eq_true rfl), (Nat.le_of_ble_eq_true rfl)⟩) rfl hl.1 rfl (Nat.le_of_ble_eq_true rfl) dX2_twin_3 ⟨(Nat.le_of_ble_eq_true rfl), (Nat.le_of_ble_eq_true rfl)⟩ (fun _ _ _ _ _ _ _ hp => False.elim hp) (fun r9 L9 f9 H locs hp hw => ?_)
  obtain ⟨rfl, rfl, rfl⟩ := hp
  refine W.eq (g2 := F0 m 6 ls [.int (zb (zis σ p0)), .ref (am 0)]) rfl ?_
  refine zr_beq hx hb dX2_twin_6 (tgt := 19) (by decide) (fun c_1 => ?_) (fun c_1 => ?_)
  · refine lv_iconst (v := 1) hx hb dX2_twin_19 (by decide) ?_
    refine lv_goto (tgt := 24) hx hb dX2_twin_20 (by decide) ?_
    refine zm_putT hx hb hts hi_X2_twin hown hw hm hf_X2_twin_48 dX2_twin_24 (fun f_2 H locs hm hw => ?_)
    refine lv_aload_n hx hb dX2_twin_27 rfl (lv_at hl 0 rfl) ?_
    refine zm_get (v := .int 1) hx hb hts hi_X2_twin hown hw hm 12 (by decide) hf_X2_twin_48 rfl dX2_twin_28 ?_
    refine lv_if_le (tgt := 36) hx hb dX2_twin_31 (by decide) (fun c_3 => absurd c_3 (by decide)) (fun c_3 => ?_)
    refine lv_iconst (v := 0) hx hb dX2_twin_34 (by decide) ?_
    have ho : (o_twin σ p0 p1 p2) = (1, 0, σ) := by unfold o_twin; first | exact (if_pos (show (zis σ p0 = true) from by assumption)).trans (if_neg (show ¬ (zin p1 0 7 = true) from by assumption)) | exact if_neg (show ¬ (zis σ p0 = true) from by assumption)
    exact z_iret hx hb hr hlocks hw (Nat.le_of_ble_eq_true rfl) (Nat.le_of_ble_eq_true rfl) dX2_twin_35 ⟨rfl, _, _, rfl, by rw [ho]; exact hm, by rw [ho]; exact fun h => absurd (show (1 : Int32) = 0 from h) (by decide)⟩
  · refine lv_iload_n hx hb dX2_twin_9 rfl (lv_at hl 2 rfl) ?_
    refine lv_iconst (v := 0) hx hb dX2_twin_10 (by decide) ?_
    refine lv_bipush (v := 7) hx hb dX2_twin_11 (by decide) ?_
    refine z_callS (As := [.int p1, .int 0, .int 7]) (rest := [.ref (am 0)]) ⟨hx, hb, hml, hown, hts⟩ hw hX (c_X2_in l g L f p1 0 7) (va_cwS 3 hts gX2_twin_X2_in rfl rfl rfl (by decide +kernel) ⟨(Nat.le_of_ble_eq_true rfl), (Nat.le_of_ble_eq_true rfl)⟩) rfl hl.1 rfl (Nat.le_of_ble_eq_true rfl) dX2_twin_13 ⟨(Nat.le_of_ble_eq_true rfl), (Nat.le_of_ble_eq_true rfl)⟩ (fun _ _ _ _ _ _ _ hp => False.elim hp) (fun r9 L9 f9 H locs hp hw => ?_)
    obtain ⟨rfl, rfl, rfl⟩ := hp
    refine W.eq (g2 := F0 m 16 ls [.int (zb (zin p1 0 7)), .ref (am 0)]) rfl ?_
    refine zr_bne hx hb dX2_twin_16 (tgt := 23) (by decide) (fun c_4 => ?_) (fun c_4 => ?_)
    · refine lv_iconst (v := 0) hx hb dX2_twin_23 (by decide) ?_
      refine zm_putT hx hb hts hi_X2_twin hown hw hm hf_X2_twin_48 dX2_twin_24 (fun f_5 H locs hm hw => ?_)
      refine lv_aload_n hx hb dX2_twin_27 rfl (lv_at hl 0 rfl) ?_
      refine zm_get (v := .int 0) hx hb hts hi_X2_twin hown hw hm 12 (by decide) hf_X2_twin_48 rfl dX2_twin_28 ?_
      refine lv_if_le (tgt := 36) hx hb dX2_twin_31 (by decide) (fun c_6 => ?_) (fun c_6 => absurd (by decide) c_6)
      refine lv_aload_n hx hb dX2_twin_36 rfl (lv_at hl 0 rfl) ?_
      refine zm_get (v := .ref (am 6)) hx hb hts hi_X2_twin hown hw hm 5 (by decide) hf_X2_twin_26 rfl dX2_twin_37 ?_
      refine lv_iload_n hx hb dX2_twin_40 rfl (lv_at hl 1 rfl) ?_
      refine zm_ldPL hx hb hw hm (zis_7 (by assumption)) dX2_twin_41 ?_
      refine lv_istore (lv' := [(4, .int (zPL σ (Int32.toNatClampNeg p0))), (0, .ref (am 0)), (1, .int p0), (2, .int p1), (3, .int p2)]) hx hb dX2_twin_42 hl (by decide) rfl (fun ls hl => ?_)
      refine lv_aload_n hx hb dX2_twin_44 rfl (lv_at hl 1 rfl) ?_
      refine zm_get (v := .ref (am 7)) hx hb hts hi_X2_twin hown hw hm 6 (by decide) hf_X2_twin_29 rfl dX2_twin_45 ?_
      refine lv_iload_n hx hb dX2_twin_48 rfl (lv_at hl 2 rfl) ?_
      refine zm_ldEN hx hb hw hm (zis_7 (by assumption)) dX2_twin_49 ?_
      refine lv_istore (lv' := [(5, .int (zEN σ (Int32.toNatClampNeg p0))), (4, .int (zPL σ (Int32.toNatClampNeg p0))), (0, .ref (am 0)), (1, .int p0), (2, .int p1), (3, .int p2)]) hx hb dX2_twin_50 hl (by decide) rfl (fun ls hl => ?_)
      refine lv_aload_n hx hb dX2_twin_52 rfl (lv_at hl 2 rfl) ?_
      refine zm_get (v := .ref (am 8)) hx hb hts hi_X2_twin hown hw hm 7 (by decide) hf_X2_twin_32 rfl dX2_twin_53 ?_
      refine lv_iload_n hx hb dX2_twin_56 rfl (lv_at hl 3 rfl) ?_
      refine zm_ldMK hx hb hw hm (zis_7 (by assumption)) dX2_twin_57 ?_
      refine lv_istore (lv' := [(6, .int (zMK σ (Int32.toNatClampNeg p0))), (5, .int (zEN σ (Int32.toNatClampNeg p0))), (4, .int (zPL σ (Int32.toNatClampNeg p0))), (0, .ref (am 0)), (1, .int p0), (2, .int p1), (3, .int p2)]) hx hb dX2_twin_58 hl (by decide) rfl (fun ls hl => ?_)
      refine lv_aload_n hx hb dX2_twin_60 rfl (lv_at hl 3 rfl) ?_
      refine lv_iload_n hx hb dX2_twin_61 rfl (lv_at hl 5 rfl) ?_
      refine lv_aload_n hx hb dX2_twin_62 rfl (lv_at hl 3 rfl) ?_
      refine zm_get (v := .ref (am 2)) hx hb hts hi_X2_twin hown hw hm 1 (by decide) hf_X2_twin_13 rfl dX2_twin_63 ?_
      refine lv_iload_n hx hb dX2_twin_66 rfl (lv_at hl 4 rfl) ?_
      refine zm_ldK hx hb hw hm (zis_7 (by assumption)) dX2_twin_67 ?_
      refine lv_aload_n hx hb dX2_twin_68 rfl (lv_at hl 3 rfl) ?_
      refine zm_get (v := .ref (am 3)) hx hb hts hi_X2_twin hown hw hm 2 (by decide) hf_X2_twin_17 rfl dX2_twin_69 ?_
      refine lv_iload_n hx hb dX2_twin_72 rfl (lv_at hl 4 rfl) ?_
      refine zm_ldSI hx hb hw hm (zis_7 (by assumption)) dX2_twin_73 ?_
      refine lv_aload_n hx hb dX2_twin_74 rfl (lv_at hl 3 rfl) ?_
      refine zm_get (v := .ref (am 4)) hx hb hts hi_X2_twin hown hw hm 3 (by decide) hf_X2_twin_20 rfl dX2_twin_75 ?_
      refine lv_iload_n hx hb dX2_twin_78 rfl (lv_at hl 4 rfl) ?_
      refine zm_ldFR hx hb hw hm (zis_7 (by assumption)) dX2_twin_79 ?_
      refine lv_aload_n hx hb dX2_twin_80 rfl (lv_at hl 3 rfl) ?_
      refine zm_get (v := .ref (am 5)) hx hb hts hi_X2_twin hown hw hm 4 (by decide) hf_X2_twin_23 rfl dX2_twin_81 ?_
      refine lv_iload_n hx hb dX2_twin_84 rfl (lv_at hl 4 rfl) ?_
      refine zm_ldSZ hx hb hw hm (zis_7 (by assumption)) dX2_twin_85 ?_
      refine lv_aload_n hx hb dX2_twin_86 rfl (lv_at hl 3 rfl) ?_
      refine zm_get (v := .ref (am 9)) hx hb hts hi_X2_twin hown hw hm 8 (by decide) hf_X2_twin_35 rfl dX2_twin_87 ?_
      refine lv_iload_n hx hb dX2_twin_90 rfl (lv_at hl 4 rfl) ?_
      refine zm_ldRD hx hb hw hm (zis_7 (by assumption)) dX2_twin_91 ?_
      refine lv_if_ne (tgt := 99) hx hb dX2_twin_92 (by decide) (fun c_7 => ?_) (fun c_7 => ?_)
      · refine lv_iconst (v := 1) hx hb dX2_twin_99 (by decide) ?_
        refine lv_goto (tgt := 104) hx hb dX2_twin_100 (by decide) ?_
        refine z_callV (As := [.int p1, .int (zK σ (Int32.toNatClampNeg p0)), .int (zSI σ (Int32.toNatClampNeg p0)), .int (zFR σ (Int32.toNatClampNeg p0)), .int (zSZ σ (Int32.toNatClampNeg p0)), .int 1]) (rest := []) ⟨hx, hb, hml, hown, hts⟩ hw hX (hm.1.1 0 (by decide)) rfl (c_X2_becomes l g am L f_5 σ bs 0 p1 (zK σ (Int32.toNatClampNeg p0)) (zSI σ (Int32.toNatClampNeg p0)) (zFR σ (Int32.toNatClampNeg p0)) (zSZ σ (Int32.toNatClampNeg p0)) 1 hm.rf (zin_7 (by assumption))) (cwV 6 hts gX2_twin_X2_becomes rfl rfl rfl (by decide +kernel) ⟨(Nat.le_of_ble_eq_true rfl), (Nat.le_of_ble_eq_true rfl)⟩) rfl hl.1 rfl (Nat.le_of_ble_eq_true rfl) dX2_twin_104 ⟨(Nat.le_of_ble_eq_true rfl), (Nat.le_of_ble_eq_true rfl)⟩ (fun _ _ _ _ _ _ _ hp => False.elim hp) (fun r9 L9 f9 H locs hp hw => ?_)
        obtain ⟨rfl, rfl, hm9⟩ := hp
        refine W.eq (g2 := F0 m 107 ls []) rfl ?_
        have hm := hm.tr hm9
        refine lv_aload_n hx hb dX2_twin_107 rfl (lv_at hl 3 rfl) ?_
        refine zm_get (v := .ref (am 6)) hx hb hts hi_X2_twin hown hw hm 5 (by decide) hf_X2_twin_26 rfl dX2_twin_108 ?_
        refine lv_iload_n hx hb dX2_twin_111 rfl (lv_at hl 5 rfl) ?_
        refine lv_iload hx hb dX2_twin_112 (lv_at hl 2 rfl) ?_
        refine zm_stPL hx hb hw hm (zin_7 (by assumption)) dX2_twin_114 (fun f_8 H locs hm hw => ?_)
        refine lv_aload_n hx hb dX2_twin_115 rfl (lv_at hl 3 rfl) ?_
        refine zm_get (v := .ref (am 7)) hx hb hts hi_X2_twin hown hw hm 6 (by decide) hf_X2_twin_29 rfl dX2_twin_116 ?_
        refine lv_iload_n hx hb dX2_twin_119 rfl (lv_at hl 5 rfl) ?_
        refine lv_iload hx hb dX2_twin_120 (lv_at hl 1 rfl) ?_
        refine zm_stEN hx hb hw hm (zin_7 (by assumption)) dX2_twin_122 (fun f_9 H locs hm hw => ?_)
        refine lv_aload_n hx hb dX2_twin_123 rfl (lv_at hl 3 rfl) ?_
        refine zm_get (v := .ref (am 8)) hx hb hts hi_X2_twin hown hw hm 7 (by decide) hf_X2_twin_32 rfl dX2_twin_124 ?_
        refine lv_iload_n hx hb dX2_twin_127 rfl (lv_at hl 5 rfl) ?_
        refine lv_iload hx hb dX2_twin_128 (lv_at hl 0 rfl) ?_
        refine zm_stMK hx hb hw hm (zin_7 (by assumption)) dX2_twin_130 (fun f_10 H locs hm hw => ?_)
        refine lv_iload hx hb dX2_twin_131 (lv_at hl 1 rfl) ?_
        refine lv_iload hx hb dX2_twin_133 (lv_at hl 2 rfl) ?_
        refine lv_isub hx hb dX2_twin_135 ?_
        have ho : (o_twin σ p0 p1 p2) = (0, ((zEN σ (Int32.toNatClampNeg p0)) - (zPL σ (Int32.toNatClampNeg p0))), (zsMK (zsEN (zsPL (zBecomes σ (Int32.toNatClampNeg p1) (zK σ (Int32.toNatClampNeg p0)) (zSI σ (Int32.toNatClampNeg p0)) (zFR σ (Int32.toNatClampNeg p0)) (zSZ σ (Int32.toNatClampNeg p0)) 1) (upd (zPL (zBecomes σ (Int32.toNatClampNeg p1) (zK σ (Int32.toNatClampNeg p0)) (zSI σ (Int32.toNatClampNeg p0)) (zFR σ (Int32.toNatClampNeg p0)) (zSZ σ (Int32.toNatClampNeg p0)) 1)) (Int32.toNatClampNeg p1) (zPL σ (Int32.toNatClampNeg p0)))) (upd (zEN (zsPL (zBecomes σ (Int32.toNatClampNeg p1) (zK σ (Int32.toNatClampNeg p0)) (zSI σ (Int32.toNatClampNeg p0)) (zFR σ (Int32.toNatClampNeg p0)) (zSZ σ (Int32.toNatClampNeg p0)) 1) (upd (zPL (zBecomes σ (Int32.toNatClampNeg p1) (zK σ (Int32.toNatClampNeg p0)) (zSI σ (Int32.toNatClampNeg p0)) (zFR σ (Int32.toNatClampNeg p0)) (zSZ σ (Int32.toNatClampNeg p0)) 1)) (Int32.toNatClampNeg p1) (zPL σ (Int32.toNatClampNeg p0))))) (Int32.toNatClampNeg p1) (zEN σ (Int32.toNatClampNeg p0)))) (upd (zMK (zsEN (zsPL (zBecomes σ (Int32.toNatClampNeg p1) (zK σ (Int32.toNatClampNeg p0)) (zSI σ (Int32.toNatClampNeg p0)) (zFR σ (Int32.toNatClampNeg p0)) (zSZ σ (Int32.toNatClampNeg p0)) 1) (upd (zPL (zBecomes σ (Int32.toNatClampNeg p1) (zK σ (Int32.toNatClampNeg p0)) (zSI σ (Int32.toNatClampNeg p0)) (zFR σ (Int32.toNatClampNeg p0)) (zSZ σ (Int32.toNatClampNeg p0)) 1)) (Int32.toNatClampNeg p1) (zPL σ (Int32.toNatClampNeg p0)))) (upd (zEN (zsPL (zBecomes σ (Int32.toNatClampNeg p1) (zK σ (Int32.toNatClampNeg p0)) (zSI σ (Int32.toNatClampNeg p0)) (zFR σ (Int32.toNatClampNeg p0)) (zSZ σ (Int32.toNatClampNeg p0)) 1) (upd (zPL (zBecomes σ (Int32.toNatClampNeg p1) (zK σ (Int32.toNatClampNeg p0)) (zSI σ (Int32.toNatClampNeg p0)) (zFR σ (Int32.toNatClampNeg p0)) (zSZ σ (Int32.toNatClampNeg p0)) 1)) (Int32.toNatClampNeg p1) (zPL σ (Int32.toNatClampNeg p0))))) (Int32.toNatClampNeg p1) (zEN σ (Int32.toNatClampNeg p0))))) (Int32.toNatClampNeg p1) (zMK σ (Int32.toNatClampNeg p0))))) := by unfold o_twin; first | exact (if_pos (show (zis σ p0 = true) from by assumption)).trans ((if_pos (show (zin p1 0 7 = true) from by assumption)).trans ((if_pos (show (zRD σ (Int32.toNatClampNeg p0) = 0) from by assumption)).trans (if_pos (show (p2 = 0) from by assumption)))) | exact (if_pos (show (zis σ p0 = true) from by assumption)).trans ((if_pos (show (zin p1 0 7 = true) from by assumption)).trans ((if_pos (show (zRD σ (Int32.toNatClampNeg p0) = 0) from by assumption)).trans (if_neg (show ¬ (p2 = 0) from by assumption)))) | exact (if_pos (show (zis σ p0 = true) from by assumption)).trans ((if_pos (show (zin p1 0 7 = true) from by assumption)).trans (if_neg (show ¬ (zRD σ (Int32.toNatClampNeg p0) = 0) from by assumption)))
        exact z_iret hx hb hr hlocks hw (Nat.le_of_ble_eq_true rfl) (Nat.le_of_ble_eq_true rfl) dX2_twin_136 ⟨rfl, _, _, rfl, by rw [ho]; exact hm, by rw [ho]; exact fun _ => rfl⟩
      · refine lv_iload_n hx hb dX2_twin_95 rfl (lv_at hl 6 rfl) ?_
        refine lv_if_eq (tgt := 103) hx hb dX2_twin_96 (by decide) (fun c_11 => ?_) (fun c_11 => ?_)
        · refine lv_iconst (v := 0) hx hb dX2_twin_103 (by decide) ?_
          refine z_callV (As := [.int p1, .int (zK σ (Int32.toNatClampNeg p0)), .int (zSI σ (Int32.toNatClampNeg p0)), .int (zFR σ (Int32.toNatClampNeg p0)), .int (zSZ σ (Int32.toNatClampNeg p0)), .int 0]) (rest := []) ⟨hx, hb, hml, hown, hts⟩ hw hX (hm.1.1 0 (by decide)) rfl (c_X2_becomes l g am L f_5 σ bs 0 p1 (zK σ (Int32.toNatClampNeg p0)) (zSI σ (Int32.toNatClampNeg p0)) (zFR σ (Int32.toNatClampNeg p0)) (zSZ σ (Int32.toNatClampNeg p0)) 0 hm.rf (zin_7 (by assumption))) (cwV 6 hts gX2_twin_X2_becomes rfl rfl rfl (by decide +kernel) ⟨(Nat.le_of_ble_eq_true rfl), (Nat.le_of_ble_eq_true rfl)⟩) rfl hl.1 rfl (Nat.le_of_ble_eq_true rfl) dX2_twin_104 ⟨(Nat.le_of_ble_eq_true rfl), (Nat.le_of_ble_eq_true rfl)⟩ (fun _ _ _ _ _ _ _ hp => False.elim hp) (fun r9 L9 f9 H locs hp hw => ?_)
          obtain ⟨rfl, rfl, hm9⟩ := hp
          refine W.eq (g2 := F0 m 107 ls []) rfl ?_
          have hm := hm.tr hm9
          refine lv_aload_n hx hb dX2_twin_107 rfl (lv_at hl 3 rfl) ?_
          refine zm_get (v := .ref (am 6)) hx hb hts hi_X2_twin hown hw hm 5 (by decide) hf_X2_twin_26 rfl dX2_twin_108 ?_
          refine lv_iload_n hx hb dX2_twin_111 rfl (lv_at hl 5 rfl) ?_
          refine lv_iload hx hb dX2_twin_112 (lv_at hl 2 rfl) ?_
          refine zm_stPL hx hb hw hm (zin_7 (by assumption)) dX2_twin_114 (fun f_12 H locs hm hw => ?_)
          refine lv_aload_n hx hb dX2_twin_115 rfl (lv_at hl 3 rfl) ?_
          refine zm_get (v := .ref (am 7)) hx hb hts hi_X2_twin hown hw hm 6 (by decide) hf_X2_twin_29 rfl dX2_twin_116 ?_
          refine lv_iload_n hx hb dX2_twin_119 rfl (lv_at hl 5 rfl) ?_
          refine lv_iload hx hb dX2_twin_120 (lv_at hl 1 rfl) ?_
          refine zm_stEN hx hb hw hm (zin_7 (by assumption)) dX2_twin_122 (fun f_13 H locs hm hw => ?_)
          refine lv_aload_n hx hb dX2_twin_123 rfl (lv_at hl 3 rfl) ?_
          refine zm_get (v := .ref (am 8)) hx hb hts hi_X2_twin hown hw hm 7 (by decide) hf_X2_twin_32 rfl dX2_twin_124 ?_
          refine lv_iload_n hx hb dX2_twin_127 rfl (lv_at hl 5 rfl) ?_
          refine lv_iload hx hb dX2_twin_128 (lv_at hl 0 rfl) ?_
          refine zm_stMK hx hb hw hm (zin_7 (by assumption)) dX2_twin_130 (fun f_14 H locs hm hw => ?_)
          refine lv_iload hx hb dX2_twin_131 (lv_at hl 1 rfl) ?_
          refine lv_iload hx hb dX2_twin_133 (lv_at hl 2 rfl) ?_
          refine lv_isub hx hb dX2_twin_135 ?_
          have ho : (o_twin σ p0 p1 p2) = (0, ((zEN σ (Int32.toNatClampNeg p0)) - (zPL σ (Int32.toNatClampNeg p0))), (zsMK (zsEN (zsPL (zBecomes σ (Int32.toNatClampNeg p1) (zK σ (Int32.toNatClampNeg p0)) (zSI σ (Int32.toNatClampNeg p0)) (zFR σ (Int32.toNatClampNeg p0)) (zSZ σ (Int32.toNatClampNeg p0)) 0) (upd (zPL (zBecomes σ (Int32.toNatClampNeg p1) (zK σ (Int32.toNatClampNeg p0)) (zSI σ (Int32.toNatClampNeg p0)) (zFR σ (Int32.toNatClampNeg p0)) (zSZ σ (Int32.toNatClampNeg p0)) 0)) (Int32.toNatClampNeg p1) (zPL σ (Int32.toNatClampNeg p0)))) (upd (zEN (zsPL (zBecomes σ (Int32.toNatClampNeg p1) (zK σ (Int32.toNatClampNeg p0)) (zSI σ (Int32.toNatClampNeg p0)) (zFR σ (Int32.toNatClampNeg p0)) (zSZ σ (Int32.toNatClampNeg p0)) 0) (upd (zPL (zBecomes σ (Int32.toNatClampNeg p1) (zK σ (Int32.toNatClampNeg p0)) (zSI σ (Int32.toNatClampNeg p0)) (zFR σ (Int32.toNatClampNeg p0)) (zSZ σ (Int32.toNatClampNeg p0)) 0)) (Int32.toNatClampNeg p1) (zPL σ (Int32.toNatClampNeg p0))))) (Int32.toNatClampNeg p1) (zEN σ (Int32.toNatClampNeg p0)))) (upd (zMK (zsEN (zsPL (zBecomes σ (Int32.toNatClampNeg p1) (zK σ (Int32.toNatClampNeg p0)) (zSI σ (Int32.toNatClampNeg p0)) (zFR σ (Int32.toNatClampNeg p0)) (zSZ σ (Int32.toNatClampNeg p0)) 0) (upd (zPL (zBecomes σ (Int32.toNatClampNeg p1) (zK σ (Int32.toNatClampNeg p0)) (zSI σ (Int32.toNatClampNeg p0)) (zFR σ (Int32.toNatClampNeg p0)) (zSZ σ (Int32.toNatClampNeg p0)) 0)) (Int32.toNatClampNeg p1) (zPL σ (Int32.toNatClampNeg p0)))) (upd (zEN (zsPL (zBecomes σ (Int32.toNatClampNeg p1) (zK σ (Int32.toNatClampNeg p0)) (zSI σ (Int32.toNatClampNeg p0)) (zFR σ (Int32.toNatClampNeg p0)) (zSZ σ (Int32.toNatClampNeg p0)) 0) (upd (zPL (zBecomes σ (Int32.toNatClampNeg p1) (zK σ (Int32.toNatClampNeg p0)) (zSI σ (Int32.toNatClampNeg p0)) (zFR σ (Int32.toNatClampNeg p0)) (zSZ σ (Int32.toNatClampNeg p0)) 0)) (Int32.toNatClampNeg p1) (zPL σ (Int32.toNatClampNeg p0))))) (Int32.toNatClampNeg p1) (zEN σ (Int32.toNatClampNeg p0))))) (Int32.toNatClampNeg p1) (zMK σ (Int32.toNatClampNeg p0))))) := by unfold o_twin; first | exact (if_pos (show (zis σ p0 = true) from by assumption)).trans ((if_pos (show (zin p1 0 7 = true) from by assumption)).trans ((if_pos (show (zRD σ (Int32.toNatClampNeg p0) = 0) from by assumption)).trans (if_pos (show (p2 = 0) from by assumption)))) | exact (if_pos (show (zis σ p0 = true) from by assumption)).trans ((if_pos (show (zin p1 0 7 = true) from by assumption)).trans ((if_pos (show (zRD σ (Int32.toNatClampNeg p0) = 0) from by assumption)).trans (if_neg (show ¬ (p2 = 0) from by assumption)))) | exact (if_pos (show (zis σ p0 = true) from by assumption)).trans ((if_pos (show (zin p1 0 7 = true) from by assumption)).trans (if_neg (show ¬ (zRD σ (Int32.toNatClampNeg p0) = 0) from by assumption)))
          exact z_iret hx hb hr hlocks hw (Nat.le_of_ble_eq_true rfl) (Nat.le_of_ble_eq_true rfl) dX2_twin_136 ⟨rfl, _, _, rfl, by rw [ho]; exact hm, by rw [ho]; exact fun _ => rfl⟩
        · refine lv_iconst (v := 1) hx hb dX2_twin_99 (by decide) ?_
          refine lv_goto (tgt := 104) hx hb dX2_twin_100 (by decide) ?_
          refine z_callV (As := [.int p1, .int (zK σ (Int32.toNatClampNeg p0)), .int (zSI σ (Int32.toNatClampNeg p0)), .int (zFR σ (Int32.toNatClampNeg p0)), .int (zSZ σ (Int32.toNatClampNeg p0)), .int 1]) (rest := []) ⟨hx, hb, hml, hown, hts⟩ hw hX (hm.1.1 0 (by decide)) rfl (c_X2_becomes l g am L f_5 σ bs 0 p1 (zK σ (Int32.toNatClampNeg p0)) (zSI σ (Int32.toNatClampNeg p0)) (zFR σ (Int32.toNatClampNeg p0)) (zSZ σ (Int32.toNatClampNeg p0)) 1 hm.rf (zin_7 (by assumption))) (cwV 6 hts gX2_twin_X2_becomes rfl rfl rfl (by decide +kernel) ⟨(Nat.le_of_ble_eq_true rfl), (Nat.le_of_ble_eq_true rfl)⟩) rfl hl.1 rfl (Nat.le_of_ble_eq_true rfl) dX2_twin_104 ⟨(Nat.le_of_ble_eq_true rfl), (Nat.le_of_ble_eq_true rfl)⟩ (fun _ _ _ _ _ _ _ hp => False.elim hp) (fun r9 L9 f9 H locs hp hw => ?_)
          obtain ⟨rfl, rfl, hm9⟩ := hp
          refine W.eq (g2 := F0 m 107 ls []) rfl ?_
          have hm := hm.tr hm9
          refine lv_aload_n hx hb dX2_twin_107 rfl (lv_at hl 3 rfl) ?_
          refine zm_get (v := .ref (am 6)) hx hb hts hi_X2_twin hown hw hm 5 (by decide) hf_X2_twin_26 rfl dX2_twin_108 ?_
          refine lv_iload_n hx hb dX2_twin_111 rfl (lv_at hl 5 rfl) ?_
          refine lv_iload hx hb dX2_twin_112 (lv_at hl 2 rfl) ?_
          refine zm_stPL hx hb hw hm (zin_7 (by assumption)) dX2_twin_114 (fun f_15 H locs hm hw => ?_)
          refine lv_aload_n hx hb dX2_twin_115 rfl (lv_at hl 3 rfl) ?_
          refine zm_get (v := .ref (am 7)) hx hb hts hi_X2_twin hown hw hm 6 (by decide) hf_X2_twin_29 rfl dX2_twin_116 ?_
          refine lv_iload_n hx hb dX2_twin_119 rfl (lv_at hl 5 rfl) ?_
          refine lv_iload hx hb dX2_twin_120 (lv_at hl 1 rfl) ?_
          refine zm_stEN hx hb hw hm (zin_7 (by assumption)) dX2_twin_122 (fun f_16 H locs hm hw => ?_)
          refine lv_aload_n hx hb dX2_twin_123 rfl (lv_at hl 3 rfl) ?_
          refine zm_get (v := .ref (am 8)) hx hb hts hi_X2_twin hown hw hm 7 (by decide) hf_X2_twin_32 rfl dX2_twin_124 ?_
          refine lv_iload_n hx hb dX2_twin_127 rfl (lv_at hl 5 rfl) ?_
          refine lv_iload hx hb dX2_twin_128 (lv_at hl 0 rfl) ?_
          refine zm_stMK hx hb hw hm (zin_7 (by assumption)) dX2_twin_130 (fun f_17 H locs hm hw => ?_)
          refine lv_iload hx hb dX2_twin_131 (lv_at hl 1 rfl) ?_
          refine lv_iload hx hb dX2_twin_133 (lv_at hl 2 rfl) ?_
          refine lv_isub hx hb dX2_twin_135 ?_
          have ho : (o_twin σ p0 p1 p2) = (0, ((zEN σ (Int32.toNatClampNeg p0)) - (zPL σ (Int32.toNatClampNeg p0))), (zsMK (zsEN (zsPL (zBecomes σ (Int32.toNatClampNeg p1) (zK σ (Int32.toNatClampNeg p0)) (zSI σ (Int32.toNatClampNeg p0)) (zFR σ (Int32.toNatClampNeg p0)) (zSZ σ (Int32.toNatClampNeg p0)) 1) (upd (zPL (zBecomes σ (Int32.toNatClampNeg p1) (zK σ (Int32.toNatClampNeg p0)) (zSI σ (Int32.toNatClampNeg p0)) (zFR σ (Int32.toNatClampNeg p0)) (zSZ σ (Int32.toNatClampNeg p0)) 1)) (Int32.toNatClampNeg p1) (zPL σ (Int32.toNatClampNeg p0)))) (upd (zEN (zsPL (zBecomes σ (Int32.toNatClampNeg p1) (zK σ (Int32.toNatClampNeg p0)) (zSI σ (Int32.toNatClampNeg p0)) (zFR σ (Int32.toNatClampNeg p0)) (zSZ σ (Int32.toNatClampNeg p0)) 1) (upd (zPL (zBecomes σ (Int32.toNatClampNeg p1) (zK σ (Int32.toNatClampNeg p0)) (zSI σ (Int32.toNatClampNeg p0)) (zFR σ (Int32.toNatClampNeg p0)) (zSZ σ (Int32.toNatClampNeg p0)) 1)) (Int32.toNatClampNeg p1) (zPL σ (Int32.toNatClampNeg p0))))) (Int32.toNatClampNeg p1) (zEN σ (Int32.toNatClampNeg p0)))) (upd (zMK (zsEN (zsPL (zBecomes σ (Int32.toNatClampNeg p1) (zK σ (Int32.toNatClampNeg p0)) (zSI σ (Int32.toNatClampNeg p0)) (zFR σ (Int32.toNatClampNeg p0)) (zSZ σ (Int32.toNatClampNeg p0)) 1) (upd (zPL (zBecomes σ (Int32.toNatClampNeg p1) (zK σ (Int32.toNatClampNeg p0)) (zSI σ (Int32.toNatClampNeg p0)) (zFR σ (Int32.toNatClampNeg p0)) (zSZ σ (Int32.toNatClampNeg p0)) 1)) (Int32.toNatClampNeg p1) (zPL σ (Int32.toNatClampNeg p0)))) (upd (zEN (zsPL (zBecomes σ (Int32.toNatClampNeg p1) (zK σ (Int32.toNatClampNeg p0)) (zSI σ (Int32.toNatClampNeg p0)) (zFR σ (Int32.toNatClampNeg p0)) (zSZ σ (Int32.toNatClampNeg p0)) 1) (upd (zPL (zBecomes σ (Int32.toNatClampNeg p1) (zK σ (Int32.toNatClampNeg p0)) (zSI σ (Int32.toNatClampNeg p0)) (zFR σ (Int32.toNatClampNeg p0)) (zSZ σ (Int32.toNatClampNeg p0)) 1)) (Int32.toNatClampNeg p1) (zPL σ (Int32.toNatClampNeg p0))))) (Int32.toNatClampNeg p1) (zEN σ (Int32.toNatClampNeg p0))))) (Int32.toNatClampNeg p1) (zMK σ (Int32.toNatClampNeg p0))))) := by unfold o_twin; first | exact (if_pos (show (zis σ p0 = true) from by assumption)).trans ((if_pos (show (zin p1 0 7 = true) from by assumption)).trans ((if_pos (show (zRD σ (Int32.toNatClampNeg p0) = 0) from by assumption)).trans (if_pos (show (p2 = 0) from by assumption)))) | exact (if_pos (show (zis σ p0 = true) from by assumption)).trans ((if_pos (show (zin p1 0 7 = true) from by assumption)).trans ((if_pos (show (zRD σ (Int32.toNatClampNeg p0) = 0) from by assumption)).trans (if_neg (show ¬ (p2 = 0) from by assumption)))) | exact (if_pos (show (zis σ p0 = true) from by assumption)).trans ((if_pos (show (zin p1 0 7 = true) from by assumption)).trans (if_neg (show ¬ (zRD σ (Int32.toNatClampNeg p0) = 0) from by assumption)))
          exact z_iret hx hb hr hlocks hw (Nat.le_of_ble_eq_true rfl) (Nat.le_of_ble_eq_true rfl) dX2_twin_136 ⟨rfl, _, _, rfl, by rw [ho]; exact hm, by rw [ho]; exact fun _ => rfl⟩
    · refine lv_iconst (v := 1) hx hb dX2_twin_19 (by decide) ?_
      refine lv_goto (tgt := 24) hx hb dX2_twin_20 (by decide) ?_
      refine zm_putT hx hb hts hi_X2_twin hown hw hm hf_X2_twin_48 dX2_twin_24 (fun f_18 H locs hm hw => ?_)
      refine lv_aload_n hx hb dX2_twin_27 rfl (lv_at hl 0 rfl) ?_
      refine zm_get (v := .int 1) hx hb hts hi_X2_twin hown hw hm 12 (by decide) hf_X2_twin_48 rfl dX2_twin_28 ?_
      refine lv_if_le (tgt := 36) hx hb dX2_twin_31 (by decide) (fun c_19 => absurd c_19 (by decide)) (fun c_19 => ?_)
      refine lv_iconst (v := 0) hx hb dX2_twin_34 (by decide) ?_
      have ho : (o_twin σ p0 p1 p2) = (1, 0, σ) := by unfold o_twin; first | exact (if_pos (show (zis σ p0 = true) from by assumption)).trans (if_neg (show ¬ (zin p1 0 7 = true) from by assumption)) | exact if_neg (show ¬ (zis σ p0 = true) from by assumption)
      exact z_iret hx hb hr hlocks hw (Nat.le_of_ble_eq_true rfl) (Nat.le_of_ble_eq_true rfl) dX2_twin_35 ⟨rfl, _, _, rfl, by rw [ho]; exact hm, by rw [ho]; exact fun h => absurd (show (1 : Int32) = 0 from h) (by decide)⟩

def o_duplicate (σ : ZS) (p0 p1 : Int32) : Int32 × Int32 × ZS := o_twin σ p0 p1 0

theorem hi_X2_duplicate : ∀ w ∈ wsX20, w ∈ wsX2_duplicate := by decide +kernel
set_option maxRecDepth 100000 in
set_option maxHeartbeats 4000000 in
theorem c_X2_duplicate (l : Launch) (g : zG) (am : Nat → Nat) (L : List Nat) (f : Nat → va_E) (σ : ZS) (bs : Nat → Int64) (th : Int32) (p0 : Int32) (p1 : Int32) (hm : zM g am f σ bs th L f) {ln : Nat → Nat} {kd : Nat → Int32} (hI : zI σ ln kd) : zC l yX2_duplicate wsX2_duplicate { frames := 3, cells := 0, slots := 0, locals := 69 } 0 0 g [.ref (am 0), .int p0, .int p1] L f (fun r L1 f1 => L = L1 ∧ ∃ (b9 : Int32) (bs1 : Nat → Int64), some (.int b9) = r ∧ zM g am f (o_duplicate σ p0 p1).2.2 bs1 (o_duplicate σ p0 p1).1 L f1 ∧ ((o_duplicate σ p0 p1).1 = 0 → b9 = (o_duplicate σ p0 p1).2.1)) zNo := by
  refine z_ofW (cc := cX2_duplicate) (maxL := 3) (ret := (some .int)) (by decide) rfl (Nat.le_of_ble_eq_true rfl) ?_
  intro p e s m args below meth c ls A hx hb hr hts hown hlocks hml htab hin hw hX hl
  have hl : lv_has ls 3 [(0, .ref (am 0)), (1, .int p0), (2, .int p1)] := hl
  have hown : s.vm.findClass RX2 = some m.cls := hown
  refine lv_aload_n hx hb dX2_duplicate_0 rfl (lv_at hl 0 rfl) ?_
  refine lv_iload_n hx hb dX2_duplicate_1 rfl (lv_at hl 1 rfl) ?_
  refine lv_iload_n hx hb dX2_duplicate_2 rfl (lv_at hl 2 rfl) ?_
  refine lv_iconst (v := 0) hx hb dX2_duplicate_3 (by decide) ?_
  refine z_callV (As := [.int p0, .int p1, .int 0]) (rest := []) ⟨hx, hb, hml, hown, hts⟩ hw hX (hm.1.1 0 (by decide)) rfl (c_X2_twin l g am L f σ bs th p0 p1 0 hm.rf hI) (cwV 3 hts gX2_duplicate_X2_twin rfl rfl rfl (by decide +kernel) ⟨(Nat.le_of_ble_eq_true rfl), (Nat.le_of_ble_eq_true rfl)⟩) rfl hl.1 rfl (Nat.le_of_ble_eq_true rfl) dX2_duplicate_4 ⟨(Nat.le_of_ble_eq_true rfl), (Nat.le_of_ble_eq_true rfl)⟩ (fun _ _ _ _ _ _ _ hp => False.elim hp) (fun r9 L9 f9 H locs hp hw => ?_)
  obtain ⟨rfl, b9, bs9, rfl, hm9, hb9⟩ := hp
  refine W.eq (g2 := F0 m 7 ls [.int b9]) rfl ?_
  exact z_iret hx hb hr hlocks hw (Nat.le_of_ble_eq_true rfl) (Nat.le_of_ble_eq_true rfl) dX2_duplicate_7 ⟨rfl, _, _, rfl, hm9, hb9⟩

def o_readOnly (σ : ZS) (p0 p1 : Int32) : Int32 × Int32 × ZS := o_twin σ p0 p1 1

theorem hi_X2_readOnly : ∀ w ∈ wsX20, w ∈ wsX2_readOnly := by decide +kernel
set_option maxRecDepth 100000 in
set_option maxHeartbeats 4000000 in
theorem c_X2_readOnly (l : Launch) (g : zG) (am : Nat → Nat) (L : List Nat) (f : Nat → va_E) (σ : ZS) (bs : Nat → Int64) (th : Int32) (p0 : Int32) (p1 : Int32) (hm : zM g am f σ bs th L f) {ln : Nat → Nat} {kd : Nat → Int32} (hI : zI σ ln kd) : zC l yX2_readOnly wsX2_readOnly { frames := 3, cells := 0, slots := 0, locals := 69 } 0 0 g [.ref (am 0), .int p0, .int p1] L f (fun r L1 f1 => L = L1 ∧ ∃ (b9 : Int32) (bs1 : Nat → Int64), some (.int b9) = r ∧ zM g am f (o_readOnly σ p0 p1).2.2 bs1 (o_readOnly σ p0 p1).1 L f1 ∧ ((o_readOnly σ p0 p1).1 = 0 → b9 = (o_readOnly σ p0 p1).2.1)) zNo := by
  refine z_ofW (cc := cX2_readOnly) (maxL := 3) (ret := (some .int)) (by decide) rfl (Nat.le_of_ble_eq_true rfl) ?_
  intro p e s m args below meth c ls A hx hb hr hts hown hlocks hml htab hin hw hX hl
  have hl : lv_has ls 3 [(0, .ref (am 0)), (1, .int p0), (2, .int p1)] := hl
  have hown : s.vm.findClass RX2 = some m.cls := hown
  refine lv_aload_n hx hb dX2_readOnly_0 rfl (lv_at hl 0 rfl) ?_
  refine lv_iload_n hx hb dX2_readOnly_1 rfl (lv_at hl 1 rfl) ?_
  refine lv_iload_n hx hb dX2_readOnly_2 rfl (lv_at hl 2 rfl) ?_
  refine lv_iconst (v := 1) hx hb dX2_readOnly_3 (by decide) ?_
  refine z_callV (As := [.int p0, .int p1, .int 1]) (rest := []) ⟨hx, hb, hml, hown, hts⟩ hw hX (hm.1.1 0 (by decide)) rfl (c_X2_twin l g am L f σ bs th p0 p1 1 hm.rf hI) (cwV 3 hts gX2_readOnly_X2_twin rfl rfl rfl (by decide +kernel) ⟨(Nat.le_of_ble_eq_true rfl), (Nat.le_of_ble_eq_true rfl)⟩) rfl hl.1 rfl (Nat.le_of_ble_eq_true rfl) dX2_readOnly_4 ⟨(Nat.le_of_ble_eq_true rfl), (Nat.le_of_ble_eq_true rfl)⟩ (fun _ _ _ _ _ _ _ hp => False.elim hp) (fun r9 L9 f9 H locs hp hw => ?_)
  obtain ⟨rfl, b9, bs9, rfl, hm9, hb9⟩ := hp
  refine W.eq (g2 := F0 m 7 ls [.int b9]) rfl ?_
  exact z_iret hx hb hr hlocks hw (Nat.le_of_ble_eq_true rfl) (Nat.le_of_ble_eq_true rfl) dX2_readOnly_7 ⟨rfl, _, _, rfl, hm9, hb9⟩

def o_signAt (σ : ZS) (p0 : Int32) (p1 : Int32) : Int32 × Int32 × ZS := if zis σ p0 = true then if zK σ (Int32.toNatClampNeg p0) = 99 then if zin p1 0 (zEN σ (Int32.toNatClampNeg p0) - zPL σ (Int32.toNatClampNeg p0) - 1) = true then (0, ((zVal σ (Int32.toNatClampNeg p0) (zPL σ (Int32.toNatClampNeg p0) + p1)).toInt32.toUInt32 % 65536).toInt32, σ) else (3, 0, σ) else (2, 0, σ) else (1, 0, σ)

theorem hi_X2_signAt : ∀ w ∈ wsX20, w ∈ wsX2_signAt := by decide +kernel
theorem hf_X2_signAt_13 : Cond.fieldLink RX2 13 (TX2 1).1 (TX2 1).2.1 (TX2 1).2.2.1 ∈ wsX2_signAt := by decide +kernel
theorem hf_X2_signAt_26 : Cond.fieldLink RX2 26 (TX2 5).1 (TX2 5).2.1 (TX2 5).2.2.1 ∈ wsX2_signAt := by decide +kernel
theorem hf_X2_signAt_29 : Cond.fieldLink RX2 29 (TX2 6).1 (TX2 6).2.1 (TX2 6).2.2.1 ∈ wsX2_signAt := by decide +kernel
theorem hf_X2_signAt_48 : Cond.fieldLink RX2 48 (TX2 12).1 (TX2 12).2.1 (TX2 12).2.2.1 ∈ wsX2_signAt := by decide +kernel
set_option maxRecDepth 100000 in
set_option maxHeartbeats 4000000 in
theorem c_X2_signAt (l : Launch) (g : zG) (am : Nat → Nat) (L : List Nat) (f : Nat → va_E) (σ : ZS) (bs : Nat → Int64) (th : Int32) (p0 : Int32) (p1 : Int32) (hm : zM g am f σ bs th L f) {ln : Nat → Nat} {kd : Nat → Int32} (hI : zI σ ln kd) : zC l yX2_signAt wsX2_signAt { frames := 2, cells := 0, slots := 0, locals := 43 } 0 0 g [.ref (am 0), .int p0, .int p1] L f (fun r L1 f1 => L = L1 ∧ ∃ (b9 : Int32) (bs1 : Nat → Int64), some (.int b9) = r ∧ zM g am f (o_signAt σ p0 p1).2.2 bs1 (o_signAt σ p0 p1).1 L f1 ∧ ((o_signAt σ p0 p1).1 = 0 → b9 = (o_signAt σ p0 p1).2.1)) zNo := by
  refine z_ofW (cc := cX2_signAt) (maxL := 3) (ret := (some .char)) (by decide) rfl (Nat.le_of_ble_eq_true rfl) ?_
  intro p e s m args below meth c ls A hx hb hr hts hown hlocks hml htab hin hw hX hl
  have hl : lv_has ls 3 [(0, .ref (am 0)), (1, .int p0), (2, .int p1)] := hl
  have hown : s.vm.findClass RX2 = some m.cls := hown
  refine lv_aload_n hx hb dX2_signAt_0 rfl (lv_at hl 0 rfl) ?_
  refine lv_aload_n hx hb dX2_signAt_1 rfl (lv_at hl 0 rfl) ?_
  refine lv_iload_n hx hb dX2_signAt_2 rfl (lv_at hl 1 rfl) ?_
  refine z_callV (As := [.int p0]) (rest := [.ref (am 0)]) ⟨hx, hb, hml, hown, hts⟩ hw hX (hm.1.1 0 (by decide)) rfl (c_X2_is l g am L f σ bs th p0 hm.rf) (cwV 1 hts gX2_signAt_X2_is rfl rfl rfl (by decide +kernel) ⟨(Nat.le_of_ble_eq_true rfl), (Nat.le_of_ble_eq_true rfl)⟩) rfl hl.1 rfl (Nat.le_of_ble_eq_true rfl) dX2_signAt_3 ⟨(Nat.le_of_ble_eq_true rfl), (Nat.le_of_ble_eq_true rfl)⟩ (fun _ _ _ _ _ _ _ hp => False.elim hp) (fun r9 L9 f9 H locs hp hw => ?_)
  obtain ⟨rfl, rfl, rfl⟩ := hp
  refine W.eq (g2 := F0 m 6 ls [.int (zb (zis σ p0)), .ref (am 0)]) rfl ?_
  refine zr_bne hx hb dX2_signAt_6 (tgt := 13) (by decide) (fun c_1 => ?_) (fun c_1 => ?_)
  · refine lv_aload_n hx hb dX2_signAt_13 rfl (lv_at hl 0 rfl) ?_
    refine zm_get (v := .ref (am 2)) hx hb hts hi_X2_signAt hown hw hm 1 (by decide) hf_X2_signAt_13 rfl dX2_signAt_14 ?_
    refine lv_iload_n hx hb dX2_signAt_17 rfl (lv_at hl 1 rfl) ?_
    refine zm_ldK hx hb hw hm (by first | assumption | exact zis_7 (by assumption) | exact zin_7 (by assumption) | exact zin_1 (by assumption)) dX2_signAt_18 ?_
    refine lv_bipush (v := 99) hx hb dX2_signAt_19 (by decide) ?_
    refine lv_icmp_eq (tgt := 28) hx hb dX2_signAt_21 (by decide) (fun c_2 => ?_) (fun c_2 => ?_)
    · refine lv_iload_n hx hb dX2_signAt_28 rfl (lv_at hl 2 rfl) ?_
      refine lv_iconst (v := 0) hx hb dX2_signAt_29 (by decide) ?_
      refine lv_aload_n hx hb dX2_signAt_30 rfl (lv_at hl 0 rfl) ?_
      refine zm_get (v := .ref (am 7)) hx hb hts hi_X2_signAt hown hw hm 6 (by decide) hf_X2_signAt_29 rfl dX2_signAt_31 ?_
      refine lv_iload_n hx hb dX2_signAt_34 rfl (lv_at hl 1 rfl) ?_
      refine zm_ldEN hx hb hw hm (by first | assumption | exact zis_7 (by assumption) | exact zin_7 (by assumption) | exact zin_1 (by assumption)) dX2_signAt_35 ?_
      refine lv_aload_n hx hb dX2_signAt_36 rfl (lv_at hl 0 rfl) ?_
      refine zm_get (v := .ref (am 6)) hx hb hts hi_X2_signAt hown hw hm 5 (by decide) hf_X2_signAt_26 rfl dX2_signAt_37 ?_
      refine lv_iload_n hx hb dX2_signAt_40 rfl (lv_at hl 1 rfl) ?_
      refine zm_ldPL hx hb hw hm (by first | assumption | exact zis_7 (by assumption) | exact zin_7 (by assumption) | exact zin_1 (by assumption)) dX2_signAt_41 ?_
      refine lv_isub hx hb dX2_signAt_42 ?_
      refine lv_iconst (v := 1) hx hb dX2_signAt_43 (by decide) ?_
      refine lv_isub hx hb dX2_signAt_44 ?_
      refine z_callS (As := [.int p1, .int 0, .int (((zEN σ (Int32.toNatClampNeg p0)) - (zPL σ (Int32.toNatClampNeg p0))) - 1)]) (rest := [.ref (am 0)]) ⟨hx, hb, hml, hown, hts⟩ hw hX (c_X2_in l g L f p1 0 (((zEN σ (Int32.toNatClampNeg p0)) - (zPL σ (Int32.toNatClampNeg p0))) - 1)) (va_cwS 3 hts gX2_signAt_X2_in rfl rfl rfl (by decide +kernel) ⟨(Nat.le_of_ble_eq_true rfl), (Nat.le_of_ble_eq_true rfl)⟩) rfl hl.1 rfl (Nat.le_of_ble_eq_true rfl) dX2_signAt_45 ⟨(Nat.le_of_ble_eq_true rfl), (Nat.le_of_ble_eq_true rfl)⟩ (fun _ _ _ _ _ _ _ hp => False.elim hp) (fun r9 L9 f9 H locs hp hw => ?_)
      obtain ⟨rfl, rfl, rfl⟩ := hp
      refine W.eq (g2 := F0 m 48 ls [.int (zb (zin p1 0 (((zEN σ (Int32.toNatClampNeg p0)) - (zPL σ (Int32.toNatClampNeg p0))) - 1))), .ref (am 0)]) rfl ?_
      refine zr_bne hx hb dX2_signAt_48 (tgt := 55) (by decide) (fun c_3 => ?_) (fun c_3 => ?_)
      · refine lv_iconst (v := 0) hx hb dX2_signAt_55 (by decide) ?_
        refine zm_putT hx hb hts hi_X2_signAt hown hw hm hf_X2_signAt_48 dX2_signAt_56 (fun f_4 H locs hm hw => ?_)
        refine lv_aload_n hx hb dX2_signAt_59 rfl (lv_at hl 0 rfl) ?_
        refine zm_get (v := .int 0) hx hb hts hi_X2_signAt hown hw hm 12 (by decide) hf_X2_signAt_48 rfl dX2_signAt_60 ?_
        refine lv_if_le (tgt := 71) hx hb dX2_signAt_63 (by decide) (fun c_5 => ?_) (fun c_5 => absurd (by decide) c_5)
        refine lv_aload_n hx hb dX2_signAt_71 rfl (lv_at hl 0 rfl) ?_
        refine lv_iload_n hx hb dX2_signAt_72 rfl (lv_at hl 1 rfl) ?_
        refine lv_aload_n hx hb dX2_signAt_73 rfl (lv_at hl 0 rfl) ?_
        refine zm_get (v := .ref (am 6)) hx hb hts hi_X2_signAt hown hw hm 5 (by decide) hf_X2_signAt_26 rfl dX2_signAt_74 ?_
        refine lv_iload_n hx hb dX2_signAt_77 rfl (lv_at hl 1 rfl) ?_
        refine zm_ldPL hx hb hw hm (by first | assumption | exact zis_7 (by assumption) | exact zin_7 (by assumption) | exact zin_1 (by assumption)) dX2_signAt_78 ?_
        refine lv_iload_n hx hb dX2_signAt_79 rfl (lv_at hl 2 rfl) ?_
        refine lv_iadd hx hb dX2_signAt_80 ?_
        refine z_callV (As := [.int p0, .int ((zPL σ (Int32.toNatClampNeg p0)) + p1)]) (rest := []) ⟨hx, hb, hml, hown, hts⟩ hw hX (hm.1.1 0 (by decide)) rfl (c_X2_value l g am L f_4 σ bs 0 p0 ((zPL σ (Int32.toNatClampNeg p0)) + p1) hm.rf (by first | assumption | exact zis_7 (by assumption) | exact zin_7 (by assumption) | exact zin_1 (by assumption)) (zAt_in (zI_win hI (by assumption)) (zWin_sg (zI_win hI (by assumption)) (by assumption)).1 (zWin_sg (zI_win hI (by assumption)) (by assumption)).2)) (cwV 2 hts gX2_signAt_X2_value rfl rfl rfl (by decide +kernel) ⟨(Nat.le_of_ble_eq_true rfl), (Nat.le_of_ble_eq_true rfl)⟩) rfl hl.1 rfl (Nat.le_of_ble_eq_true rfl) dX2_signAt_81 ⟨(Nat.le_of_ble_eq_true rfl), (Nat.le_of_ble_eq_true rfl)⟩ (fun _ _ _ _ _ _ _ hp => False.elim hp) (fun r9 L9 f9 H locs hp hw => ?_)
        obtain ⟨rfl, rfl, rfl⟩ := hp
        refine W.eq (g2 := F0 m 84 ls [.long (zVal σ (Int32.toNatClampNeg p0) ((zPL σ (Int32.toNatClampNeg p0)) + p1))]) rfl ?_
        refine lv_l2i (v := (zVal σ (Int32.toNatClampNeg p0) ((zPL σ (Int32.toNatClampNeg p0)) + p1)).toInt32) hx hb dX2_signAt_84 rfl ?_
        refine lv_i2c (v := (((zVal σ (Int32.toNatClampNeg p0) ((zPL σ (Int32.toNatClampNeg p0)) + p1)).toInt32).toUInt32 % 65536).toInt32) hx hb dX2_signAt_85 rfl ?_
        have ho : (o_signAt σ p0 p1) = (0, (((zVal σ (Int32.toNatClampNeg p0) ((zPL σ (Int32.toNatClampNeg p0)) + p1)).toInt32).toUInt32 % 65536).toInt32, σ) := by unfold o_signAt; first | exact (if_pos (show (zis σ p0 = true) from by assumption)).trans ((if_pos (show (zK σ (Int32.toNatClampNeg p0) = 99) from by assumption)).trans (if_pos (show (zin p1 0 (zEN σ (Int32.toNatClampNeg p0) - zPL σ (Int32.toNatClampNeg p0) - 1) = true) from by assumption)))
        exact z_zret hx hb hr hlocks (pk_nc _) hw (Nat.le_of_ble_eq_true rfl) (Nat.le_of_ble_eq_true rfl) dX2_signAt_86 ⟨rfl, _, _, rfl, by rw [ho]; exact hm, by rw [ho]; exact fun _ => rfl⟩
      · refine lv_iconst (v := 3) hx hb dX2_signAt_51 (by decide) ?_
        refine lv_goto (tgt := 56) hx hb dX2_signAt_52 (by decide) ?_
        refine zm_putT hx hb hts hi_X2_signAt hown hw hm hf_X2_signAt_48 dX2_signAt_56 (fun f_6 H locs hm hw => ?_)
        refine lv_aload_n hx hb dX2_signAt_59 rfl (lv_at hl 0 rfl) ?_
        refine zm_get (v := .int 3) hx hb hts hi_X2_signAt hown hw hm 12 (by decide) hf_X2_signAt_48 rfl dX2_signAt_60 ?_
        refine lv_if_le (tgt := 71) hx hb dX2_signAt_63 (by decide) (fun c_7 => absurd c_7 (by decide)) (fun c_7 => ?_)
        refine lv_bipush (v := 32) hx hb dX2_signAt_66 (by decide) ?_
        refine lv_goto (tgt := 86) hx hb dX2_signAt_68 (by decide) ?_
        have ho : (o_signAt σ p0 p1) = (3, 0, σ) := by unfold o_signAt; first | exact (if_pos (show (zis σ p0 = true) from by assumption)).trans ((if_pos (show (zK σ (Int32.toNatClampNeg p0) = 99) from by assumption)).trans (if_neg (show ¬ (zin p1 0 (zEN σ (Int32.toNatClampNeg p0) - zPL σ (Int32.toNatClampNeg p0) - 1) = true) from by assumption)))
        exact z_zret hx hb hr hlocks rfl hw (Nat.le_of_ble_eq_true rfl) (Nat.le_of_ble_eq_true rfl) dX2_signAt_86 ⟨rfl, _, _, rfl, by rw [ho]; exact hm, by rw [ho]; exact fun h => absurd (show (3 : Int32) = 0 from h) (by decide)⟩
    · refine lv_iconst (v := 2) hx hb dX2_signAt_24 (by decide) ?_
      refine lv_goto (tgt := 56) hx hb dX2_signAt_25 (by decide) ?_
      refine zm_putT hx hb hts hi_X2_signAt hown hw hm hf_X2_signAt_48 dX2_signAt_56 (fun f_8 H locs hm hw => ?_)
      refine lv_aload_n hx hb dX2_signAt_59 rfl (lv_at hl 0 rfl) ?_
      refine zm_get (v := .int 2) hx hb hts hi_X2_signAt hown hw hm 12 (by decide) hf_X2_signAt_48 rfl dX2_signAt_60 ?_
      refine lv_if_le (tgt := 71) hx hb dX2_signAt_63 (by decide) (fun c_9 => absurd c_9 (by decide)) (fun c_9 => ?_)
      refine lv_bipush (v := 32) hx hb dX2_signAt_66 (by decide) ?_
      refine lv_goto (tgt := 86) hx hb dX2_signAt_68 (by decide) ?_
      have ho : (o_signAt σ p0 p1) = (2, 0, σ) := by unfold o_signAt; first | exact (if_pos (show (zis σ p0 = true) from by assumption)).trans (if_neg (show ¬ (zK σ (Int32.toNatClampNeg p0) = 99) from by assumption))
      exact z_zret hx hb hr hlocks rfl hw (Nat.le_of_ble_eq_true rfl) (Nat.le_of_ble_eq_true rfl) dX2_signAt_86 ⟨rfl, _, _, rfl, by rw [ho]; exact hm, by rw [ho]; exact fun h => absurd (show (2 : Int32) = 0 from h) (by decide)⟩
  · refine lv_iconst (v := 1) hx hb dX2_signAt_9 (by decide) ?_
    refine lv_goto (tgt := 56) hx hb dX2_signAt_10 (by decide) ?_
    refine zm_putT hx hb hts hi_X2_signAt hown hw hm hf_X2_signAt_48 dX2_signAt_56 (fun f_10 H locs hm hw => ?_)
    refine lv_aload_n hx hb dX2_signAt_59 rfl (lv_at hl 0 rfl) ?_
    refine zm_get (v := .int 1) hx hb hts hi_X2_signAt hown hw hm 12 (by decide) hf_X2_signAt_48 rfl dX2_signAt_60 ?_
    refine lv_if_le (tgt := 71) hx hb dX2_signAt_63 (by decide) (fun c_11 => absurd c_11 (by decide)) (fun c_11 => ?_)
    refine lv_bipush (v := 32) hx hb dX2_signAt_66 (by decide) ?_
    refine lv_goto (tgt := 86) hx hb dX2_signAt_68 (by decide) ?_
    have ho : (o_signAt σ p0 p1) = (1, 0, σ) := by unfold o_signAt; first | exact if_neg (show ¬ (zis σ p0 = true) from by assumption)
    exact z_zret hx hb hr hlocks rfl hw (Nat.le_of_ble_eq_true rfl) (Nat.le_of_ble_eq_true rfl) dX2_signAt_86 ⟨rfl, _, _, rfl, by rw [ho]; exact hm, by rw [ho]; exact fun h => absurd (show (1 : Int32) = 0 from h) (by decide)⟩

def o_signsLeft (σ : ZS) (p0 : Int32) : Int32 × Int32 × ZS := if zis σ p0 = true then if zK σ (Int32.toNatClampNeg p0) = 99 then (0, zEN σ (Int32.toNatClampNeg p0) - zPL σ (Int32.toNatClampNeg p0), σ) else (2, 0, σ) else (1, 0, σ)

theorem hi_X2_signsLeft : ∀ w ∈ wsX20, w ∈ wsX2_signsLeft := by decide +kernel
theorem hf_X2_signsLeft_13 : Cond.fieldLink RX2 13 (TX2 1).1 (TX2 1).2.1 (TX2 1).2.2.1 ∈ wsX2_signsLeft := by decide +kernel
theorem hf_X2_signsLeft_26 : Cond.fieldLink RX2 26 (TX2 5).1 (TX2 5).2.1 (TX2 5).2.2.1 ∈ wsX2_signsLeft := by decide +kernel
theorem hf_X2_signsLeft_29 : Cond.fieldLink RX2 29 (TX2 6).1 (TX2 6).2.1 (TX2 6).2.2.1 ∈ wsX2_signsLeft := by decide +kernel
theorem hf_X2_signsLeft_48 : Cond.fieldLink RX2 48 (TX2 12).1 (TX2 12).2.1 (TX2 12).2.2.1 ∈ wsX2_signsLeft := by decide +kernel
set_option maxRecDepth 100000 in
set_option maxHeartbeats 4000000 in
theorem c_X2_signsLeft (l : Launch) (g : zG) (am : Nat → Nat) (L : List Nat) (f : Nat → va_E) (σ : ZS) (bs : Nat → Int64) (th : Int32) (p0 : Int32) (hm : zM g am f σ bs th L f) {ln : Nat → Nat} {kd : Nat → Int32} (hI : zI σ ln kd) : zC l yX2_signsLeft wsX2_signsLeft { frames := 2, cells := 0, slots := 0, locals := 43 } 0 0 g [.ref (am 0), .int p0] L f (fun r L1 f1 => L = L1 ∧ ∃ (b9 : Int32) (bs1 : Nat → Int64), some (.int b9) = r ∧ zM g am f (o_signsLeft σ p0).2.2 bs1 (o_signsLeft σ p0).1 L f1 ∧ ((o_signsLeft σ p0).1 = 0 → b9 = (o_signsLeft σ p0).2.1)) zNo := by
  refine z_ofW (cc := cX2_signsLeft) (maxL := 2) (ret := (some .int)) (by decide) rfl (Nat.le_of_ble_eq_true rfl) ?_
  intro p e s m args below meth c ls A hx hb hr hts hown hlocks hml htab hin hw hX hl
  have hl : lv_has ls 2 [(0, .ref (am 0)), (1, .int p0)] := hl
  have hown : s.vm.findClass RX2 = some m.cls := hown
  refine lv_aload_n hx hb dX2_signsLeft_0 rfl (lv_at hl 0 rfl) ?_
  refine lv_aload_n hx hb dX2_signsLeft_1 rfl (lv_at hl 0 rfl) ?_
  refine lv_iload_n hx hb dX2_signsLeft_2 rfl (lv_at hl 1 rfl) ?_
  refine z_callV (As := [.int p0]) (rest := [.ref (am 0)]) ⟨hx, hb, hml, hown, hts⟩ hw hX (hm.1.1 0 (by decide)) rfl (c_X2_is l g am L f σ bs th p0 hm.rf) (cwV 1 hts gX2_signsLeft_X2_is rfl rfl rfl (by decide +kernel) ⟨(Nat.le_of_ble_eq_true rfl), (Nat.le_of_ble_eq_true rfl)⟩) rfl hl.1 rfl (Nat.le_of_ble_eq_true rfl) dX2_signsLeft_3 ⟨(Nat.le_of_ble_eq_true rfl), (Nat.le_of_ble_eq_true rfl)⟩ (fun _ _ _ _ _ _ _ hp => False.elim hp) (fun r9 L9 f9 H locs hp hw => ?_)
  obtain ⟨rfl, rfl, rfl⟩ := hp
  refine W.eq (g2 := F0 m 6 ls [.int (zb (zis σ p0)), .ref (am 0)]) rfl ?_
  refine zr_bne hx hb dX2_signsLeft_6 (tgt := 13) (by decide) (fun c_1 => ?_) (fun c_1 => ?_)
  · refine lv_aload_n hx hb dX2_signsLeft_13 rfl (lv_at hl 0 rfl) ?_
    refine zm_get (v := .ref (am 2)) hx hb hts hi_X2_signsLeft hown hw hm 1 (by decide) hf_X2_signsLeft_13 rfl dX2_signsLeft_14 ?_
    refine lv_iload_n hx hb dX2_signsLeft_17 rfl (lv_at hl 1 rfl) ?_
    refine zm_ldK hx hb hw hm (by first | assumption | exact zis_7 (by assumption) | exact zin_7 (by assumption) | exact zin_1 (by assumption)) dX2_signsLeft_18 ?_
    refine lv_bipush (v := 99) hx hb dX2_signsLeft_19 (by decide) ?_
    refine lv_icmp_eq (tgt := 28) hx hb dX2_signsLeft_21 (by decide) (fun c_2 => ?_) (fun c_2 => ?_)
    · refine lv_iconst (v := 0) hx hb dX2_signsLeft_28 (by decide) ?_
      refine zm_putT hx hb hts hi_X2_signsLeft hown hw hm hf_X2_signsLeft_48 dX2_signsLeft_29 (fun f_3 H locs hm hw => ?_)
      refine lv_aload_n hx hb dX2_signsLeft_32 rfl (lv_at hl 0 rfl) ?_
      refine zm_get (v := .int 0) hx hb hts hi_X2_signsLeft hown hw hm 12 (by decide) hf_X2_signsLeft_48 rfl dX2_signsLeft_33 ?_
      refine lv_if_le (tgt := 43) hx hb dX2_signsLeft_36 (by decide) (fun c_4 => ?_) (fun c_4 => absurd (by decide) c_4)
      refine lv_aload_n hx hb dX2_signsLeft_43 rfl (lv_at hl 0 rfl) ?_
      refine zm_get (v := .ref (am 7)) hx hb hts hi_X2_signsLeft hown hw hm 6 (by decide) hf_X2_signsLeft_29 rfl dX2_signsLeft_44 ?_
      refine lv_iload_n hx hb dX2_signsLeft_47 rfl (lv_at hl 1 rfl) ?_
      refine zm_ldEN hx hb hw hm (by first | assumption | exact zis_7 (by assumption) | exact zin_7 (by assumption) | exact zin_1 (by assumption)) dX2_signsLeft_48 ?_
      refine lv_aload_n hx hb dX2_signsLeft_49 rfl (lv_at hl 0 rfl) ?_
      refine zm_get (v := .ref (am 6)) hx hb hts hi_X2_signsLeft hown hw hm 5 (by decide) hf_X2_signsLeft_26 rfl dX2_signsLeft_50 ?_
      refine lv_iload_n hx hb dX2_signsLeft_53 rfl (lv_at hl 1 rfl) ?_
      refine zm_ldPL hx hb hw hm (by first | assumption | exact zis_7 (by assumption) | exact zin_7 (by assumption) | exact zin_1 (by assumption)) dX2_signsLeft_54 ?_
      refine lv_isub hx hb dX2_signsLeft_55 ?_
      have ho : (o_signsLeft σ p0) = (0, ((zEN σ (Int32.toNatClampNeg p0)) - (zPL σ (Int32.toNatClampNeg p0))), σ) := by unfold o_signsLeft; first | exact (if_pos (show (zis σ p0 = true) from by assumption)).trans (if_pos (show (zK σ (Int32.toNatClampNeg p0) = 99) from by assumption))
      exact z_iret hx hb hr hlocks hw (Nat.le_of_ble_eq_true rfl) (Nat.le_of_ble_eq_true rfl) dX2_signsLeft_56 ⟨rfl, _, _, rfl, by rw [ho]; exact hm, by rw [ho]; exact fun _ => rfl⟩
    · refine lv_iconst (v := 2) hx hb dX2_signsLeft_24 (by decide) ?_
      refine lv_goto (tgt := 29) hx hb dX2_signsLeft_25 (by decide) ?_
      refine zm_putT hx hb hts hi_X2_signsLeft hown hw hm hf_X2_signsLeft_48 dX2_signsLeft_29 (fun f_5 H locs hm hw => ?_)
      refine lv_aload_n hx hb dX2_signsLeft_32 rfl (lv_at hl 0 rfl) ?_
      refine zm_get (v := .int 2) hx hb hts hi_X2_signsLeft hown hw hm 12 (by decide) hf_X2_signsLeft_48 rfl dX2_signsLeft_33 ?_
      refine lv_if_le (tgt := 43) hx hb dX2_signsLeft_36 (by decide) (fun c_6 => absurd c_6 (by decide)) (fun c_6 => ?_)
      refine lv_iconst (v := 0) hx hb dX2_signsLeft_39 (by decide) ?_
      refine lv_goto (tgt := 56) hx hb dX2_signsLeft_40 (by decide) ?_
      have ho : (o_signsLeft σ p0) = (2, 0, σ) := by unfold o_signsLeft; first | exact (if_pos (show (zis σ p0 = true) from by assumption)).trans (if_neg (show ¬ (zK σ (Int32.toNatClampNeg p0) = 99) from by assumption))
      exact z_iret hx hb hr hlocks hw (Nat.le_of_ble_eq_true rfl) (Nat.le_of_ble_eq_true rfl) dX2_signsLeft_56 ⟨rfl, _, _, rfl, by rw [ho]; exact hm, by rw [ho]; exact fun h => absurd (show (2 : Int32) = 0 from h) (by decide)⟩
  · refine lv_iconst (v := 1) hx hb dX2_signsLeft_9 (by decide) ?_
    refine lv_goto (tgt := 29) hx hb dX2_signsLeft_10 (by decide) ?_
    refine zm_putT hx hb hts hi_X2_signsLeft hown hw hm hf_X2_signsLeft_48 dX2_signsLeft_29 (fun f_7 H locs hm hw => ?_)
    refine lv_aload_n hx hb dX2_signsLeft_32 rfl (lv_at hl 0 rfl) ?_
    refine zm_get (v := .int 1) hx hb hts hi_X2_signsLeft hown hw hm 12 (by decide) hf_X2_signsLeft_48 rfl dX2_signsLeft_33 ?_
    refine lv_if_le (tgt := 43) hx hb dX2_signsLeft_36 (by decide) (fun c_8 => absurd c_8 (by decide)) (fun c_8 => ?_)
    refine lv_iconst (v := 0) hx hb dX2_signsLeft_39 (by decide) ?_
    refine lv_goto (tgt := 56) hx hb dX2_signsLeft_40 (by decide) ?_
    have ho : (o_signsLeft σ p0) = (1, 0, σ) := by unfold o_signsLeft; first | exact if_neg (show ¬ (zis σ p0 = true) from by assumption)
    exact z_iret hx hb hr hlocks hw (Nat.le_of_ble_eq_true rfl) (Nat.le_of_ble_eq_true rfl) dX2_signsLeft_56 ⟨rfl, _, _, rfl, by rw [ho]; exact hm, by rw [ho]; exact fun h => absurd (show (1 : Int32) = 0 from h) (by decide)⟩

def o_append (σ : ZS) (p0 : Int32) (p1 : Int32) : Int32 × Int32 × ZS := if zis σ p0 = true then if zK σ (Int32.toNatClampNeg p0) = 99 then if zRD σ (Int32.toNatClampNeg p0) = 0 then if zPL σ (Int32.toNatClampNeg p0) = zEN σ (Int32.toNatClampNeg p0) then (3, 0, σ) else (0, zPL (zsPL (zLay σ (Int32.toNatClampNeg p0) (zPL σ (Int32.toNatClampNeg p0)) p1.toInt64) (upd (zPL (zLay σ (Int32.toNatClampNeg p0) (zPL σ (Int32.toNatClampNeg p0)) p1.toInt64)) (Int32.toNatClampNeg p0) (zPL (zLay σ (Int32.toNatClampNeg p0) (zPL σ (Int32.toNatClampNeg p0)) p1.toInt64) (Int32.toNatClampNeg p0) + 1))) (Int32.toNatClampNeg p0), (zsPL (zLay σ (Int32.toNatClampNeg p0) (zPL σ (Int32.toNatClampNeg p0)) p1.toInt64) (upd (zPL (zLay σ (Int32.toNatClampNeg p0) (zPL σ (Int32.toNatClampNeg p0)) p1.toInt64)) (Int32.toNatClampNeg p0) (zPL (zLay σ (Int32.toNatClampNeg p0) (zPL σ (Int32.toNatClampNeg p0)) p1.toInt64) (Int32.toNatClampNeg p0) + 1)))) else (2, 0, σ) else (2, 0, σ) else (1, 0, σ)

theorem hi_X2_append : ∀ w ∈ wsX20, w ∈ wsX2_append := by decide +kernel
theorem hf_X2_append_13 : Cond.fieldLink RX2 13 (TX2 1).1 (TX2 1).2.1 (TX2 1).2.2.1 ∈ wsX2_append := by decide +kernel
theorem hf_X2_append_26 : Cond.fieldLink RX2 26 (TX2 5).1 (TX2 5).2.1 (TX2 5).2.2.1 ∈ wsX2_append := by decide +kernel
theorem hf_X2_append_29 : Cond.fieldLink RX2 29 (TX2 6).1 (TX2 6).2.1 (TX2 6).2.2.1 ∈ wsX2_append := by decide +kernel
theorem hf_X2_append_35 : Cond.fieldLink RX2 35 (TX2 8).1 (TX2 8).2.1 (TX2 8).2.2.1 ∈ wsX2_append := by decide +kernel
theorem hf_X2_append_48 : Cond.fieldLink RX2 48 (TX2 12).1 (TX2 12).2.1 (TX2 12).2.2.1 ∈ wsX2_append := by decide +kernel
set_option maxRecDepth 100000 in
set_option maxHeartbeats 4000000 in
theorem c_X2_append (l : Launch) (g : zG) (am : Nat → Nat) (L : List Nat) (f : Nat → va_E) (σ : ZS) (bs : Nat → Int64) (th : Int32) (p0 : Int32) (p1 : Int32) (hm : zM g am f σ bs th L f) {ln : Nat → Nat} {kd : Nat → Int32} (hI : zI σ ln kd) : zC l yX2_append wsX2_append { frames := 2, cells := 0, slots := 0, locals := 43 } 0 0 g [.ref (am 0), .int p0, .int p1] L f (fun r L1 f1 => L = L1 ∧ ∃ (b9 : Int32) (bs1 : Nat → Int64), some (.int b9) = r ∧ zM g am f (o_append σ p0 p1).2.2 bs1 (o_append σ p0 p1).1 L f1 ∧ ((o_append σ p0 p1).1 = 0 → b9 = (o_append σ p0 p1).2.1)) zNo := by
  refine z_ofW (cc := cX2_append) (maxL := 3) (ret := (some .int)) (by decide) rfl (Nat.le_of_ble_eq_true rfl) ?_
  intro p e s m args below meth c ls A hx hb hr hts hown hlocks hml htab hin hw hX hl
  have hl : lv_has ls 3 [(0, .ref (am 0)), (1, .int p0), (2, .int p1)] := hl
  have hown : s.vm.findClass RX2 = some m.cls := hown
  refine lv_aload_n hx hb dX2_append_0 rfl (lv_at hl 0 rfl) ?_
  refine lv_aload_n hx hb dX2_append_1 rfl (lv_at hl 0 rfl) ?_
  refine lv_iload_n hx hb dX2_append_2 rfl (lv_at hl 1 rfl) ?_
  refine z_callV (As := [.int p0]) (rest := [.ref (am 0)]) ⟨hx, hb, hml, hown, hts⟩ hw hX (hm.1.1 0 (by decide)) rfl (c_X2_is l g am L f σ bs th p0 hm.rf) (cwV 1 hts gX2_append_X2_is rfl rfl rfl (by decide +kernel) ⟨(Nat.le_of_ble_eq_true rfl), (Nat.le_of_ble_eq_true rfl)⟩) rfl hl.1 rfl (Nat.le_of_ble_eq_true rfl) dX2_append_3 ⟨(Nat.le_of_ble_eq_true rfl), (Nat.le_of_ble_eq_true rfl)⟩ (fun _ _ _ _ _ _ _ hp => False.elim hp) (fun r9 L9 f9 H locs hp hw => ?_)
  obtain ⟨rfl, rfl, rfl⟩ := hp
  refine W.eq (g2 := F0 m 6 ls [.int (zb (zis σ p0)), .ref (am 0)]) rfl ?_
  refine zr_bne hx hb dX2_append_6 (tgt := 13) (by decide) (fun c_1 => ?_) (fun c_1 => ?_)
  · refine lv_aload_n hx hb dX2_append_13 rfl (lv_at hl 0 rfl) ?_
    refine zm_get (v := .ref (am 2)) hx hb hts hi_X2_append hown hw hm 1 (by decide) hf_X2_append_13 rfl dX2_append_14 ?_
    refine lv_iload_n hx hb dX2_append_17 rfl (lv_at hl 1 rfl) ?_
    refine zm_ldK hx hb hw hm (by first | assumption | exact zis_7 (by assumption) | exact zin_7 (by assumption) | exact zin_1 (by assumption)) dX2_append_18 ?_
    refine lv_bipush (v := 99) hx hb dX2_append_19 (by decide) ?_
    refine lv_icmp_ne (tgt := 33) hx hb dX2_append_21 (by decide) (fun c_2 => ?_) (fun c_2 => ?_)
    · refine lv_iconst (v := 2) hx hb dX2_append_33 (by decide) ?_
      refine lv_goto (tgt := 57) hx hb dX2_append_34 (by decide) ?_
      refine zm_putT hx hb hts hi_X2_append hown hw hm hf_X2_append_48 dX2_append_57 (fun f_3 H locs hm hw => ?_)
      refine lv_aload_n hx hb dX2_append_60 rfl (lv_at hl 0 rfl) ?_
      refine zm_get (v := .int 2) hx hb hts hi_X2_append hown hw hm 12 (by decide) hf_X2_append_48 rfl dX2_append_61 ?_
      refine lv_if_le (tgt := 69) hx hb dX2_append_64 (by decide) (fun c_4 => absurd c_4 (by decide)) (fun c_4 => ?_)
      refine lv_iconst (v := 0) hx hb dX2_append_67 (by decide) ?_
      have ho : (o_append σ p0 p1) = (2, 0, σ) := by unfold o_append; first | exact (if_pos (show (zis σ p0 = true) from by assumption)).trans ((if_pos (show (zK σ (Int32.toNatClampNeg p0) = 99) from by assumption)).trans (if_neg (show ¬ (zRD σ (Int32.toNatClampNeg p0) = 0) from by assumption))) | exact (if_pos (show (zis σ p0 = true) from by assumption)).trans (if_neg (show ¬ (zK σ (Int32.toNatClampNeg p0) = 99) from by assumption))
      exact z_iret hx hb hr hlocks hw (Nat.le_of_ble_eq_true rfl) (Nat.le_of_ble_eq_true rfl) dX2_append_68 ⟨rfl, _, _, rfl, by rw [ho]; exact hm, by rw [ho]; exact fun h => absurd (show (2 : Int32) = 0 from h) (by decide)⟩
    · refine lv_aload_n hx hb dX2_append_24 rfl (lv_at hl 0 rfl) ?_
      refine zm_get (v := .ref (am 9)) hx hb hts hi_X2_append hown hw hm 8 (by decide) hf_X2_append_35 rfl dX2_append_25 ?_
      refine lv_iload_n hx hb dX2_append_28 rfl (lv_at hl 1 rfl) ?_
      refine zm_ldRD hx hb hw hm (by first | assumption | exact zis_7 (by assumption) | exact zin_7 (by assumption) | exact zin_1 (by assumption)) dX2_append_29 ?_
      refine lv_if_eq (tgt := 37) hx hb dX2_append_30 (by decide) (fun c_5 => ?_) (fun c_5 => ?_)
      · refine lv_aload_n hx hb dX2_append_37 rfl (lv_at hl 0 rfl) ?_
        refine zm_get (v := .ref (am 6)) hx hb hts hi_X2_append hown hw hm 5 (by decide) hf_X2_append_26 rfl dX2_append_38 ?_
        refine lv_iload_n hx hb dX2_append_41 rfl (lv_at hl 1 rfl) ?_
        refine zm_ldPL hx hb hw hm (by first | assumption | exact zis_7 (by assumption) | exact zin_7 (by assumption) | exact zin_1 (by assumption)) dX2_append_42 ?_
        refine lv_aload_n hx hb dX2_append_43 rfl (lv_at hl 0 rfl) ?_
        refine zm_get (v := .ref (am 7)) hx hb hts hi_X2_append hown hw hm 6 (by decide) hf_X2_append_29 rfl dX2_append_44 ?_
        refine lv_iload_n hx hb dX2_append_47 rfl (lv_at hl 1 rfl) ?_
        refine zm_ldEN hx hb hw hm (by first | assumption | exact zis_7 (by assumption) | exact zin_7 (by assumption) | exact zin_1 (by assumption)) dX2_append_48 ?_
        refine lv_icmp_ne (tgt := 56) hx hb dX2_append_49 (by decide) (fun c_6 => ?_) (fun c_6 => ?_)
        · refine lv_iconst (v := 0) hx hb dX2_append_56 (by decide) ?_
          refine zm_putT hx hb hts hi_X2_append hown hw hm hf_X2_append_48 dX2_append_57 (fun f_7 H locs hm hw => ?_)
          refine lv_aload_n hx hb dX2_append_60 rfl (lv_at hl 0 rfl) ?_
          refine zm_get (v := .int 0) hx hb hts hi_X2_append hown hw hm 12 (by decide) hf_X2_append_48 rfl dX2_append_61 ?_
          refine lv_if_le (tgt := 69) hx hb dX2_append_64 (by decide) (fun c_8 => ?_) (fun c_8 => absurd (by decide) c_8)
          refine lv_aload_n hx hb dX2_append_69 rfl (lv_at hl 0 rfl) ?_
          refine lv_iload_n hx hb dX2_append_70 rfl (lv_at hl 1 rfl) ?_
          refine lv_aload_n hx hb dX2_append_71 rfl (lv_at hl 0 rfl) ?_
          refine zm_get (v := .ref (am 6)) hx hb hts hi_X2_append hown hw hm 5 (by decide) hf_X2_append_26 rfl dX2_append_72 ?_
          refine lv_iload_n hx hb dX2_append_75 rfl (lv_at hl 1 rfl) ?_
          refine zm_ldPL hx hb hw hm (by first | assumption | exact zis_7 (by assumption) | exact zin_7 (by assumption) | exact zin_1 (by assumption)) dX2_append_76 ?_
          refine lv_iload_n hx hb dX2_append_77 rfl (lv_at hl 2 rfl) ?_
          refine lv_i2l (v := p1.toInt64) hx hb dX2_append_78 rfl ?_
          refine z_callV (As := [.int p0, .int (zPL σ (Int32.toNatClampNeg p0)), .long p1.toInt64]) (rest := []) ⟨hx, hb, hml, hown, hts⟩ hw hX (hm.1.1 0 (by decide)) rfl (c_X2_lays l g am L f_7 σ bs 0 p0 (zPL σ (Int32.toNatClampNeg p0)) p1.toInt64 hm.rf (by first | assumption | exact zis_7 (by assumption) | exact zin_7 (by assumption) | exact zin_1 (by assumption)) (zAt_in (zI_win hI (by assumption)) (zWin_pl (zI_win hI (by assumption))).1 ((zWin_pl (zI_win hI (by assumption))).2 (by assumption)))) (cwV 3 hts gX2_append_X2_lays rfl rfl rfl (by decide +kernel) ⟨(Nat.le_of_ble_eq_true rfl), (Nat.le_of_ble_eq_true rfl)⟩) rfl hl.1 rfl (Nat.le_of_ble_eq_true rfl) dX2_append_79 ⟨(Nat.le_of_ble_eq_true rfl), (Nat.le_of_ble_eq_true rfl)⟩ (fun _ _ _ _ _ _ _ hp => False.elim hp) (fun r9 L9 f9 H locs hp hw => ?_)
          obtain ⟨rfl, rfl, hm9⟩ := hp
          refine W.eq (g2 := F0 m 82 ls []) rfl ?_
          have hm := hm.tr hm9
          refine lv_aload_n hx hb dX2_append_82 rfl (lv_at hl 0 rfl) ?_
          refine zm_get (v := .ref (am 6)) hx hb hts hi_X2_append hown hw hm 5 (by decide) hf_X2_append_26 rfl dX2_append_83 ?_
          refine lv_iload_n hx hb dX2_append_86 rfl (lv_at hl 1 rfl) ?_
          refine lv_dup2_11 hx hb dX2_append_87 rfl rfl ?_
          refine zm_ldPL hx hb hw hm (by first | assumption | exact zis_7 (by assumption) | exact zin_7 (by assumption) | exact zin_1 (by assumption)) dX2_append_88 ?_
          refine lv_iconst (v := 1) hx hb dX2_append_89 (by decide) ?_
          refine lv_iadd hx hb dX2_append_90 ?_
          refine zm_stPL hx hb hw hm (by first | assumption | exact zis_7 (by assumption) | exact zin_7 (by assumption) | exact zin_1 (by assumption)) dX2_append_91 (fun f_9 H locs hm hw => ?_)
          refine lv_aload_n hx hb dX2_append_92 rfl (lv_at hl 0 rfl) ?_
          refine zm_get (v := .ref (am 6)) hx hb hts hi_X2_append hown hw hm 5 (by decide) hf_X2_append_26 rfl dX2_append_93 ?_
          refine lv_iload_n hx hb dX2_append_96 rfl (lv_at hl 1 rfl) ?_
          refine zm_ldPL hx hb hw hm (by first | assumption | exact zis_7 (by assumption) | exact zin_7 (by assumption) | exact zin_1 (by assumption)) dX2_append_97 ?_
          have ho : (o_append σ p0 p1) = (0, (zPL (zsPL (zLay σ (Int32.toNatClampNeg p0) (zPL σ (Int32.toNatClampNeg p0)) p1.toInt64) (upd (zPL (zLay σ (Int32.toNatClampNeg p0) (zPL σ (Int32.toNatClampNeg p0)) p1.toInt64)) (Int32.toNatClampNeg p0) ((zPL (zLay σ (Int32.toNatClampNeg p0) (zPL σ (Int32.toNatClampNeg p0)) p1.toInt64) (Int32.toNatClampNeg p0)) + 1))) (Int32.toNatClampNeg p0)), (zsPL (zLay σ (Int32.toNatClampNeg p0) (zPL σ (Int32.toNatClampNeg p0)) p1.toInt64) (upd (zPL (zLay σ (Int32.toNatClampNeg p0) (zPL σ (Int32.toNatClampNeg p0)) p1.toInt64)) (Int32.toNatClampNeg p0) ((zPL (zLay σ (Int32.toNatClampNeg p0) (zPL σ (Int32.toNatClampNeg p0)) p1.toInt64) (Int32.toNatClampNeg p0)) + 1)))) := by unfold o_append; first | exact (if_pos (show (zis σ p0 = true) from by assumption)).trans ((if_pos (show (zK σ (Int32.toNatClampNeg p0) = 99) from by assumption)).trans ((if_pos (show (zRD σ (Int32.toNatClampNeg p0) = 0) from by assumption)).trans (if_neg (show ¬ (zPL σ (Int32.toNatClampNeg p0) = zEN σ (Int32.toNatClampNeg p0)) from by assumption))))
          exact z_iret hx hb hr hlocks hw (Nat.le_of_ble_eq_true rfl) (Nat.le_of_ble_eq_true rfl) dX2_append_98 ⟨rfl, _, _, rfl, by rw [ho]; exact hm, by rw [ho]; exact fun _ => rfl⟩
        · refine lv_iconst (v := 3) hx hb dX2_append_52 (by decide) ?_
          refine lv_goto (tgt := 57) hx hb dX2_append_53 (by decide) ?_
          refine zm_putT hx hb hts hi_X2_append hown hw hm hf_X2_append_48 dX2_append_57 (fun f_10 H locs hm hw => ?_)
          refine lv_aload_n hx hb dX2_append_60 rfl (lv_at hl 0 rfl) ?_
          refine zm_get (v := .int 3) hx hb hts hi_X2_append hown hw hm 12 (by decide) hf_X2_append_48 rfl dX2_append_61 ?_
          refine lv_if_le (tgt := 69) hx hb dX2_append_64 (by decide) (fun c_11 => absurd c_11 (by decide)) (fun c_11 => ?_)
          refine lv_iconst (v := 0) hx hb dX2_append_67 (by decide) ?_
          have ho : (o_append σ p0 p1) = (3, 0, σ) := by unfold o_append; first | exact (if_pos (show (zis σ p0 = true) from by assumption)).trans ((if_pos (show (zK σ (Int32.toNatClampNeg p0) = 99) from by assumption)).trans ((if_pos (show (zRD σ (Int32.toNatClampNeg p0) = 0) from by assumption)).trans (if_pos (show (zPL σ (Int32.toNatClampNeg p0) = zEN σ (Int32.toNatClampNeg p0)) from by assumption))))
          exact z_iret hx hb hr hlocks hw (Nat.le_of_ble_eq_true rfl) (Nat.le_of_ble_eq_true rfl) dX2_append_68 ⟨rfl, _, _, rfl, by rw [ho]; exact hm, by rw [ho]; exact fun h => absurd (show (3 : Int32) = 0 from h) (by decide)⟩
      · refine lv_iconst (v := 2) hx hb dX2_append_33 (by decide) ?_
        refine lv_goto (tgt := 57) hx hb dX2_append_34 (by decide) ?_
        refine zm_putT hx hb hts hi_X2_append hown hw hm hf_X2_append_48 dX2_append_57 (fun f_12 H locs hm hw => ?_)
        refine lv_aload_n hx hb dX2_append_60 rfl (lv_at hl 0 rfl) ?_
        refine zm_get (v := .int 2) hx hb hts hi_X2_append hown hw hm 12 (by decide) hf_X2_append_48 rfl dX2_append_61 ?_
        refine lv_if_le (tgt := 69) hx hb dX2_append_64 (by decide) (fun c_13 => absurd c_13 (by decide)) (fun c_13 => ?_)
        refine lv_iconst (v := 0) hx hb dX2_append_67 (by decide) ?_
        have ho : (o_append σ p0 p1) = (2, 0, σ) := by unfold o_append; first | exact (if_pos (show (zis σ p0 = true) from by assumption)).trans ((if_pos (show (zK σ (Int32.toNatClampNeg p0) = 99) from by assumption)).trans (if_neg (show ¬ (zRD σ (Int32.toNatClampNeg p0) = 0) from by assumption))) | exact (if_pos (show (zis σ p0 = true) from by assumption)).trans (if_neg (show ¬ (zK σ (Int32.toNatClampNeg p0) = 99) from by assumption))
        exact z_iret hx hb hr hlocks hw (Nat.le_of_ble_eq_true rfl) (Nat.le_of_ble_eq_true rfl) dX2_append_68 ⟨rfl, _, _, rfl, by rw [ho]; exact hm, by rw [ho]; exact fun h => absurd (show (2 : Int32) = 0 from h) (by decide)⟩
  · refine lv_iconst (v := 1) hx hb dX2_append_9 (by decide) ?_
    refine lv_goto (tgt := 57) hx hb dX2_append_10 (by decide) ?_
    refine zm_putT hx hb hts hi_X2_append hown hw hm hf_X2_append_48 dX2_append_57 (fun f_14 H locs hm hw => ?_)
    refine lv_aload_n hx hb dX2_append_60 rfl (lv_at hl 0 rfl) ?_
    refine zm_get (v := .int 1) hx hb hts hi_X2_append hown hw hm 12 (by decide) hf_X2_append_48 rfl dX2_append_61 ?_
    refine lv_if_le (tgt := 69) hx hb dX2_append_64 (by decide) (fun c_15 => absurd c_15 (by decide)) (fun c_15 => ?_)
    refine lv_iconst (v := 0) hx hb dX2_append_67 (by decide) ?_
    have ho : (o_append σ p0 p1) = (1, 0, σ) := by unfold o_append; first | exact if_neg (show ¬ (zis σ p0 = true) from by assumption)
    exact z_iret hx hb hr hlocks hw (Nat.le_of_ble_eq_true rfl) (Nat.le_of_ble_eq_true rfl) dX2_append_68 ⟨rfl, _, _, rfl, by rw [ho]; exact hm, by rw [ho]; exact fun h => absurd (show (1 : Int32) = 0 from h) (by decide)⟩

def o_fullShare (σ : ZS) (p0 : Int32) : Int32 × UInt32 × ZS := if zis σ p0 = true then if zSZ σ (Int32.toNatClampNeg p0) = 0 then (2, 0, σ) else (0, FP.fdiv (FP.i2f (zPL σ (Int32.toNatClampNeg p0))) (FP.i2f (zSZ σ (Int32.toNatClampNeg p0))), σ) else (1, 0, σ)

theorem hi_X2_fullShare : ∀ w ∈ wsX20, w ∈ wsX2_fullShare := by decide +kernel
theorem hf_X2_fullShare_23 : Cond.fieldLink RX2 23 (TX2 4).1 (TX2 4).2.1 (TX2 4).2.2.1 ∈ wsX2_fullShare := by decide +kernel
theorem hf_X2_fullShare_26 : Cond.fieldLink RX2 26 (TX2 5).1 (TX2 5).2.1 (TX2 5).2.2.1 ∈ wsX2_fullShare := by decide +kernel
theorem hf_X2_fullShare_48 : Cond.fieldLink RX2 48 (TX2 12).1 (TX2 12).2.1 (TX2 12).2.2.1 ∈ wsX2_fullShare := by decide +kernel
set_option maxRecDepth 100000 in
set_option maxHeartbeats 4000000 in
theorem c_X2_fullShare (l : Launch) (g : zG) (am : Nat → Nat) (L : List Nat) (f : Nat → va_E) (σ : ZS) (bs : Nat → Int64) (th : Int32) (p0 : Int32) (hm : zM g am f σ bs th L f) {ln : Nat → Nat} {kd : Nat → Int32} (hI : zI σ ln kd) : zC l yX2_fullShare wsX2_fullShare { frames := 2, cells := 0, slots := 0, locals := 43 } 0 0 g [.ref (am 0), .int p0] L f (fun r L1 f1 => L = L1 ∧ ∃ (b9 : UInt32) (bs1 : Nat → Int64), some (.float b9) = r ∧ zM g am f (o_fullShare σ p0).2.2 bs1 (o_fullShare σ p0).1 L f1 ∧ ((o_fullShare σ p0).1 = 0 → b9 = (o_fullShare σ p0).2.1)) zNo := by
  refine z_ofW (cc := cX2_fullShare) (maxL := 2) (ret := (some .float)) (by decide) rfl (Nat.le_of_ble_eq_true rfl) ?_
  intro p e s m args below meth c ls A hx hb hr hts hown hlocks hml htab hin hw hX hl
  have hl : lv_has ls 2 [(0, .ref (am 0)), (1, .int p0)] := hl
  have hown : s.vm.findClass RX2 = some m.cls := hown
  refine lv_aload_n hx hb dX2_fullShare_0 rfl (lv_at hl 0 rfl) ?_
  refine lv_aload_n hx hb dX2_fullShare_1 rfl (lv_at hl 0 rfl) ?_
  refine lv_iload_n hx hb dX2_fullShare_2 rfl (lv_at hl 1 rfl) ?_
  refine z_callV (As := [.int p0]) (rest := [.ref (am 0)]) ⟨hx, hb, hml, hown, hts⟩ hw hX (hm.1.1 0 (by decide)) rfl (c_X2_is l g am L f σ bs th p0 hm.rf) (cwV 1 hts gX2_fullShare_X2_is rfl rfl rfl (by decide +kernel) ⟨(Nat.le_of_ble_eq_true rfl), (Nat.le_of_ble_eq_true rfl)⟩) rfl hl.1 rfl (Nat.le_of_ble_eq_true rfl) dX2_fullShare_3 ⟨(Nat.le_of_ble_eq_true rfl), (Nat.le_of_ble_eq_true rfl)⟩ (fun _ _ _ _ _ _ _ hp => False.elim hp) (fun r9 L9 f9 H locs hp hw => ?_)
  obtain ⟨rfl, rfl, rfl⟩ := hp
  refine W.eq (g2 := F0 m 6 ls [.int (zb (zis σ p0)), .ref (am 0)]) rfl ?_
  refine zr_bne hx hb dX2_fullShare_6 (tgt := 13) (by decide) (fun c_1 => ?_) (fun c_1 => ?_)
  · refine lv_aload_n hx hb dX2_fullShare_13 rfl (lv_at hl 0 rfl) ?_
    refine zm_get (v := .ref (am 5)) hx hb hts hi_X2_fullShare hown hw hm 4 (by decide) hf_X2_fullShare_23 rfl dX2_fullShare_14 ?_
    refine lv_iload_n hx hb dX2_fullShare_17 rfl (lv_at hl 1 rfl) ?_
    refine zm_ldSZ hx hb hw hm (by first | assumption | exact zis_7 (by assumption) | exact zin_7 (by assumption) | exact zin_1 (by assumption)) dX2_fullShare_18 ?_
    refine lv_if_ne (tgt := 26) hx hb dX2_fullShare_19 (by decide) (fun c_2 => ?_) (fun c_2 => ?_)
    · refine lv_iconst (v := 0) hx hb dX2_fullShare_26 (by decide) ?_
      refine zm_putT hx hb hts hi_X2_fullShare hown hw hm hf_X2_fullShare_48 dX2_fullShare_27 (fun f_3 H locs hm hw => ?_)
      refine lv_aload_n hx hb dX2_fullShare_30 rfl (lv_at hl 0 rfl) ?_
      refine zm_get (v := .int 0) hx hb hts hi_X2_fullShare hown hw hm 12 (by decide) hf_X2_fullShare_48 rfl dX2_fullShare_31 ?_
      refine lv_if_le (tgt := 41) hx hb dX2_fullShare_34 (by decide) (fun c_4 => ?_) (fun c_4 => absurd (by decide) c_4)
      refine lv_aload_n hx hb dX2_fullShare_41 rfl (lv_at hl 0 rfl) ?_
      refine zm_get (v := .ref (am 6)) hx hb hts hi_X2_fullShare hown hw hm 5 (by decide) hf_X2_fullShare_26 rfl dX2_fullShare_42 ?_
      refine lv_iload_n hx hb dX2_fullShare_45 rfl (lv_at hl 1 rfl) ?_
      refine zm_ldPL hx hb hw hm (by first | assumption | exact zis_7 (by assumption) | exact zin_7 (by assumption) | exact zin_1 (by assumption)) dX2_fullShare_46 ?_
      refine lv_i2f hx hb dX2_fullShare_47 ?_
      refine lv_aload_n hx hb dX2_fullShare_48 rfl (lv_at hl 0 rfl) ?_
      refine zm_get (v := .ref (am 5)) hx hb hts hi_X2_fullShare hown hw hm 4 (by decide) hf_X2_fullShare_23 rfl dX2_fullShare_49 ?_
      refine lv_iload_n hx hb dX2_fullShare_52 rfl (lv_at hl 1 rfl) ?_
      refine zm_ldSZ hx hb hw hm (by first | assumption | exact zis_7 (by assumption) | exact zin_7 (by assumption) | exact zin_1 (by assumption)) dX2_fullShare_53 ?_
      refine lv_i2f hx hb dX2_fullShare_54 ?_
      refine lv_fdiv hx hb dX2_fullShare_55 (zWin_nan (zI_win hI (by assumption)) (by assumption)) ?_
      have ho : (o_fullShare σ p0) = (0, (FP.fdiv (FP.i2f (zPL σ (Int32.toNatClampNeg p0))) (FP.i2f (zSZ σ (Int32.toNatClampNeg p0)))), σ) := by unfold o_fullShare; first | exact (if_pos (show (zis σ p0 = true) from by assumption)).trans (if_neg (show ¬ (zSZ σ (Int32.toNatClampNeg p0) = 0) from by assumption))
      exact z_fret hx hb hr hlocks hw (Nat.le_of_ble_eq_true rfl) (Nat.le_of_ble_eq_true rfl) dX2_fullShare_56 ⟨rfl, _, _, rfl, by rw [ho]; exact hm, by rw [ho]; exact fun _ => rfl⟩
    · refine lv_iconst (v := 2) hx hb dX2_fullShare_22 (by decide) ?_
      refine lv_goto (tgt := 27) hx hb dX2_fullShare_23 (by decide) ?_
      refine zm_putT hx hb hts hi_X2_fullShare hown hw hm hf_X2_fullShare_48 dX2_fullShare_27 (fun f_5 H locs hm hw => ?_)
      refine lv_aload_n hx hb dX2_fullShare_30 rfl (lv_at hl 0 rfl) ?_
      refine zm_get (v := .int 2) hx hb hts hi_X2_fullShare hown hw hm 12 (by decide) hf_X2_fullShare_48 rfl dX2_fullShare_31 ?_
      refine lv_if_le (tgt := 41) hx hb dX2_fullShare_34 (by decide) (fun c_6 => absurd c_6 (by decide)) (fun c_6 => ?_)
      refine lv_fconst0 hx hb dX2_fullShare_37 ?_
      refine lv_goto (tgt := 56) hx hb dX2_fullShare_38 (by decide) ?_
      have ho : (o_fullShare σ p0) = (2, 0, σ) := by unfold o_fullShare; first | exact (if_pos (show (zis σ p0 = true) from by assumption)).trans (if_pos (show (zSZ σ (Int32.toNatClampNeg p0) = 0) from by assumption))
      exact z_fret hx hb hr hlocks hw (Nat.le_of_ble_eq_true rfl) (Nat.le_of_ble_eq_true rfl) dX2_fullShare_56 ⟨rfl, _, _, rfl, by rw [ho]; exact hm, by rw [ho]; exact fun h => absurd (show (2 : Int32) = 0 from h) (by decide)⟩
  · refine lv_iconst (v := 1) hx hb dX2_fullShare_9 (by decide) ?_
    refine lv_goto (tgt := 27) hx hb dX2_fullShare_10 (by decide) ?_
    refine zm_putT hx hb hts hi_X2_fullShare hown hw hm hf_X2_fullShare_48 dX2_fullShare_27 (fun f_7 H locs hm hw => ?_)
    refine lv_aload_n hx hb dX2_fullShare_30 rfl (lv_at hl 0 rfl) ?_
    refine zm_get (v := .int 1) hx hb hts hi_X2_fullShare hown hw hm 12 (by decide) hf_X2_fullShare_48 rfl dX2_fullShare_31 ?_
    refine lv_if_le (tgt := 41) hx hb dX2_fullShare_34 (by decide) (fun c_8 => absurd c_8 (by decide)) (fun c_8 => ?_)
    refine lv_fconst0 hx hb dX2_fullShare_37 ?_
    refine lv_goto (tgt := 56) hx hb dX2_fullShare_38 (by decide) ?_
    have ho : (o_fullShare σ p0) = (1, 0, σ) := by unfold o_fullShare; first | exact if_neg (show ¬ (zis σ p0 = true) from by assumption)
    exact z_fret hx hb hr hlocks hw (Nat.le_of_ble_eq_true rfl) (Nat.le_of_ble_eq_true rfl) dX2_fullShare_56 ⟨rfl, _, _, rfl, by rw [ho]; exact hm, by rw [ho]; exact fun h => absurd (show (1 : Int32) = 0 from h) (by decide)⟩

def o_isTrue (σ : ZS) : Int32 × Int32 × ZS := (0, 1, σ)

theorem hi_X2_isTrue : ∀ w ∈ wsX20, w ∈ wsX2_isTrue := by decide +kernel
theorem hf_X2_isTrue_48 : Cond.fieldLink RX2 48 (TX2 12).1 (TX2 12).2.1 (TX2 12).2.2.1 ∈ wsX2_isTrue := by decide +kernel
set_option maxRecDepth 100000 in
set_option maxHeartbeats 4000000 in
theorem c_X2_isTrue (l : Launch) (g : zG) (am : Nat → Nat) (L : List Nat) (f : Nat → va_E) (σ : ZS) (bs : Nat → Int64) (th : Int32) (hm : zM g am f σ bs th L f) {ln : Nat → Nat} {kd : Nat → Int32} (hI : zI σ ln kd) : zC l yX2_isTrue wsX2_isTrue { frames := 0, cells := 0, slots := 0, locals := 0 } 0 0 g [.ref (am 0)] L f (fun r L1 f1 => L = L1 ∧ ∃ (b9 : Int32) (bs1 : Nat → Int64), some (.int b9) = r ∧ zM g am f (o_isTrue σ).2.2 bs1 (o_isTrue σ).1 L f1 ∧ ((o_isTrue σ).1 = 0 → b9 = (o_isTrue σ).2.1)) zNo := by
  refine z_ofW (cc := cX2_isTrue) (maxL := 1) (ret := (some .boolean)) (by decide) rfl (Nat.le_of_ble_eq_true rfl) ?_
  intro p e s m args below meth c ls A hx hb hr hts hown hlocks hml htab hin hw hX hl
  have hl : lv_has ls 1 [(0, .ref (am 0))] := hl
  have hown : s.vm.findClass RX2 = some m.cls := hown
  refine lv_aload_n hx hb dX2_isTrue_0 rfl (lv_at hl 0 rfl) ?_
  refine lv_iconst (v := 0) hx hb dX2_isTrue_1 (by decide) ?_
  refine zm_putT hx hb hts hi_X2_isTrue hown hw hm hf_X2_isTrue_48 dX2_isTrue_2 (fun f_1 H locs hm hw => ?_)
  refine lv_iconst (v := 1) hx hb dX2_isTrue_5 (by decide) ?_
  have ho : (o_isTrue σ) = (0, 1, σ) := rfl
  exact z_zret hx hb hr hlocks rfl hw (Nat.le_of_ble_eq_true rfl) (Nat.le_of_ble_eq_true rfl) dX2_isTrue_6 ⟨rfl, _, _, rfl, by rw [ho]; exact hm, by rw [ho]; exact fun _ => rfl⟩
