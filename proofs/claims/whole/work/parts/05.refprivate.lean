theorem hi_X2_thrown : ∀ w ∈ wsX20, w ∈ wsX2_thrown := by decide +kernel
theorem hf_X2_thrown_48 : Cond.fieldLink RX2 48 (TX2 12).1 (TX2 12).2.1 (TX2 12).2.2.1 ∈ wsX2_thrown := by decide +kernel
set_option maxRecDepth 100000 in
set_option maxHeartbeats 4000000 in
theorem c_X2_thrown (l : Launch) (g : zG) (am : Nat → Nat) (L : List Nat) (f : Nat → va_E) (σ : ZS) (bs : Nat → Int64) (th : Int32) (hm : zM g am f σ bs th L f) : zC l yX2_thrown wsX2_thrown { frames := 0, cells := 0, slots := 0, locals := 0 } 0 0 g [.ref (am 0)] L f (fun r L1 f1 => some (.int th) = r ∧ L = L1 ∧ f = f1) zNo := by
  refine z_ofW (cc := cX2_thrown) (maxL := 1) (ret := (some .int)) (by decide) rfl (Nat.le_of_ble_eq_true rfl) ?_
  intro p e s m args below meth c ls A hx hb hr hts hown hlocks hml htab hin hw hX hl
  have hl : lv_has ls 1 [(0, .ref (am 0))] := hl
  have hown : s.vm.findClass RX2 = some m.cls := hown
  refine lv_aload_n hx hb dX2_thrown_0 rfl (lv_at hl 0 rfl) ?_
  refine zm_get (v := .int th) hx hb hts hi_X2_thrown hown hw hm 12 (by decide) hf_X2_thrown_48 rfl dX2_thrown_1 ?_
  exact z_iret hx hb hr hlocks hw (Nat.le_of_ble_eq_true rfl) (Nat.le_of_ble_eq_true rfl) dX2_thrown_4 ⟨rfl, rfl, rfl⟩

set_option maxRecDepth 100000 in
set_option maxHeartbeats 4000000 in
theorem c_X2_in (l : Launch) (g : zG) (L : List Nat) (f : Nat → va_E) (p0 : Int32) (p1 : Int32) (p2 : Int32) : zC l yX2_in wsX2_in { frames := 0, cells := 0, slots := 0, locals := 0 } 0 0 g [.int p0, .int p1, .int p2] L f (fun r L1 f1 => some (.int (zb (zin p0 p1 p2))) = r ∧ L = L1 ∧ f = f1) zNo := by
  refine z_ofW (cc := cX2_in) (maxL := 3) (ret := (some .boolean)) (by decide) rfl (Nat.le_of_ble_eq_true rfl) ?_
  intro p e s m args below meth c ls A hx hb hr hts hown hlocks hml htab hin hw hX hl
  have hl : lv_has ls 3 [(0, .int p0), (1, .int p1), (2, .int p2)] := hl
  have hown : s.vm.findClass RX2 = some m.cls := hown
  refine lv_iload_n hx hb dX2_in_0 rfl (lv_at hl 0 rfl) ?_
  refine lv_iload_n hx hb dX2_in_1 rfl (lv_at hl 1 rfl) ?_
  refine lv_icmp_lt (tgt := 14) hx hb dX2_in_2 (by decide) (fun c_1 => ?_) (fun c_1 => ?_)
  · refine lv_iconst (v := 0) hx hb dX2_in_14 (by decide) ?_
    exact z_zret hx hb hr hlocks rfl hw (Nat.le_of_ble_eq_true rfl) (Nat.le_of_ble_eq_true rfl) dX2_in_15 ⟨congrArg (fun b => some (Value.int (zb b))) (zin_f (Or.inl c_1)), rfl, rfl⟩
  · refine lv_iload_n hx hb dX2_in_5 rfl (lv_at hl 0 rfl) ?_
    refine lv_iload_n hx hb dX2_in_6 rfl (lv_at hl 2 rfl) ?_
    refine lv_icmp_gt (tgt := 14) hx hb dX2_in_7 (by decide) (fun c_2 => ?_) (fun c_2 => ?_)
    · refine lv_iconst (v := 0) hx hb dX2_in_14 (by decide) ?_
      exact z_zret hx hb hr hlocks rfl hw (Nat.le_of_ble_eq_true rfl) (Nat.le_of_ble_eq_true rfl) dX2_in_15 ⟨congrArg (fun b => some (Value.int (zb b))) (zin_f (Or.inr c_2)), rfl, rfl⟩
    · refine lv_iconst (v := 1) hx hb dX2_in_10 (by decide) ?_
      refine lv_goto (tgt := 15) hx hb dX2_in_11 (by decide) ?_
      exact z_zret hx hb hr hlocks rfl hw (Nat.le_of_ble_eq_true rfl) (Nat.le_of_ble_eq_true rfl) dX2_in_15 ⟨congrArg (fun b => some (Value.int (zb b))) (zin_t.mpr ⟨Int32.not_lt.mp c_1, Int32.not_lt.mp c_2⟩), rfl, rfl⟩

theorem hi_X2_is : ∀ w ∈ wsX20, w ∈ wsX2_is := by decide +kernel
theorem hf_X2_is_13 : Cond.fieldLink RX2 13 (TX2 1).1 (TX2 1).2.1 (TX2 1).2.2.1 ∈ wsX2_is := by decide +kernel
set_option maxRecDepth 100000 in
set_option maxHeartbeats 4000000 in
theorem c_X2_is (l : Launch) (g : zG) (am : Nat → Nat) (L : List Nat) (f : Nat → va_E) (σ : ZS) (bs : Nat → Int64) (th : Int32) (p0 : Int32) (hm : zM g am f σ bs th L f) : zC l yX2_is wsX2_is { frames := 1, cells := 0, slots := 0, locals := 22 } 0 0 g [.ref (am 0), .int p0] L f (fun r L1 f1 => some (.int (zb (zis σ p0))) = r ∧ L = L1 ∧ f = f1) zNo := by
  refine z_ofW (cc := cX2_is) (maxL := 2) (ret := (some .boolean)) (by decide) rfl (Nat.le_of_ble_eq_true rfl) ?_
  intro p e s m args below meth c ls A hx hb hr hts hown hlocks hml htab hin hw hX hl
  have hl : lv_has ls 2 [(0, .ref (am 0)), (1, .int p0)] := hl
  have hown : s.vm.findClass RX2 = some m.cls := hown
  refine lv_iload_n hx hb dX2_is_0 rfl (lv_at hl 1 rfl) ?_
  refine lv_iconst (v := 0) hx hb dX2_is_1 (by decide) ?_
  refine lv_bipush (v := 7) hx hb dX2_is_2 (by decide) ?_
  refine z_callS (As := [.int p0, .int 0, .int 7]) (rest := []) ⟨hx, hb, hml, hown, hts⟩ hw hX (c_X2_in l g L f p0 0 7) (va_cwS 3 hts gX2_is_X2_in rfl rfl rfl (by decide +kernel) ⟨(Nat.le_of_ble_eq_true rfl), (Nat.le_of_ble_eq_true rfl)⟩) rfl hl.1 rfl (Nat.le_of_ble_eq_true rfl) dX2_is_4 ⟨(Nat.le_of_ble_eq_true rfl), (Nat.le_of_ble_eq_true rfl)⟩ (fun _ _ _ _ _ _ _ hp => False.elim hp) (fun r9 L9 f9 H locs hp hw => ?_)
  obtain ⟨rfl, rfl, rfl⟩ := hp
  refine W.eq (g2 := F0 m 7 ls [.int (zb (zin p0 0 7))]) rfl ?_
  refine zr_beq hx hb dX2_is_7 (tgt := 23) (by decide) (fun c_1 => ?_) (fun c_1 => ?_)
  · refine lv_iconst (v := 0) hx hb dX2_is_23 (by decide) ?_
    exact z_zret hx hb hr hlocks rfl hw (Nat.le_of_ble_eq_true rfl) (Nat.le_of_ble_eq_true rfl) dX2_is_24 ⟨congrArg (fun b => some (Value.int (zb b))) (Bool.eq_false_iff.mpr (fun h => c_1 (zin_t.mpr (zis_t.mp h).1))), rfl, rfl⟩
  · refine lv_aload_n hx hb dX2_is_10 rfl (lv_at hl 0 rfl) ?_
    refine zm_get (v := .ref (am 2)) hx hb hts hi_X2_is hown hw hm 1 (by decide) hf_X2_is_13 rfl dX2_is_11 ?_
    refine lv_iload_n hx hb dX2_is_14 rfl (lv_at hl 1 rfl) ?_
    refine zm_ldK hx hb hw hm (by first | assumption | exact zis_7 (by assumption) | exact zin_7 (by assumption) | exact zin_1 (by assumption)) dX2_is_15 ?_
    refine lv_if_eq (tgt := 23) hx hb dX2_is_16 (by decide) (fun c_2 => ?_) (fun c_2 => ?_)
    · refine lv_iconst (v := 0) hx hb dX2_is_23 (by decide) ?_
      exact z_zret hx hb hr hlocks rfl hw (Nat.le_of_ble_eq_true rfl) (Nat.le_of_ble_eq_true rfl) dX2_is_24 ⟨congrArg (fun b => some (Value.int (zb b))) (Bool.eq_false_iff.mpr (fun h => (zis_t.mp h).2 c_2)), rfl, rfl⟩
    · refine lv_iconst (v := 1) hx hb dX2_is_19 (by decide) ?_
      refine lv_goto (tgt := 24) hx hb dX2_is_20 (by decide) ?_
      exact z_zret hx hb hr hlocks rfl hw (Nat.le_of_ble_eq_true rfl) (Nat.le_of_ble_eq_true rfl) dX2_is_24 ⟨congrArg (fun b => some (Value.int (zb b))) (zis_t.mpr ⟨zin_t.mp c_1, c_2⟩), rfl, rfl⟩

theorem hi_X2_isWindow : ∀ w ∈ wsX20, w ∈ wsX2_isWindow := by decide +kernel
theorem hf_X2_isWindow_48 : Cond.fieldLink RX2 48 (TX2 12).1 (TX2 12).2.1 (TX2 12).2.2.1 ∈ wsX2_isWindow := by decide +kernel
set_option maxRecDepth 100000 in
set_option maxHeartbeats 4000000 in
theorem c_X2_isWindow (l : Launch) (g : zG) (am : Nat → Nat) (L : List Nat) (f : Nat → va_E) (σ : ZS) (bs : Nat → Int64) (th : Int32) (p0 : Int32) (hm : zM g am f σ bs th L f) : zC l yX2_isWindow wsX2_isWindow { frames := 2, cells := 0, slots := 0, locals := 43 } 0 0 g [.ref (am 0), .int p0] L f (fun r L1 f1 => (zis σ p0 = true ∧ some (.int 1) = r ∧ L = L1 ∧ zM g am f σ bs 0 L f1) ∨ (¬ zis σ p0 = true ∧ some (.int 0) = r ∧ L = L1 ∧ zM g am f σ bs 1 L f1)) zNo := by
  refine z_ofW (cc := cX2_isWindow) (maxL := 2) (ret := (some .boolean)) (by decide) rfl (Nat.le_of_ble_eq_true rfl) ?_
  intro p e s m args below meth c ls A hx hb hr hts hown hlocks hml htab hin hw hX hl
  have hl : lv_has ls 2 [(0, .ref (am 0)), (1, .int p0)] := hl
  have hown : s.vm.findClass RX2 = some m.cls := hown
  refine lv_aload_n hx hb dX2_isWindow_0 rfl (lv_at hl 0 rfl) ?_
  refine lv_aload_n hx hb dX2_isWindow_1 rfl (lv_at hl 0 rfl) ?_
  refine lv_iload_n hx hb dX2_isWindow_2 rfl (lv_at hl 1 rfl) ?_
  refine z_callV (As := [.int p0]) (rest := [.ref (am 0)]) ⟨hx, hb, hml, hown, hts⟩ hw hX (hm.1.1 0 (by decide)) rfl (c_X2_is l g am L f σ bs th p0 hm.rf) (cwV 1 hts gX2_isWindow_X2_is rfl rfl rfl (by decide +kernel) ⟨(Nat.le_of_ble_eq_true rfl), (Nat.le_of_ble_eq_true rfl)⟩) rfl hl.1 rfl (Nat.le_of_ble_eq_true rfl) dX2_isWindow_3 ⟨(Nat.le_of_ble_eq_true rfl), (Nat.le_of_ble_eq_true rfl)⟩ (fun _ _ _ _ _ _ _ hp => False.elim hp) (fun r9 L9 f9 H locs hp hw => ?_)
  obtain ⟨rfl, rfl, rfl⟩ := hp
  refine W.eq (g2 := F0 m 6 ls [.int (zb (zis σ p0)), .ref (am 0)]) rfl ?_
  refine zr_beq hx hb dX2_isWindow_6 (tgt := 13) (by decide) (fun c_1 => ?_) (fun c_1 => ?_)
  · refine lv_iconst (v := 1) hx hb dX2_isWindow_13 (by decide) ?_
    refine zm_putT hx hb hts hi_X2_isWindow hown hw hm hf_X2_isWindow_48 dX2_isWindow_14 (fun f_2 H locs hm hw => ?_)
    refine lv_aload_n hx hb dX2_isWindow_17 rfl (lv_at hl 0 rfl) ?_
    refine zm_get (v := .int 1) hx hb hts hi_X2_isWindow hown hw hm 12 (by decide) hf_X2_isWindow_48 rfl dX2_isWindow_18 ?_
    refine lv_if_ne (tgt := 28) hx hb dX2_isWindow_21 (by decide) (fun c_3 => ?_) (fun c_3 => absurd c_3 (by decide))
    refine lv_iconst (v := 0) hx hb dX2_isWindow_28 (by decide) ?_
    exact z_zret hx hb hr hlocks rfl hw (Nat.le_of_ble_eq_true rfl) (Nat.le_of_ble_eq_true rfl) dX2_isWindow_29 (Or.inr ⟨c_1, rfl, rfl, hm⟩)
  · refine lv_iconst (v := 0) hx hb dX2_isWindow_9 (by decide) ?_
    refine lv_goto (tgt := 14) hx hb dX2_isWindow_10 (by decide) ?_
    refine zm_putT hx hb hts hi_X2_isWindow hown hw hm hf_X2_isWindow_48 dX2_isWindow_14 (fun f_4 H locs hm hw => ?_)
    refine lv_aload_n hx hb dX2_isWindow_17 rfl (lv_at hl 0 rfl) ?_
    refine zm_get (v := .int 0) hx hb hts hi_X2_isWindow hown hw hm 12 (by decide) hf_X2_isWindow_48 rfl dX2_isWindow_18 ?_
    refine lv_if_ne (tgt := 28) hx hb dX2_isWindow_21 (by decide) (fun c_5 => absurd (by decide) c_5) (fun c_5 => ?_)
    refine lv_iconst (v := 1) hx hb dX2_isWindow_24 (by decide) ?_
    refine lv_goto (tgt := 29) hx hb dX2_isWindow_25 (by decide) ?_
    exact z_zret hx hb hr hlocks rfl hw (Nat.le_of_ble_eq_true rfl) (Nat.le_of_ble_eq_true rfl) dX2_isWindow_29 (Or.inl ⟨c_1, rfl, rfl, hm⟩)

theorem hi_X2_isPlace : ∀ w ∈ wsX20, w ∈ wsX2_isPlace := by decide +kernel
theorem hf_X2_isPlace_42 : Cond.fieldLink RX2 42 (TX2 10).1 (TX2 10).2.1 (TX2 10).2.2.1 ∈ wsX2_isPlace := by decide +kernel
theorem hf_X2_isPlace_48 : Cond.fieldLink RX2 48 (TX2 12).1 (TX2 12).2.1 (TX2 12).2.2.1 ∈ wsX2_isPlace := by decide +kernel
set_option maxRecDepth 100000 in
set_option maxHeartbeats 4000000 in
theorem c_X2_isPlace (l : Launch) (g : zG) (am : Nat → Nat) (L : List Nat) (f : Nat → va_E) (σ : ZS) (bs : Nat → Int64) (th : Int32) (p0 : Int32) (p1 : Int32) (hm : zM g am f σ bs th L f) : zC l yX2_isPlace wsX2_isPlace { frames := 1, cells := 0, slots := 0, locals := 22 } 0 0 g [.ref (am 0), .int p0, .int p1] L f (fun r L1 f1 => ((zin p0 0 1 = true ∧ zin p1 0 (zRL σ (Int32.toNatClampNeg p0) - 1) = true) ∧ some (.int 1) = r ∧ L = L1 ∧ zM g am f σ bs 0 L f1) ∨ (¬ (zin p0 0 1 = true ∧ zin p1 0 (zRL σ (Int32.toNatClampNeg p0) - 1) = true) ∧ some (.int 0) = r ∧ L = L1 ∧ zM g am f σ bs 1 L f1)) zNo := by
  refine z_ofW (cc := cX2_isPlace) (maxL := 3) (ret := (some .boolean)) (by decide) rfl (Nat.le_of_ble_eq_true rfl) ?_
  intro p e s m args below meth c ls A hx hb hr hts hown hlocks hml htab hin hw hX hl
  have hl : lv_has ls 3 [(0, .ref (am 0)), (1, .int p0), (2, .int p1)] := hl
  have hown : s.vm.findClass RX2 = some m.cls := hown
  refine lv_aload_n hx hb dX2_isPlace_0 rfl (lv_at hl 0 rfl) ?_
  refine lv_iload_n hx hb dX2_isPlace_1 rfl (lv_at hl 1 rfl) ?_
  refine lv_iconst (v := 0) hx hb dX2_isPlace_2 (by decide) ?_
  refine lv_iconst (v := 1) hx hb dX2_isPlace_3 (by decide) ?_
  refine z_callS (As := [.int p0, .int 0, .int 1]) (rest := [.ref (am 0)]) ⟨hx, hb, hml, hown, hts⟩ hw hX (c_X2_in l g L f p0 0 1) (va_cwS 3 hts gX2_isPlace_X2_in rfl rfl rfl (by decide +kernel) ⟨(Nat.le_of_ble_eq_true rfl), (Nat.le_of_ble_eq_true rfl)⟩) rfl hl.1 rfl (Nat.le_of_ble_eq_true rfl) dX2_isPlace_4 ⟨(Nat.le_of_ble_eq_true rfl), (Nat.le_of_ble_eq_true rfl)⟩ (fun _ _ _ _ _ _ _ hp => False.elim hp) (fun r9 L9 f9 H locs hp hw => ?_)
  obtain ⟨rfl, rfl, rfl⟩ := hp
  refine W.eq (g2 := F0 m 7 ls [.int (zb (zin p0 0 1)), .ref (am 0)]) rfl ?_
  refine zr_beq hx hb dX2_isPlace_7 (tgt := 30) (by decide) (fun c_1 => ?_) (fun c_1 => ?_)
  · refine lv_iconst (v := 1) hx hb dX2_isPlace_30 (by decide) ?_
    refine zm_putT hx hb hts hi_X2_isPlace hown hw hm hf_X2_isPlace_48 dX2_isPlace_31 (fun f_2 H locs hm hw => ?_)
    refine lv_aload_n hx hb dX2_isPlace_34 rfl (lv_at hl 0 rfl) ?_
    refine zm_get (v := .int 1) hx hb hts hi_X2_isPlace hown hw hm 12 (by decide) hf_X2_isPlace_48 rfl dX2_isPlace_35 ?_
    refine lv_if_ne (tgt := 45) hx hb dX2_isPlace_38 (by decide) (fun c_3 => ?_) (fun c_3 => absurd c_3 (by decide))
    refine lv_iconst (v := 0) hx hb dX2_isPlace_45 (by decide) ?_
    exact z_zret hx hb hr hlocks rfl hw (Nat.le_of_ble_eq_true rfl) (Nat.le_of_ble_eq_true rfl) dX2_isPlace_46 (Or.inr ⟨(fun h => c_1 h.1), rfl, rfl, hm⟩)
  · refine lv_iload_n hx hb dX2_isPlace_10 rfl (lv_at hl 2 rfl) ?_
    refine lv_iconst (v := 0) hx hb dX2_isPlace_11 (by decide) ?_
    refine lv_aload_n hx hb dX2_isPlace_12 rfl (lv_at hl 0 rfl) ?_
    refine zm_get (v := .ref (am 11)) hx hb hts hi_X2_isPlace hown hw hm 10 (by decide) hf_X2_isPlace_42 rfl dX2_isPlace_13 ?_
    refine lv_iload_n hx hb dX2_isPlace_16 rfl (lv_at hl 1 rfl) ?_
    refine zm_ldRL hx hb hw hm (by first | assumption | exact zis_7 (by assumption) | exact zin_7 (by assumption) | exact zin_1 (by assumption)) dX2_isPlace_17 ?_
    refine lv_iconst (v := 1) hx hb dX2_isPlace_18 (by decide) ?_
    refine lv_isub hx hb dX2_isPlace_19 ?_
    refine z_callS (As := [.int p1, .int 0, .int ((zRL σ (Int32.toNatClampNeg p0)) - 1)]) (rest := [.ref (am 0)]) ⟨hx, hb, hml, hown, hts⟩ hw hX (c_X2_in l g L f p1 0 ((zRL σ (Int32.toNatClampNeg p0)) - 1)) (va_cwS 3 hts gX2_isPlace_X2_in rfl rfl rfl (by decide +kernel) ⟨(Nat.le_of_ble_eq_true rfl), (Nat.le_of_ble_eq_true rfl)⟩) rfl hl.1 rfl (Nat.le_of_ble_eq_true rfl) dX2_isPlace_20 ⟨(Nat.le_of_ble_eq_true rfl), (Nat.le_of_ble_eq_true rfl)⟩ (fun _ _ _ _ _ _ _ hp => False.elim hp) (fun r9 L9 f9 H locs hp hw => ?_)
    obtain ⟨rfl, rfl, rfl⟩ := hp
    refine W.eq (g2 := F0 m 23 ls [.int (zb (zin p1 0 ((zRL σ (Int32.toNatClampNeg p0)) - 1))), .ref (am 0)]) rfl ?_
    refine zr_beq hx hb dX2_isPlace_23 (tgt := 30) (by decide) (fun c_4 => ?_) (fun c_4 => ?_)
    · refine lv_iconst (v := 1) hx hb dX2_isPlace_30 (by decide) ?_
      refine zm_putT hx hb hts hi_X2_isPlace hown hw hm hf_X2_isPlace_48 dX2_isPlace_31 (fun f_5 H locs hm hw => ?_)
      refine lv_aload_n hx hb dX2_isPlace_34 rfl (lv_at hl 0 rfl) ?_
      refine zm_get (v := .int 1) hx hb hts hi_X2_isPlace hown hw hm 12 (by decide) hf_X2_isPlace_48 rfl dX2_isPlace_35 ?_
      refine lv_if_ne (tgt := 45) hx hb dX2_isPlace_38 (by decide) (fun c_6 => ?_) (fun c_6 => absurd c_6 (by decide))
      refine lv_iconst (v := 0) hx hb dX2_isPlace_45 (by decide) ?_
      exact z_zret hx hb hr hlocks rfl hw (Nat.le_of_ble_eq_true rfl) (Nat.le_of_ble_eq_true rfl) dX2_isPlace_46 (Or.inr ⟨(fun h => c_4 h.2), rfl, rfl, hm⟩)
    · refine lv_iconst (v := 0) hx hb dX2_isPlace_26 (by decide) ?_
      refine lv_goto (tgt := 31) hx hb dX2_isPlace_27 (by decide) ?_
      refine zm_putT hx hb hts hi_X2_isPlace hown hw hm hf_X2_isPlace_48 dX2_isPlace_31 (fun f_7 H locs hm hw => ?_)
      refine lv_aload_n hx hb dX2_isPlace_34 rfl (lv_at hl 0 rfl) ?_
      refine zm_get (v := .int 0) hx hb hts hi_X2_isPlace hown hw hm 12 (by decide) hf_X2_isPlace_48 rfl dX2_isPlace_35 ?_
      refine lv_if_ne (tgt := 45) hx hb dX2_isPlace_38 (by decide) (fun c_8 => absurd (by decide) c_8) (fun c_8 => ?_)
      refine lv_iconst (v := 1) hx hb dX2_isPlace_41 (by decide) ?_
      refine lv_goto (tgt := 46) hx hb dX2_isPlace_42 (by decide) ?_
      exact z_zret hx hb hr hlocks rfl hw (Nat.le_of_ble_eq_true rfl) (Nat.le_of_ble_eq_true rfl) dX2_isPlace_46 (Or.inl ⟨⟨c_1, c_4⟩, rfl, rfl, hm⟩)

/-- place, end and mark of a window anew -/
def zStands (σ : ZS) (i : Nat) (pl en : Int32) : ZS := zsMK (zsEN (zsPL σ (upd (zPL σ) i pl)) (upd (zEN σ) i en)) (upd (zMK σ) i (-1))
def zBecomes (σ : ZS) (i : Nat) (k si fr sz rd : Int32) : ZS := zsRD (zsMK (zsEN (zsPL (zsSZ (zsFR (zsSI (zsK σ (upd (zK σ) i k)) (upd (zSI σ) i si)) (upd (zFR σ) i fr)) (upd (zSZ σ) i sz)) (upd (zPL σ) i 0)) (upd (zEN σ) i sz)) (upd (zMK σ) i (-1))) (upd (zRD σ) i (vp_nar .boolean rd))
/-- a value, cut to a kind -/
def zcut (k : Int32) (v : Int64) : Int64 := if k = 105 then v.toInt32.toInt64 else if k = 99 then v &&& 255 else if k = 115 then v.toInt32.toInt16.toInt32.toInt64 else v
/-- where the value at a place of window i lies -/
def zAt (σ : ZS) (i : Nat) (at9 : Int32) : Int32 := 64 * zSI σ i + zFR σ i + at9
def zVal (σ : ZS) (i : Nat) (at9 : Int32) : Int64 := zST σ (Int32.toNatClampNeg (zAt σ i at9))
def zLay (σ : ZS) (i : Nat) (at9 : Int32) (v : Int64) : ZS := zsST σ (vp_updL (zST σ) (Int32.toNatClampNeg (zAt σ i at9)) (zcut (zK σ i) v))

theorem hi_X2_stands : ∀ w ∈ wsX20, w ∈ wsX2_stands := by decide +kernel
theorem hf_X2_stands_26 : Cond.fieldLink RX2 26 (TX2 5).1 (TX2 5).2.1 (TX2 5).2.2.1 ∈ wsX2_stands := by decide +kernel
theorem hf_X2_stands_29 : Cond.fieldLink RX2 29 (TX2 6).1 (TX2 6).2.1 (TX2 6).2.2.1 ∈ wsX2_stands := by decide +kernel
theorem hf_X2_stands_32 : Cond.fieldLink RX2 32 (TX2 7).1 (TX2 7).2.1 (TX2 7).2.2.1 ∈ wsX2_stands := by decide +kernel
set_option maxRecDepth 100000 in
set_option maxHeartbeats 4000000 in
theorem c_X2_stands (l : Launch) (g : zG) (am : Nat → Nat) (L : List Nat) (f : Nat → va_E) (σ : ZS) (bs : Nat → Int64) (th : Int32) (p0 : Int32) (p1 : Int32) (p2 : Int32) (hm : zM g am f σ bs th L f) (hi : vp_in p0 8) : zC l yX2_stands wsX2_stands { frames := 0, cells := 0, slots := 0, locals := 0 } 0 0 g [.ref (am 0), .int p0, .int p1, .int p2] L f (fun r L1 f1 => none = r ∧ L = L1 ∧ zM g am f (zStands σ (Int32.toNatClampNeg p0) p1 p2) bs th L f1) zNo := by
  refine z_ofW (cc := cX2_stands) (maxL := 4) (ret := none) (by decide) rfl (Nat.le_of_ble_eq_true rfl) ?_
  intro p e s m args below meth c ls A hx hb hr hts hown hlocks hml htab hin hw hX hl
  have hl : lv_has ls 4 [(0, .ref (am 0)), (1, .int p0), (2, .int p1), (3, .int p2)] := hl
  have hown : s.vm.findClass RX2 = some m.cls := hown
  refine lv_aload_n hx hb dX2_stands_0 rfl (lv_at hl 0 rfl) ?_
  refine zm_get (v := .ref (am 6)) hx hb hts hi_X2_stands hown hw hm 5 (by decide) hf_X2_stands_26 rfl dX2_stands_1 ?_
  refine lv_iload_n hx hb dX2_stands_4 rfl (lv_at hl 1 rfl) ?_
  refine lv_iload_n hx hb dX2_stands_5 rfl (lv_at hl 2 rfl) ?_
  refine zm_stPL hx hb hw hm (by first | assumption | exact zis_7 (by assumption) | exact zin_7 (by assumption) | exact zin_1 (by assumption)) dX2_stands_6 (fun f_1 H locs hm hw => ?_)
  refine lv_aload_n hx hb dX2_stands_7 rfl (lv_at hl 0 rfl) ?_
  refine zm_get (v := .ref (am 7)) hx hb hts hi_X2_stands hown hw hm 6 (by decide) hf_X2_stands_29 rfl dX2_stands_8 ?_
  refine lv_iload_n hx hb dX2_stands_11 rfl (lv_at hl 1 rfl) ?_
  refine lv_iload_n hx hb dX2_stands_12 rfl (lv_at hl 3 rfl) ?_
  refine zm_stEN hx hb hw hm (by first | assumption | exact zis_7 (by assumption) | exact zin_7 (by assumption) | exact zin_1 (by assumption)) dX2_stands_13 (fun f_2 H locs hm hw => ?_)
  refine lv_aload_n hx hb dX2_stands_14 rfl (lv_at hl 0 rfl) ?_
  refine zm_get (v := .ref (am 8)) hx hb hts hi_X2_stands hown hw hm 7 (by decide) hf_X2_stands_32 rfl dX2_stands_15 ?_
  refine lv_iload_n hx hb dX2_stands_18 rfl (lv_at hl 1 rfl) ?_
  refine lv_iconst (v := (-1)) hx hb dX2_stands_19 (by decide) ?_
  refine zm_stMK hx hb hw hm (by first | assumption | exact zis_7 (by assumption) | exact zin_7 (by assumption) | exact zin_1 (by assumption)) dX2_stands_20 (fun f_3 H locs hm hw => ?_)
  exact z_vret hx hb hr hlocks hw (Nat.le_of_ble_eq_true rfl) (Nat.le_of_ble_eq_true rfl) dX2_stands_21 ⟨rfl, rfl, hm⟩

theorem hi_X2_becomes : ∀ w ∈ wsX20, w ∈ wsX2_becomes := by decide +kernel
theorem hf_X2_becomes_13 : Cond.fieldLink RX2 13 (TX2 1).1 (TX2 1).2.1 (TX2 1).2.2.1 ∈ wsX2_becomes := by decide +kernel
theorem hf_X2_becomes_17 : Cond.fieldLink RX2 17 (TX2 2).1 (TX2 2).2.1 (TX2 2).2.2.1 ∈ wsX2_becomes := by decide +kernel
theorem hf_X2_becomes_20 : Cond.fieldLink RX2 20 (TX2 3).1 (TX2 3).2.1 (TX2 3).2.2.1 ∈ wsX2_becomes := by decide +kernel
theorem hf_X2_becomes_23 : Cond.fieldLink RX2 23 (TX2 4).1 (TX2 4).2.1 (TX2 4).2.2.1 ∈ wsX2_becomes := by decide +kernel
theorem hf_X2_becomes_26 : Cond.fieldLink RX2 26 (TX2 5).1 (TX2 5).2.1 (TX2 5).2.2.1 ∈ wsX2_becomes := by decide +kernel
theorem hf_X2_becomes_29 : Cond.fieldLink RX2 29 (TX2 6).1 (TX2 6).2.1 (TX2 6).2.2.1 ∈ wsX2_becomes := by decide +kernel
theorem hf_X2_becomes_32 : Cond.fieldLink RX2 32 (TX2 7).1 (TX2 7).2.1 (TX2 7).2.2.1 ∈ wsX2_becomes := by decide +kernel
theorem hf_X2_becomes_35 : Cond.fieldLink RX2 35 (TX2 8).1 (TX2 8).2.1 (TX2 8).2.2.1 ∈ wsX2_becomes := by decide +kernel
set_option maxRecDepth 100000 in
set_option maxHeartbeats 4000000 in
theorem c_X2_becomes (l : Launch) (g : zG) (am : Nat → Nat) (L : List Nat) (f : Nat → va_E) (σ : ZS) (bs : Nat → Int64) (th : Int32) (p0 : Int32) (p1 : Int32) (p2 : Int32) (p3 : Int32) (p4 : Int32) (p5 : Int32) (hm : zM g am f σ bs th L f) (hi : vp_in p0 8) : zC l yX2_becomes wsX2_becomes { frames := 0, cells := 0, slots := 0, locals := 0 } 0 0 g [.ref (am 0), .int p0, .int p1, .int p2, .int p3, .int p4, .int p5] L f (fun r L1 f1 => none = r ∧ L = L1 ∧ zM g am f (zBecomes σ (Int32.toNatClampNeg p0) p1 p2 p3 p4 p5) bs th L f1) zNo := by
  refine z_ofW (cc := cX2_becomes) (maxL := 7) (ret := none) (by decide) rfl (Nat.le_of_ble_eq_true rfl) ?_
  intro p e s m args below meth c ls A hx hb hr hts hown hlocks hml htab hin hw hX hl
  have hl : lv_has ls 7 [(0, .ref (am 0)), (1, .int p0), (2, .int p1), (3, .int p2), (4, .int p3), (5, .int p4), (6, .int p5)] := hl
  have hown : s.vm.findClass RX2 = some m.cls := hown
  refine lv_aload_n hx hb dX2_becomes_0 rfl (lv_at hl 0 rfl) ?_
  refine zm_get (v := .ref (am 2)) hx hb hts hi_X2_becomes hown hw hm 1 (by decide) hf_X2_becomes_13 rfl dX2_becomes_1 ?_
  refine lv_iload_n hx hb dX2_becomes_4 rfl (lv_at hl 1 rfl) ?_
  refine lv_iload_n hx hb dX2_becomes_5 rfl (lv_at hl 2 rfl) ?_
  refine zm_stK hx hb hw hm (by first | assumption | exact zis_7 (by assumption) | exact zin_7 (by assumption) | exact zin_1 (by assumption)) dX2_becomes_6 (fun f_1 H locs hm hw => ?_)
  refine lv_aload_n hx hb dX2_becomes_7 rfl (lv_at hl 0 rfl) ?_
  refine zm_get (v := .ref (am 3)) hx hb hts hi_X2_becomes hown hw hm 2 (by decide) hf_X2_becomes_17 rfl dX2_becomes_8 ?_
  refine lv_iload_n hx hb dX2_becomes_11 rfl (lv_at hl 1 rfl) ?_
  refine lv_iload_n hx hb dX2_becomes_12 rfl (lv_at hl 3 rfl) ?_
  refine zm_stSI hx hb hw hm (by first | assumption | exact zis_7 (by assumption) | exact zin_7 (by assumption) | exact zin_1 (by assumption)) dX2_becomes_13 (fun f_2 H locs hm hw => ?_)
  refine lv_aload_n hx hb dX2_becomes_14 rfl (lv_at hl 0 rfl) ?_
  refine zm_get (v := .ref (am 4)) hx hb hts hi_X2_becomes hown hw hm 3 (by decide) hf_X2_becomes_20 rfl dX2_becomes_15 ?_
  refine lv_iload_n hx hb dX2_becomes_18 rfl (lv_at hl 1 rfl) ?_
  refine lv_iload hx hb dX2_becomes_19 (lv_at hl 4 rfl) ?_
  refine zm_stFR hx hb hw hm (by first | assumption | exact zis_7 (by assumption) | exact zin_7 (by assumption) | exact zin_1 (by assumption)) dX2_becomes_21 (fun f_3 H locs hm hw => ?_)
  refine lv_aload_n hx hb dX2_becomes_22 rfl (lv_at hl 0 rfl) ?_
  refine zm_get (v := .ref (am 5)) hx hb hts hi_X2_becomes hown hw hm 4 (by decide) hf_X2_becomes_23 rfl dX2_becomes_23 ?_
  refine lv_iload_n hx hb dX2_becomes_26 rfl (lv_at hl 1 rfl) ?_
  refine lv_iload hx hb dX2_becomes_27 (lv_at hl 5 rfl) ?_
  refine zm_stSZ hx hb hw hm (by first | assumption | exact zis_7 (by assumption) | exact zin_7 (by assumption) | exact zin_1 (by assumption)) dX2_becomes_29 (fun f_4 H locs hm hw => ?_)
  refine lv_aload_n hx hb dX2_becomes_30 rfl (lv_at hl 0 rfl) ?_
  refine zm_get (v := .ref (am 6)) hx hb hts hi_X2_becomes hown hw hm 5 (by decide) hf_X2_becomes_26 rfl dX2_becomes_31 ?_
  refine lv_iload_n hx hb dX2_becomes_34 rfl (lv_at hl 1 rfl) ?_
  refine lv_iconst (v := 0) hx hb dX2_becomes_35 (by decide) ?_
  refine zm_stPL hx hb hw hm (by first | assumption | exact zis_7 (by assumption) | exact zin_7 (by assumption) | exact zin_1 (by assumption)) dX2_becomes_36 (fun f_5 H locs hm hw => ?_)
  refine lv_aload_n hx hb dX2_becomes_37 rfl (lv_at hl 0 rfl) ?_
  refine zm_get (v := .ref (am 7)) hx hb hts hi_X2_becomes hown hw hm 6 (by decide) hf_X2_becomes_29 rfl dX2_becomes_38 ?_
  refine lv_iload_n hx hb dX2_becomes_41 rfl (lv_at hl 1 rfl) ?_
  refine lv_iload hx hb dX2_becomes_42 (lv_at hl 5 rfl) ?_
  refine zm_stEN hx hb hw hm (by first | assumption | exact zis_7 (by assumption) | exact zin_7 (by assumption) | exact zin_1 (by assumption)) dX2_becomes_44 (fun f_6 H locs hm hw => ?_)
  refine lv_aload_n hx hb dX2_becomes_45 rfl (lv_at hl 0 rfl) ?_
  refine zm_get (v := .ref (am 8)) hx hb hts hi_X2_becomes hown hw hm 7 (by decide) hf_X2_becomes_32 rfl dX2_becomes_46 ?_
  refine lv_iload_n hx hb dX2_becomes_49 rfl (lv_at hl 1 rfl) ?_
  refine lv_iconst (v := (-1)) hx hb dX2_becomes_50 (by decide) ?_
  refine zm_stMK hx hb hw hm (by first | assumption | exact zis_7 (by assumption) | exact zin_7 (by assumption) | exact zin_1 (by assumption)) dX2_becomes_51 (fun f_7 H locs hm hw => ?_)
  refine lv_aload_n hx hb dX2_becomes_52 rfl (lv_at hl 0 rfl) ?_
  refine zm_get (v := .ref (am 9)) hx hb hts hi_X2_becomes hown hw hm 8 (by decide) hf_X2_becomes_35 rfl dX2_becomes_53 ?_
  refine lv_iload_n hx hb dX2_becomes_56 rfl (lv_at hl 1 rfl) ?_
  refine lv_iload hx hb dX2_becomes_57 (lv_at hl 6 rfl) ?_
  refine zm_stRD hx hb hw hm (by first | assumption | exact zis_7 (by assumption) | exact zin_7 (by assumption) | exact zin_1 (by assumption)) dX2_becomes_59 (fun f_8 H locs hm hw => ?_)
  exact z_vret hx hb hr hlocks hw (Nat.le_of_ble_eq_true rfl) (Nat.le_of_ble_eq_true rfl) dX2_becomes_60 ⟨rfl, rfl, hm⟩

theorem hi_X2_value : ∀ w ∈ wsX20, w ∈ wsX2_value := by decide +kernel
theorem hf_X2_value_7 : Cond.fieldLink RX2 7 (TX2 0).1 (TX2 0).2.1 (TX2 0).2.2.1 ∈ wsX2_value := by decide +kernel
theorem hf_X2_value_17 : Cond.fieldLink RX2 17 (TX2 2).1 (TX2 2).2.1 (TX2 2).2.2.1 ∈ wsX2_value := by decide +kernel
theorem hf_X2_value_20 : Cond.fieldLink RX2 20 (TX2 3).1 (TX2 3).2.1 (TX2 3).2.2.1 ∈ wsX2_value := by decide +kernel
set_option maxRecDepth 100000 in
set_option maxHeartbeats 4000000 in
theorem c_X2_value (l : Launch) (g : zG) (am : Nat → Nat) (L : List Nat) (f : Nat → va_E) (σ : ZS) (bs : Nat → Int64) (th : Int32) (p0 : Int32) (p1 : Int32) (hm : zM g am f σ bs th L f) (hi : vp_in p0 8) (ha : vp_in (zAt σ (Int32.toNatClampNeg p0) p1) 704) : zC l yX2_value wsX2_value { frames := 0, cells := 0, slots := 0, locals := 0 } 0 0 g [.ref (am 0), .int p0, .int p1] L f (fun r L1 f1 => some (.long (zVal σ (Int32.toNatClampNeg p0) p1)) = r ∧ L = L1 ∧ f = f1) zNo := by
  refine z_ofW (cc := cX2_value) (maxL := 3) (ret := (some .long)) (by decide) rfl (Nat.le_of_ble_eq_true rfl) ?_
  intro p e s m args below meth c ls A hx hb hr hts hown hlocks hml htab hin hw hX hl
  have hl : lv_has ls 3 [(0, .ref (am 0)), (1, .int p0), (2, .int p1)] := hl
  have hown : s.vm.findClass RX2 = some m.cls := hown
  refine lv_aload_n hx hb dX2_value_0 rfl (lv_at hl 0 rfl) ?_
  refine zm_get (v := .ref (am 1)) hx hb hts hi_X2_value hown hw hm 0 (by decide) hf_X2_value_7 rfl dX2_value_1 ?_
  refine lv_bipush (v := 64) hx hb dX2_value_4 (by decide) ?_
  refine lv_aload_n hx hb dX2_value_6 rfl (lv_at hl 0 rfl) ?_
  refine zm_get (v := .ref (am 3)) hx hb hts hi_X2_value hown hw hm 2 (by decide) hf_X2_value_17 rfl dX2_value_7 ?_
  refine lv_iload_n hx hb dX2_value_10 rfl (lv_at hl 1 rfl) ?_
  refine zm_ldSI hx hb hw hm (by first | assumption | exact zis_7 (by assumption) | exact zin_7 (by assumption) | exact zin_1 (by assumption)) dX2_value_11 ?_
  refine lv_imul hx hb dX2_value_12 ?_
  refine lv_aload_n hx hb dX2_value_13 rfl (lv_at hl 0 rfl) ?_
  refine zm_get (v := .ref (am 4)) hx hb hts hi_X2_value hown hw hm 3 (by decide) hf_X2_value_20 rfl dX2_value_14 ?_
  refine lv_iload_n hx hb dX2_value_17 rfl (lv_at hl 1 rfl) ?_
  refine zm_ldFR hx hb hw hm (by first | assumption | exact zis_7 (by assumption) | exact zin_7 (by assumption) | exact zin_1 (by assumption)) dX2_value_18 ?_
  refine lv_iadd hx hb dX2_value_19 ?_
  refine lv_iload_n hx hb dX2_value_20 rfl (lv_at hl 2 rfl) ?_
  refine lv_iadd hx hb dX2_value_21 ?_
  refine zm_ldST hx hb hw hm ha dX2_value_22 ?_
  exact z_lret hx hb hr hlocks hw (Nat.le_of_ble_eq_true rfl) (Nat.le_of_ble_eq_true rfl) dX2_value_23 ⟨rfl, rfl, rfl⟩

theorem hi_X2_lays : ∀ w ∈ wsX20, w ∈ wsX2_lays := by decide +kernel
theorem hf_X2_lays_7 : Cond.fieldLink RX2 7 (TX2 0).1 (TX2 0).2.1 (TX2 0).2.2.1 ∈ wsX2_lays := by decide +kernel
theorem hf_X2_lays_13 : Cond.fieldLink RX2 13 (TX2 1).1 (TX2 1).2.1 (TX2 1).2.2.1 ∈ wsX2_lays := by decide +kernel
theorem hf_X2_lays_17 : Cond.fieldLink RX2 17 (TX2 2).1 (TX2 2).2.1 (TX2 2).2.2.1 ∈ wsX2_lays := by decide +kernel
theorem hf_X2_lays_20 : Cond.fieldLink RX2 20 (TX2 3).1 (TX2 3).2.1 (TX2 3).2.2.1 ∈ wsX2_lays := by decide +kernel
set_option maxRecDepth 100000 in
set_option maxHeartbeats 4000000 in
theorem c_X2_lays (l : Launch) (g : zG) (am : Nat → Nat) (L : List Nat) (f : Nat → va_E) (σ : ZS) (bs : Nat → Int64) (th : Int32) (p0 : Int32) (p1 : Int32) (p2 : Int64) (hm : zM g am f σ bs th L f) (hi : vp_in p0 8) (ha : vp_in (zAt σ (Int32.toNatClampNeg p0) p1) 704) : zC l yX2_lays wsX2_lays { frames := 0, cells := 0, slots := 0, locals := 0 } 0 0 g [.ref (am 0), .int p0, .int p1, .long p2] L f (fun r L1 f1 => none = r ∧ L = L1 ∧ zM g am f (zLay σ (Int32.toNatClampNeg p0) p1 p2) bs th L f1) zNo := by
  refine z_ofW (cc := cX2_lays) (maxL := 8) (ret := none) (by decide) rfl (Nat.le_of_ble_eq_true rfl) ?_
  intro p e s m args below meth c ls A hx hb hr hts hown hlocks hml htab hin hw hX hl
  have hl : lv_has ls 8 [(0, .ref (am 0)), (1, .int p0), (2, .int p1), (3, .long p2)] := hl
  have hown : s.vm.findClass RX2 = some m.cls := hown
  refine lv_aload_n hx hb dX2_lays_0 rfl (lv_at hl 0 rfl) ?_
  refine zm_get (v := .ref (am 2)) hx hb hts hi_X2_lays hown hw hm 1 (by decide) hf_X2_lays_13 rfl dX2_lays_1 ?_
  refine lv_iload_n hx hb dX2_lays_4 rfl (lv_at hl 1 rfl) ?_
  refine zm_ldK hx hb hw hm (by first | assumption | exact zis_7 (by assumption) | exact zin_7 (by assumption) | exact zin_1 (by assumption)) dX2_lays_5 ?_
  refine lv_istore (lv' := [(5, .int (zK σ (Int32.toNatClampNeg p0))), (0, .ref (am 0)), (1, .int p0), (2, .int p1), (3, .long p2)]) hx hb dX2_lays_6 hl (by decide) rfl (fun ls hl => ?_)
  refine lv_iload hx hb dX2_lays_8 (lv_at hl 0 rfl) ?_
  refine lv_bipush (v := 105) hx hb dX2_lays_10 (by decide) ?_
  refine lv_icmp_ne (tgt := 21) hx hb dX2_lays_12 (by decide) (fun c_1 => ?_) (fun c_1 => ?_)
  · refine lv_iload hx hb dX2_lays_21 (lv_at hl 0 rfl) ?_
    refine lv_bipush (v := 99) hx hb dX2_lays_23 (by decide) ?_
    refine lv_icmp_ne (tgt := 36) hx hb dX2_lays_25 (by decide) (fun c_2 => ?_) (fun c_2 => ?_)
    · refine lv_iload hx hb dX2_lays_36 (lv_at hl 0 rfl) ?_
      refine lv_bipush (v := 115) hx hb dX2_lays_38 (by decide) ?_
      refine lv_icmp_ne (tgt := 50) hx hb dX2_lays_40 (by decide) (fun c_3 => ?_) (fun c_3 => ?_)
      · refine lv_lload_n hx hb dX2_lays_50 rfl (lv_at hl 4 rfl) ?_
        refine lv_lstore (lv' := [(6, .long p2), (5, .int (zK σ (Int32.toNatClampNeg p0))), (0, .ref (am 0)), (1, .int p0), (2, .int p1), (3, .long p2)]) hx hb dX2_lays_51 hl (by decide) rfl (fun ls hl => ?_)
        refine lv_aload_n hx hb dX2_lays_53 rfl (lv_at hl 2 rfl) ?_
        refine zm_get (v := .ref (am 1)) hx hb hts hi_X2_lays hown hw hm 0 (by decide) hf_X2_lays_7 rfl dX2_lays_54 ?_
        refine lv_bipush (v := 64) hx hb dX2_lays_57 (by decide) ?_
        refine lv_aload_n hx hb dX2_lays_59 rfl (lv_at hl 2 rfl) ?_
        refine zm_get (v := .ref (am 3)) hx hb hts hi_X2_lays hown hw hm 2 (by decide) hf_X2_lays_17 rfl dX2_lays_60 ?_
        refine lv_iload_n hx hb dX2_lays_63 rfl (lv_at hl 3 rfl) ?_
        refine zm_ldSI hx hb hw hm (by first | assumption | exact zis_7 (by assumption) | exact zin_7 (by assumption) | exact zin_1 (by assumption)) dX2_lays_64 ?_
        refine lv_imul hx hb dX2_lays_65 ?_
        refine lv_aload_n hx hb dX2_lays_66 rfl (lv_at hl 2 rfl) ?_
        refine zm_get (v := .ref (am 4)) hx hb hts hi_X2_lays hown hw hm 3 (by decide) hf_X2_lays_20 rfl dX2_lays_67 ?_
        refine lv_iload_n hx hb dX2_lays_70 rfl (lv_at hl 3 rfl) ?_
        refine zm_ldFR hx hb hw hm (by first | assumption | exact zis_7 (by assumption) | exact zin_7 (by assumption) | exact zin_1 (by assumption)) dX2_lays_71 ?_
        refine lv_iadd hx hb dX2_lays_72 ?_
        refine lv_iload_n hx hb dX2_lays_73 rfl (lv_at hl 4 rfl) ?_
        refine lv_iadd hx hb dX2_lays_74 ?_
        refine lv_lload hx hb dX2_lays_75 (lv_at hl 0 rfl) ?_
        refine zm_stST hx hb hw hm ha dX2_lays_77 (fun f_4 H locs hm hw => ?_)
        have hcut : zcut (zK σ (Int32.toNatClampNeg p0)) p2 = _ := ((if_neg c_1).trans ((if_neg c_2).trans (if_neg c_3)))
        exact z_vret hx hb hr hlocks hw (Nat.le_of_ble_eq_true rfl) (Nat.le_of_ble_eq_true rfl) dX2_lays_78 ⟨rfl, rfl, by unfold zLay; rw [hcut]; exact hm⟩
      · refine lv_lload_n hx hb dX2_lays_43 rfl (lv_at hl 4 rfl) ?_
        refine lv_l2i (v := p2.toInt32) hx hb dX2_lays_44 rfl ?_
        refine lv_i2s (v := p2.toInt32.toInt16.toInt32) hx hb dX2_lays_45 rfl ?_
        refine lv_i2l (v := p2.toInt32.toInt16.toInt32.toInt64) hx hb dX2_lays_46 rfl ?_
        refine lv_goto (tgt := 51) hx hb dX2_lays_47 (by decide) ?_
        refine lv_lstore (lv' := [(6, .long p2.toInt32.toInt16.toInt32.toInt64), (5, .int (zK σ (Int32.toNatClampNeg p0))), (0, .ref (am 0)), (1, .int p0), (2, .int p1), (3, .long p2)]) hx hb dX2_lays_51 hl (by decide) rfl (fun ls hl => ?_)
        refine lv_aload_n hx hb dX2_lays_53 rfl (lv_at hl 2 rfl) ?_
        refine zm_get (v := .ref (am 1)) hx hb hts hi_X2_lays hown hw hm 0 (by decide) hf_X2_lays_7 rfl dX2_lays_54 ?_
        refine lv_bipush (v := 64) hx hb dX2_lays_57 (by decide) ?_
        refine lv_aload_n hx hb dX2_lays_59 rfl (lv_at hl 2 rfl) ?_
        refine zm_get (v := .ref (am 3)) hx hb hts hi_X2_lays hown hw hm 2 (by decide) hf_X2_lays_17 rfl dX2_lays_60 ?_
        refine lv_iload_n hx hb dX2_lays_63 rfl (lv_at hl 3 rfl) ?_
        refine zm_ldSI hx hb hw hm (by first | assumption | exact zis_7 (by assumption) | exact zin_7 (by assumption) | exact zin_1 (by assumption)) dX2_lays_64 ?_
        refine lv_imul hx hb dX2_lays_65 ?_
        refine lv_aload_n hx hb dX2_lays_66 rfl (lv_at hl 2 rfl) ?_
        refine zm_get (v := .ref (am 4)) hx hb hts hi_X2_lays hown hw hm 3 (by decide) hf_X2_lays_20 rfl dX2_lays_67 ?_
        refine lv_iload_n hx hb dX2_lays_70 rfl (lv_at hl 3 rfl) ?_
        refine zm_ldFR hx hb hw hm (by first | assumption | exact zis_7 (by assumption) | exact zin_7 (by assumption) | exact zin_1 (by assumption)) dX2_lays_71 ?_
        refine lv_iadd hx hb dX2_lays_72 ?_
        refine lv_iload_n hx hb dX2_lays_73 rfl (lv_at hl 4 rfl) ?_
        refine lv_iadd hx hb dX2_lays_74 ?_
        refine lv_lload hx hb dX2_lays_75 (lv_at hl 0 rfl) ?_
        refine zm_stST hx hb hw hm ha dX2_lays_77 (fun f_5 H locs hm hw => ?_)
        have hcut : zcut (zK σ (Int32.toNatClampNeg p0)) p2 = _ := ((if_neg c_1).trans ((if_neg c_2).trans (if_pos c_3)))
        exact z_vret hx hb hr hlocks hw (Nat.le_of_ble_eq_true rfl) (Nat.le_of_ble_eq_true rfl) dX2_lays_78 ⟨rfl, rfl, by unfold zLay; rw [hcut]; exact hm⟩
    · refine lv_lload_n hx hb dX2_lays_28 rfl (lv_at hl 4 rfl) ?_
      refine lv_ldc2 (v := 255) hx hb hown (hts (.constantLong RX2 79 255) (by decide +kernel)) dX2_lays_29 ?_
      refine lv_land hx hb dX2_lays_32 ?_
      refine lv_goto (tgt := 51) hx hb dX2_lays_33 (by decide) ?_
      refine lv_lstore (lv' := [(6, .long (p2 &&& 255)), (5, .int (zK σ (Int32.toNatClampNeg p0))), (0, .ref (am 0)), (1, .int p0), (2, .int p1), (3, .long p2)]) hx hb dX2_lays_51 hl (by decide) rfl (fun ls hl => ?_)
      refine lv_aload_n hx hb dX2_lays_53 rfl (lv_at hl 2 rfl) ?_
      refine zm_get (v := .ref (am 1)) hx hb hts hi_X2_lays hown hw hm 0 (by decide) hf_X2_lays_7 rfl dX2_lays_54 ?_
      refine lv_bipush (v := 64) hx hb dX2_lays_57 (by decide) ?_
      refine lv_aload_n hx hb dX2_lays_59 rfl (lv_at hl 2 rfl) ?_
      refine zm_get (v := .ref (am 3)) hx hb hts hi_X2_lays hown hw hm 2 (by decide) hf_X2_lays_17 rfl dX2_lays_60 ?_
      refine lv_iload_n hx hb dX2_lays_63 rfl (lv_at hl 3 rfl) ?_
      refine zm_ldSI hx hb hw hm (by first | assumption | exact zis_7 (by assumption) | exact zin_7 (by assumption) | exact zin_1 (by assumption)) dX2_lays_64 ?_
      refine lv_imul hx hb dX2_lays_65 ?_
      refine lv_aload_n hx hb dX2_lays_66 rfl (lv_at hl 2 rfl) ?_
      refine zm_get (v := .ref (am 4)) hx hb hts hi_X2_lays hown hw hm 3 (by decide) hf_X2_lays_20 rfl dX2_lays_67 ?_
      refine lv_iload_n hx hb dX2_lays_70 rfl (lv_at hl 3 rfl) ?_
      refine zm_ldFR hx hb hw hm (by first | assumption | exact zis_7 (by assumption) | exact zin_7 (by assumption) | exact zin_1 (by assumption)) dX2_lays_71 ?_
      refine lv_iadd hx hb dX2_lays_72 ?_
      refine lv_iload_n hx hb dX2_lays_73 rfl (lv_at hl 4 rfl) ?_
      refine lv_iadd hx hb dX2_lays_74 ?_
      refine lv_lload hx hb dX2_lays_75 (lv_at hl 0 rfl) ?_
      refine zm_stST hx hb hw hm ha dX2_lays_77 (fun f_6 H locs hm hw => ?_)
      have hcut : zcut (zK σ (Int32.toNatClampNeg p0)) p2 = _ := ((if_neg c_1).trans (if_pos c_2))
      exact z_vret hx hb hr hlocks hw (Nat.le_of_ble_eq_true rfl) (Nat.le_of_ble_eq_true rfl) dX2_lays_78 ⟨rfl, rfl, by unfold zLay; rw [hcut]; exact hm⟩
  · refine lv_lload_n hx hb dX2_lays_15 rfl (lv_at hl 4 rfl) ?_
    refine lv_l2i (v := p2.toInt32) hx hb dX2_lays_16 rfl ?_
    refine lv_i2l (v := p2.toInt32.toInt64) hx hb dX2_lays_17 rfl ?_
    refine lv_goto (tgt := 51) hx hb dX2_lays_18 (by decide) ?_
    refine lv_lstore (lv' := [(6, .long p2.toInt32.toInt64), (5, .int (zK σ (Int32.toNatClampNeg p0))), (0, .ref (am 0)), (1, .int p0), (2, .int p1), (3, .long p2)]) hx hb dX2_lays_51 hl (by decide) rfl (fun ls hl => ?_)
    refine lv_aload_n hx hb dX2_lays_53 rfl (lv_at hl 2 rfl) ?_
    refine zm_get (v := .ref (am 1)) hx hb hts hi_X2_lays hown hw hm 0 (by decide) hf_X2_lays_7 rfl dX2_lays_54 ?_
    refine lv_bipush (v := 64) hx hb dX2_lays_57 (by decide) ?_
    refine lv_aload_n hx hb dX2_lays_59 rfl (lv_at hl 2 rfl) ?_
    refine zm_get (v := .ref (am 3)) hx hb hts hi_X2_lays hown hw hm 2 (by decide) hf_X2_lays_17 rfl dX2_lays_60 ?_
    refine lv_iload_n hx hb dX2_lays_63 rfl (lv_at hl 3 rfl) ?_
    refine zm_ldSI hx hb hw hm (by first | assumption | exact zis_7 (by assumption) | exact zin_7 (by assumption) | exact zin_1 (by assumption)) dX2_lays_64 ?_
    refine lv_imul hx hb dX2_lays_65 ?_
    refine lv_aload_n hx hb dX2_lays_66 rfl (lv_at hl 2 rfl) ?_
    refine zm_get (v := .ref (am 4)) hx hb hts hi_X2_lays hown hw hm 3 (by decide) hf_X2_lays_20 rfl dX2_lays_67 ?_
    refine lv_iload_n hx hb dX2_lays_70 rfl (lv_at hl 3 rfl) ?_
    refine zm_ldFR hx hb hw hm (by first | assumption | exact zis_7 (by assumption) | exact zin_7 (by assumption) | exact zin_1 (by assumption)) dX2_lays_71 ?_
    refine lv_iadd hx hb dX2_lays_72 ?_
    refine lv_iload_n hx hb dX2_lays_73 rfl (lv_at hl 4 rfl) ?_
    refine lv_iadd hx hb dX2_lays_74 ?_
    refine lv_lload hx hb dX2_lays_75 (lv_at hl 0 rfl) ?_
    refine zm_stST hx hb hw hm ha dX2_lays_77 (fun f_7 H locs hm hw => ?_)
    have hcut : zcut (zK σ (Int32.toNatClampNeg p0)) p2 = _ := (if_pos c_1)
    exact z_vret hx hb hr hlocks hw (Nat.le_of_ble_eq_true rfl) (Nat.le_of_ble_eq_true rfl) dX2_lays_78 ⟨rfl, rfl, by unfold zLay; rw [hcut]; exact hm⟩
